theorem dX10_winterLine_0 : decode cX10_winterLine 0 = .ok (.bipush 16, 2) := by decide +kernel
theorem dX10_winterLine_2 : decode cX10_winterLine 2 = .ok (.istore_n 1, 1) := by decide +kernel
theorem dX10_winterLine_3 : decode cX10_winterLine 3 = .ok (.aload_n 0, 1) := by decide +kernel
theorem dX10_winterLine_4 : decode cX10_winterLine 4 = .ok (.ldc2_w 193, 3) := by decide +kernel
theorem dX10_winterLine_7 : decode cX10_winterLine 7 = .ok (.invokevirtual 182, 3) := by decide +kernel
theorem dX10_winterLine_10 : decode cX10_winterLine 10 = .ok (.aload_n 0, 1) := by decide +kernel
theorem dX10_winterLine_11 : decode cX10_winterLine 11 = .ok (.getfield 34, 3) := by decide +kernel
theorem dX10_winterLine_14 : decode cX10_winterLine 14 = .ok (.iload_n 1, 1) := by decide +kernel
theorem dX10_winterLine_15 : decode cX10_winterLine 15 = .ok (.aload_n 0, 1) := by decide +kernel
theorem dX10_winterLine_16 : decode cX10_winterLine 16 = .ok (.ldc2_w 195, 3) := by decide +kernel
theorem dX10_winterLine_19 : decode cX10_winterLine 19 = .ok (.iconst 1, 1) := by decide +kernel
theorem dX10_winterLine_20 : decode cX10_winterLine 20 = .ok (.bipush 60, 2) := by decide +kernel
theorem dX10_winterLine_22 : decode cX10_winterLine 22 = .ok (.invokevirtual 197, 3) := by decide +kernel
theorem dX10_winterLine_25 : decode cX10_winterLine 25 = .ok (.iastore, 1) := by decide +kernel
theorem dX10_winterLine_26 : decode cX10_winterLine 26 = .ok (.aload_n 0, 1) := by decide +kernel
theorem dX10_winterLine_27 : decode cX10_winterLine 27 = .ok (.getfield 34, 3) := by decide +kernel
theorem dX10_winterLine_30 : decode cX10_winterLine 30 = .ok (.iload_n 1, 1) := by decide +kernel
theorem dX10_winterLine_31 : decode cX10_winterLine 31 = .ok (.iconst 1, 1) := by decide +kernel
theorem dX10_winterLine_32 : decode cX10_winterLine 32 = .ok (.iadd, 1) := by decide +kernel
theorem dX10_winterLine_33 : decode cX10_winterLine 33 = .ok (.aload_n 0, 1) := by decide +kernel
theorem dX10_winterLine_34 : decode cX10_winterLine 34 = .ok (.ldc2_w 200, 3) := by decide +kernel
theorem dX10_winterLine_37 : decode cX10_winterLine 37 = .ok (.iconst 0, 1) := by decide +kernel
theorem dX10_winterLine_38 : decode cX10_winterLine 38 = .ok (.bipush 100, 2) := by decide +kernel
theorem dX10_winterLine_40 : decode cX10_winterLine 40 = .ok (.invokevirtual 197, 3) := by decide +kernel
theorem dX10_winterLine_43 : decode cX10_winterLine 43 = .ok (.iastore, 1) := by decide +kernel
theorem dX10_winterLine_44 : decode cX10_winterLine 44 = .ok (.aload_n 0, 1) := by decide +kernel
theorem dX10_winterLine_45 : decode cX10_winterLine 45 = .ok (.getfield 34, 3) := by decide +kernel
theorem dX10_winterLine_48 : decode cX10_winterLine 48 = .ok (.iload_n 1, 1) := by decide +kernel
theorem dX10_winterLine_49 : decode cX10_winterLine 49 = .ok (.iconst 2, 1) := by decide +kernel
theorem dX10_winterLine_50 : decode cX10_winterLine 50 = .ok (.iadd, 1) := by decide +kernel
theorem dX10_winterLine_51 : decode cX10_winterLine 51 = .ok (.aload_n 0, 1) := by decide +kernel
theorem dX10_winterLine_52 : decode cX10_winterLine 52 = .ok (.ldc2_w 202, 3) := by decide +kernel
theorem dX10_winterLine_55 : decode cX10_winterLine 55 = .ok (.iconst 0, 1) := by decide +kernel
theorem dX10_winterLine_56 : decode cX10_winterLine 56 = .ok (.bipush 100, 2) := by decide +kernel
theorem dX10_winterLine_58 : decode cX10_winterLine 58 = .ok (.invokevirtual 197, 3) := by decide +kernel
theorem dX10_winterLine_61 : decode cX10_winterLine 61 = .ok (.iastore, 1) := by decide +kernel
theorem dX10_winterLine_62 : decode cX10_winterLine 62 = .ok (.aload_n 0, 1) := by decide +kernel
theorem dX10_winterLine_63 : decode cX10_winterLine 63 = .ok (.getfield 34, 3) := by decide +kernel
theorem dX10_winterLine_66 : decode cX10_winterLine 66 = .ok (.iload_n 1, 1) := by decide +kernel
theorem dX10_winterLine_67 : decode cX10_winterLine 67 = .ok (.iconst 3, 1) := by decide +kernel
theorem dX10_winterLine_68 : decode cX10_winterLine 68 = .ok (.iadd, 1) := by decide +kernel
theorem dX10_winterLine_69 : decode cX10_winterLine 69 = .ok (.aload_n 0, 1) := by decide +kernel
theorem dX10_winterLine_70 : decode cX10_winterLine 70 = .ok (.ldc2_w 204, 3) := by decide +kernel
theorem dX10_winterLine_73 : decode cX10_winterLine 73 = .ok (.iconst 0, 1) := by decide +kernel
theorem dX10_winterLine_74 : decode cX10_winterLine 74 = .ok (.bipush 100, 2) := by decide +kernel
theorem dX10_winterLine_76 : decode cX10_winterLine 76 = .ok (.invokevirtual 197, 3) := by decide +kernel
theorem dX10_winterLine_79 : decode cX10_winterLine 79 = .ok (.iastore, 1) := by decide +kernel
theorem dX10_winterLine_80 : decode cX10_winterLine 80 = .ok (.return_, 1) := by decide +kernel
theorem dX10_thingLine_0 : decode cX10_thingLine 0 = .ok (.iconst 3, 1) := by decide +kernel
theorem dX10_thingLine_1 : decode cX10_thingLine 1 = .ok (.bipush 12, 2) := by decide +kernel
theorem dX10_thingLine_3 : decode cX10_thingLine 3 = .ok (.aload_n 0, 1) := by decide +kernel
theorem dX10_thingLine_4 : decode cX10_thingLine 4 = .ok (.getfield 37, 3) := by decide +kernel
theorem dX10_thingLine_7 : decode cX10_thingLine 7 = .ok (.iconst 4, 1) := by decide +kernel
theorem dX10_thingLine_8 : decode cX10_thingLine 8 = .ok (.iaload, 1) := by decide +kernel
theorem dX10_thingLine_9 : decode cX10_thingLine 9 = .ok (.iadd, 1) := by decide +kernel
theorem dX10_thingLine_10 : decode cX10_thingLine 10 = .ok (.imul, 1) := by decide +kernel
theorem dX10_thingLine_11 : decode cX10_thingLine 11 = .ok (.istore_n 1, 1) := by decide +kernel
theorem dX10_thingLine_12 : decode cX10_thingLine 12 = .ok (.aload_n 0, 1) := by decide +kernel
theorem dX10_thingLine_13 : decode cX10_thingLine 13 = .ok (.getfield 40, 3) := by decide +kernel
theorem dX10_thingLine_16 : decode cX10_thingLine 16 = .ok (.iload_n 1, 1) := by decide +kernel
theorem dX10_thingLine_17 : decode cX10_thingLine 17 = .ok (.aload_n 0, 1) := by decide +kernel
theorem dX10_thingLine_18 : decode cX10_thingLine 18 = .ok (.ldc2_w 206, 3) := by decide +kernel
theorem dX10_thingLine_21 : decode cX10_thingLine 21 = .ok (.iconst 0, 1) := by decide +kernel
theorem dX10_thingLine_22 : decode cX10_thingLine 22 = .ok (.bipush 99, 2) := by decide +kernel
theorem dX10_thingLine_24 : decode cX10_thingLine 24 = .ok (.invokevirtual 197, 3) := by decide +kernel
theorem dX10_thingLine_27 : decode cX10_thingLine 27 = .ok (.iastore, 1) := by decide +kernel
theorem dX10_thingLine_28 : decode cX10_thingLine 28 = .ok (.aload_n 0, 1) := by decide +kernel
theorem dX10_thingLine_29 : decode cX10_thingLine 29 = .ok (.getfield 40, 3) := by decide +kernel
theorem dX10_thingLine_32 : decode cX10_thingLine 32 = .ok (.iload_n 1, 1) := by decide +kernel
theorem dX10_thingLine_33 : decode cX10_thingLine 33 = .ok (.iconst 1, 1) := by decide +kernel
theorem dX10_thingLine_34 : decode cX10_thingLine 34 = .ok (.iadd, 1) := by decide +kernel
theorem dX10_thingLine_35 : decode cX10_thingLine 35 = .ok (.aload_n 0, 1) := by decide +kernel
theorem dX10_thingLine_36 : decode cX10_thingLine 36 = .ok (.ldc2_w 208, 3) := by decide +kernel
theorem dX10_thingLine_39 : decode cX10_thingLine 39 = .ok (.iconst 0, 1) := by decide +kernel
theorem dX10_thingLine_40 : decode cX10_thingLine 40 = .ok (.sipush 999, 3) := by decide +kernel
theorem dX10_thingLine_43 : decode cX10_thingLine 43 = .ok (.invokevirtual 197, 3) := by decide +kernel
theorem dX10_thingLine_46 : decode cX10_thingLine 46 = .ok (.iastore, 1) := by decide +kernel
theorem dX10_thingLine_47 : decode cX10_thingLine 47 = .ok (.aload_n 0, 1) := by decide +kernel
theorem dX10_thingLine_48 : decode cX10_thingLine 48 = .ok (.getfield 40, 3) := by decide +kernel
theorem dX10_thingLine_51 : decode cX10_thingLine 51 = .ok (.iload_n 1, 1) := by decide +kernel
theorem dX10_thingLine_52 : decode cX10_thingLine 52 = .ok (.iconst 2, 1) := by decide +kernel
theorem dX10_thingLine_53 : decode cX10_thingLine 53 = .ok (.iadd, 1) := by decide +kernel
theorem dX10_thingLine_54 : decode cX10_thingLine 54 = .ok (.aload_n 0, 1) := by decide +kernel
theorem dX10_thingLine_55 : decode cX10_thingLine 55 = .ok (.ldc2_w 210, 3) := by decide +kernel
theorem dX10_thingLine_58 : decode cX10_thingLine 58 = .ok (.iconst 0, 1) := by decide +kernel
theorem dX10_thingLine_59 : decode cX10_thingLine 59 = .ok (.bipush 99, 2) := by decide +kernel
theorem dX10_thingLine_61 : decode cX10_thingLine 61 = .ok (.invokevirtual 197, 3) := by decide +kernel
theorem dX10_thingLine_64 : decode cX10_thingLine 64 = .ok (.iastore, 1) := by decide +kernel
theorem dX10_thingLine_65 : decode cX10_thingLine 65 = .ok (.aload_n 0, 1) := by decide +kernel
theorem dX10_thingLine_66 : decode cX10_thingLine 66 = .ok (.getfield 37, 3) := by decide +kernel
theorem dX10_thingLine_69 : decode cX10_thingLine 69 = .ok (.iconst 4, 1) := by decide +kernel
theorem dX10_thingLine_70 : decode cX10_thingLine 70 = .ok (.dup2, 1) := by decide +kernel
theorem dX10_thingLine_71 : decode cX10_thingLine 71 = .ok (.iaload, 1) := by decide +kernel
theorem dX10_thingLine_72 : decode cX10_thingLine 72 = .ok (.iconst 1, 1) := by decide +kernel
theorem dX10_thingLine_73 : decode cX10_thingLine 73 = .ok (.iadd, 1) := by decide +kernel
theorem dX10_thingLine_74 : decode cX10_thingLine 74 = .ok (.iastore, 1) := by decide +kernel
theorem dX10_thingLine_75 : decode cX10_thingLine 75 = .ok (.return_, 1) := by decide +kernel
theorem dX10_valleyLine_0 : decode cX10_valleyLine 0 = .ok (.iconst 5, 1) := by decide +kernel
theorem dX10_valleyLine_1 : decode cX10_valleyLine 1 = .ok (.bipush 24, 2) := by decide +kernel
theorem dX10_valleyLine_3 : decode cX10_valleyLine 3 = .ok (.aload_n 0, 1) := by decide +kernel
theorem dX10_valleyLine_4 : decode cX10_valleyLine 4 = .ok (.getfield 43, 3) := by decide +kernel
theorem dX10_valleyLine_7 : decode cX10_valleyLine 7 = .ok (.iconst 4, 1) := by decide +kernel
theorem dX10_valleyLine_8 : decode cX10_valleyLine 8 = .ok (.iaload, 1) := by decide +kernel
theorem dX10_valleyLine_9 : decode cX10_valleyLine 9 = .ok (.iadd, 1) := by decide +kernel
theorem dX10_valleyLine_10 : decode cX10_valleyLine 10 = .ok (.imul, 1) := by decide +kernel
theorem dX10_valleyLine_11 : decode cX10_valleyLine 11 = .ok (.istore_n 1, 1) := by decide +kernel
theorem dX10_valleyLine_12 : decode cX10_valleyLine 12 = .ok (.aload_n 0, 1) := by decide +kernel
theorem dX10_valleyLine_13 : decode cX10_valleyLine 13 = .ok (.getfield 46, 3) := by decide +kernel
theorem dX10_valleyLine_16 : decode cX10_valleyLine 16 = .ok (.iload_n 1, 1) := by decide +kernel
theorem dX10_valleyLine_17 : decode cX10_valleyLine 17 = .ok (.aload_n 0, 1) := by decide +kernel
theorem dX10_valleyLine_18 : decode cX10_valleyLine 18 = .ok (.ldc2_w 212, 3) := by decide +kernel
theorem dX10_valleyLine_21 : decode cX10_valleyLine 21 = .ok (.iconst 0, 1) := by decide +kernel
theorem dX10_valleyLine_22 : decode cX10_valleyLine 22 = .ok (.bipush 100, 2) := by decide +kernel
theorem dX10_valleyLine_24 : decode cX10_valleyLine 24 = .ok (.invokevirtual 197, 3) := by decide +kernel
theorem dX10_valleyLine_27 : decode cX10_valleyLine 27 = .ok (.iastore, 1) := by decide +kernel
theorem dX10_valleyLine_28 : decode cX10_valleyLine 28 = .ok (.aload_n 0, 1) := by decide +kernel
theorem dX10_valleyLine_29 : decode cX10_valleyLine 29 = .ok (.getfield 46, 3) := by decide +kernel
theorem dX10_valleyLine_32 : decode cX10_valleyLine 32 = .ok (.iload_n 1, 1) := by decide +kernel
theorem dX10_valleyLine_33 : decode cX10_valleyLine 33 = .ok (.iconst 1, 1) := by decide +kernel
theorem dX10_valleyLine_34 : decode cX10_valleyLine 34 = .ok (.iadd, 1) := by decide +kernel
theorem dX10_valleyLine_35 : decode cX10_valleyLine 35 = .ok (.aload_n 0, 1) := by decide +kernel
theorem dX10_valleyLine_36 : decode cX10_valleyLine 36 = .ok (.ldc2_w 214, 3) := by decide +kernel
theorem dX10_valleyLine_39 : decode cX10_valleyLine 39 = .ok (.iconst 0, 1) := by decide +kernel
theorem dX10_valleyLine_40 : decode cX10_valleyLine 40 = .ok (.sipush 999, 3) := by decide +kernel
theorem dX10_valleyLine_43 : decode cX10_valleyLine 43 = .ok (.invokevirtual 197, 3) := by decide +kernel
theorem dX10_valleyLine_46 : decode cX10_valleyLine 46 = .ok (.iastore, 1) := by decide +kernel
theorem dX10_valleyLine_47 : decode cX10_valleyLine 47 = .ok (.aload_n 0, 1) := by decide +kernel
theorem dX10_valleyLine_48 : decode cX10_valleyLine 48 = .ok (.ldc2_w 216, 3) := by decide +kernel
theorem dX10_valleyLine_51 : decode cX10_valleyLine 51 = .ok (.invokevirtual 182, 3) := by decide +kernel
theorem dX10_valleyLine_54 : decode cX10_valleyLine 54 = .ok (.iconst 0, 1) := by decide +kernel
theorem dX10_valleyLine_55 : decode cX10_valleyLine 55 = .ok (.istore_n 2, 1) := by decide +kernel
theorem dX10_valleyLine_56 : decode cX10_valleyLine 56 = .ok (.iload_n 2, 1) := by decide +kernel
theorem dX10_valleyLine_57 : decode cX10_valleyLine 57 = .ok (.iconst 3, 1) := by decide +kernel
theorem dX10_valleyLine_58 : decode cX10_valleyLine 58 = .ok (.if_icmp .ge 40, 3) := by decide +kernel
theorem dX10_valleyLine_98 : decode cX10_valleyLine 98 = .ok (.aload_n 0, 1) := by decide +kernel
theorem dX10_valleyLine_99 : decode cX10_valleyLine 99 = .ok (.getfield 43, 3) := by decide +kernel
theorem dX10_valleyLine_102 : decode cX10_valleyLine 102 = .ok (.iconst 4, 1) := by decide +kernel
theorem dX10_valleyLine_103 : decode cX10_valleyLine 103 = .ok (.dup2, 1) := by decide +kernel
theorem dX10_valleyLine_104 : decode cX10_valleyLine 104 = .ok (.iaload, 1) := by decide +kernel
theorem dX10_valleyLine_105 : decode cX10_valleyLine 105 = .ok (.iconst 1, 1) := by decide +kernel
theorem dX10_valleyLine_106 : decode cX10_valleyLine 106 = .ok (.iadd, 1) := by decide +kernel
theorem dX10_valleyLine_107 : decode cX10_valleyLine 107 = .ok (.iastore, 1) := by decide +kernel
theorem dX10_valleyLine_108 : decode cX10_valleyLine 108 = .ok (.return_, 1) := by decide +kernel
theorem dX10_valleyLine_61 : decode cX10_valleyLine 61 = .ok (.aload_n 0, 1) := by decide +kernel
theorem dX10_valleyLine_62 : decode cX10_valleyLine 62 = .ok (.getfield 46, 3) := by decide +kernel
theorem dX10_valleyLine_65 : decode cX10_valleyLine 65 = .ok (.iload_n 1, 1) := by decide +kernel
theorem dX10_valleyLine_66 : decode cX10_valleyLine 66 = .ok (.iconst 2, 1) := by decide +kernel
theorem dX10_valleyLine_67 : decode cX10_valleyLine 67 = .ok (.iadd, 1) := by decide +kernel
theorem dX10_valleyLine_68 : decode cX10_valleyLine 68 = .ok (.iload_n 2, 1) := by decide +kernel
theorem dX10_valleyLine_69 : decode cX10_valleyLine 69 = .ok (.iadd, 1) := by decide +kernel
theorem dX10_valleyLine_70 : decode cX10_valleyLine 70 = .ok (.iload_n 2, 1) := by decide +kernel
theorem dX10_valleyLine_71 : decode cX10_valleyLine 71 = .ok (.aload_n 0, 1) := by decide +kernel
theorem dX10_valleyLine_72 : decode cX10_valleyLine 72 = .ok (.getfield 37, 3) := by decide +kernel
theorem dX10_valleyLine_75 : decode cX10_valleyLine 75 = .ok (.iconst 4, 1) := by decide +kernel
theorem dX10_valleyLine_76 : decode cX10_valleyLine 76 = .ok (.iaload, 1) := by decide +kernel
theorem dX10_valleyLine_77 : decode cX10_valleyLine 77 = .ok (.if_icmp .ge 13, 3) := by decide +kernel
theorem dX10_valleyLine_90 : decode cX10_valleyLine 90 = .ok (.iconst 0, 1) := by decide +kernel
theorem dX10_valleyLine_91 : decode cX10_valleyLine 91 = .ok (.iastore, 1) := by decide +kernel
theorem dX10_valleyLine_92 : decode cX10_valleyLine 92 = .ok (.iinc 2 1, 3) := by decide +kernel
theorem dX10_valleyLine_95 : decode cX10_valleyLine 95 = .ok (.goto (-39), 3) := by decide +kernel
theorem dX10_valleyLine_80 : decode cX10_valleyLine 80 = .ok (.aload_n 0, 1) := by decide +kernel
theorem dX10_valleyLine_81 : decode cX10_valleyLine 81 = .ok (.iconst 0, 1) := by decide +kernel
theorem dX10_valleyLine_82 : decode cX10_valleyLine 82 = .ok (.bipush 9, 2) := by decide +kernel
theorem dX10_valleyLine_84 : decode cX10_valleyLine 84 = .ok (.invokevirtual 186, 3) := by decide +kernel
theorem dX10_valleyLine_87 : decode cX10_valleyLine 87 = .ok (.goto 4, 3) := by decide +kernel
theorem dX10_pathLine_0 : decode cX10_pathLine 0 = .ok (.iconst 3, 1) := by decide +kernel
theorem dX10_pathLine_1 : decode cX10_pathLine 1 = .ok (.bipush 32, 2) := by decide +kernel
theorem dX10_pathLine_3 : decode cX10_pathLine 3 = .ok (.aload_n 0, 1) := by decide +kernel
theorem dX10_pathLine_4 : decode cX10_pathLine 4 = .ok (.getfield 49, 3) := by decide +kernel
theorem dX10_pathLine_7 : decode cX10_pathLine 7 = .ok (.iconst 4, 1) := by decide +kernel
theorem dX10_pathLine_8 : decode cX10_pathLine 8 = .ok (.iaload, 1) := by decide +kernel
theorem dX10_pathLine_9 : decode cX10_pathLine 9 = .ok (.iadd, 1) := by decide +kernel
theorem dX10_pathLine_10 : decode cX10_pathLine 10 = .ok (.imul, 1) := by decide +kernel
theorem dX10_pathLine_11 : decode cX10_pathLine 11 = .ok (.istore_n 1, 1) := by decide +kernel
theorem dX10_pathLine_12 : decode cX10_pathLine 12 = .ok (.aload_n 0, 1) := by decide +kernel
theorem dX10_pathLine_13 : decode cX10_pathLine 13 = .ok (.iconst 0, 1) := by decide +kernel
theorem dX10_pathLine_14 : decode cX10_pathLine 14 = .ok (.aload_n 0, 1) := by decide +kernel
theorem dX10_pathLine_15 : decode cX10_pathLine 15 = .ok (.getfield 43, 3) := by decide +kernel
theorem dX10_pathLine_18 : decode cX10_pathLine 18 = .ok (.iconst 4, 1) := by decide +kernel
theorem dX10_pathLine_19 : decode cX10_pathLine 19 = .ok (.iaload, 1) := by decide +kernel
theorem dX10_pathLine_20 : decode cX10_pathLine 20 = .ok (.iconst 1, 1) := by decide +kernel
theorem dX10_pathLine_21 : decode cX10_pathLine 21 = .ok (.isub, 1) := by decide +kernel
theorem dX10_pathLine_22 : decode cX10_pathLine 22 = .ok (.invokevirtual 186, 3) := by decide +kernel
theorem dX10_pathLine_25 : decode cX10_pathLine 25 = .ok (.istore_n 2, 1) := by decide +kernel
theorem dX10_pathLine_26 : decode cX10_pathLine 26 = .ok (.aload_n 0, 1) := by decide +kernel
theorem dX10_pathLine_27 : decode cX10_pathLine 27 = .ok (.getfield 163, 3) := by decide +kernel
theorem dX10_pathLine_30 : decode cX10_pathLine 30 = .ok (.ifCond .ne 23, 3) := by decide +kernel
theorem dX10_pathLine_53 : decode cX10_pathLine 53 = .ok (.iconst 0, 1) := by decide +kernel
theorem dX10_pathLine_54 : decode cX10_pathLine 54 = .ok (.istore_n 3, 1) := by decide +kernel
theorem dX10_pathLine_55 : decode cX10_pathLine 55 = .ok (.iconst 0, 1) := by decide +kernel
theorem dX10_pathLine_56 : decode cX10_pathLine 56 = .ok (.istore 4, 2) := by decide +kernel
theorem dX10_pathLine_58 : decode cX10_pathLine 58 = .ok (.iload 4, 2) := by decide +kernel
theorem dX10_pathLine_60 : decode cX10_pathLine 60 = .ok (.aload_n 0, 1) := by decide +kernel
theorem dX10_pathLine_61 : decode cX10_pathLine 61 = .ok (.getfield 49, 3) := by decide +kernel
theorem dX10_pathLine_64 : decode cX10_pathLine 64 = .ok (.iconst 4, 1) := by decide +kernel
theorem dX10_pathLine_65 : decode cX10_pathLine 65 = .ok (.iaload, 1) := by decide +kernel
theorem dX10_pathLine_66 : decode cX10_pathLine 66 = .ok (.if_icmp .ge 97, 3) := by decide +kernel
theorem dX10_pathLine_163 : decode cX10_pathLine 163 = .ok (.iload_n 3, 1) := by decide +kernel
theorem dX10_pathLine_164 : decode cX10_pathLine 164 = .ok (.ifCond .eq 8, 3) := by decide +kernel
theorem dX10_pathLine_172 : decode cX10_pathLine 172 = .ok (.aload_n 0, 1) := by decide +kernel
theorem dX10_pathLine_173 : decode cX10_pathLine 173 = .ok (.getfield 52, 3) := by decide +kernel
theorem dX10_pathLine_176 : decode cX10_pathLine 176 = .ok (.iload_n 1, 1) := by decide +kernel
theorem dX10_pathLine_177 : decode cX10_pathLine 177 = .ok (.iload_n 2, 1) := by decide +kernel
theorem dX10_pathLine_178 : decode cX10_pathLine 178 = .ok (.iastore, 1) := by decide +kernel
theorem dX10_pathLine_179 : decode cX10_pathLine 179 = .ok (.aload_n 0, 1) := by decide +kernel
theorem dX10_pathLine_180 : decode cX10_pathLine 180 = .ok (.getfield 52, 3) := by decide +kernel
theorem dX10_pathLine_183 : decode cX10_pathLine 183 = .ok (.iload_n 1, 1) := by decide +kernel
theorem dX10_pathLine_184 : decode cX10_pathLine 184 = .ok (.iconst 1, 1) := by decide +kernel
theorem dX10_pathLine_185 : decode cX10_pathLine 185 = .ok (.iadd, 1) := by decide +kernel
theorem dX10_pathLine_186 : decode cX10_pathLine 186 = .ok (.aload_n 0, 1) := by decide +kernel
theorem dX10_pathLine_187 : decode cX10_pathLine 187 = .ok (.iconst 0, 1) := by decide +kernel
theorem dX10_pathLine_188 : decode cX10_pathLine 188 = .ok (.aload_n 0, 1) := by decide +kernel
theorem dX10_pathLine_189 : decode cX10_pathLine 189 = .ok (.getfield 43, 3) := by decide +kernel
theorem dX10_pathLine_192 : decode cX10_pathLine 192 = .ok (.iconst 4, 1) := by decide +kernel
theorem dX10_pathLine_193 : decode cX10_pathLine 193 = .ok (.iaload, 1) := by decide +kernel
theorem dX10_pathLine_194 : decode cX10_pathLine 194 = .ok (.iconst 1, 1) := by decide +kernel
theorem dX10_pathLine_195 : decode cX10_pathLine 195 = .ok (.isub, 1) := by decide +kernel
theorem dX10_pathLine_196 : decode cX10_pathLine 196 = .ok (.invokevirtual 186, 3) := by decide +kernel
theorem dX10_pathLine_199 : decode cX10_pathLine 199 = .ok (.iastore, 1) := by decide +kernel
theorem dX10_pathLine_200 : decode cX10_pathLine 200 = .ok (.aload_n 0, 1) := by decide +kernel
theorem dX10_pathLine_201 : decode cX10_pathLine 201 = .ok (.getfield 52, 3) := by decide +kernel
theorem dX10_pathLine_204 : decode cX10_pathLine 204 = .ok (.iload_n 1, 1) := by decide +kernel
theorem dX10_pathLine_205 : decode cX10_pathLine 205 = .ok (.iconst 2, 1) := by decide +kernel
theorem dX10_pathLine_206 : decode cX10_pathLine 206 = .ok (.iadd, 1) := by decide +kernel
theorem dX10_pathLine_207 : decode cX10_pathLine 207 = .ok (.aload_n 0, 1) := by decide +kernel
theorem dX10_pathLine_208 : decode cX10_pathLine 208 = .ok (.ldc2_w 195, 3) := by decide +kernel
theorem dX10_pathLine_211 : decode cX10_pathLine 211 = .ok (.iconst 1, 1) := by decide +kernel
theorem dX10_pathLine_212 : decode cX10_pathLine 212 = .ok (.bipush 30, 2) := by decide +kernel
theorem dX10_pathLine_214 : decode cX10_pathLine 214 = .ok (.invokevirtual 197, 3) := by decide +kernel
theorem dX10_pathLine_217 : decode cX10_pathLine 217 = .ok (.iastore, 1) := by decide +kernel
theorem dX10_pathLine_218 : decode cX10_pathLine 218 = .ok (.aload_n 0, 1) := by decide +kernel
theorem dX10_pathLine_219 : decode cX10_pathLine 219 = .ok (.getfield 49, 3) := by decide +kernel
theorem dX10_pathLine_222 : decode cX10_pathLine 222 = .ok (.iconst 4, 1) := by decide +kernel
theorem dX10_pathLine_223 : decode cX10_pathLine 223 = .ok (.dup2, 1) := by decide +kernel
theorem dX10_pathLine_224 : decode cX10_pathLine 224 = .ok (.iaload, 1) := by decide +kernel
theorem dX10_pathLine_225 : decode cX10_pathLine 225 = .ok (.iconst 1, 1) := by decide +kernel
theorem dX10_pathLine_226 : decode cX10_pathLine 226 = .ok (.iadd, 1) := by decide +kernel
theorem dX10_pathLine_227 : decode cX10_pathLine 227 = .ok (.iastore, 1) := by decide +kernel
theorem dX10_pathLine_228 : decode cX10_pathLine 228 = .ok (.return_, 1) := by decide +kernel
theorem dX10_pathLine_167 : decode cX10_pathLine 167 = .ok (.aload_n 0, 1) := by decide +kernel
theorem dX10_pathLine_168 : decode cX10_pathLine 168 = .ok (.iconst 2, 1) := by decide +kernel
theorem dX10_pathLine_169 : decode cX10_pathLine 169 = .ok (.invokevirtual 179, 3) := by decide +kernel
theorem dX10_pathLine_69 : decode cX10_pathLine 69 = .ok (.aload_n 0, 1) := by decide +kernel
theorem dX10_pathLine_70 : decode cX10_pathLine 70 = .ok (.getfield 163, 3) := by decide +kernel
theorem dX10_pathLine_73 : decode cX10_pathLine 73 = .ok (.ifCond .ne 90, 3) := by decide +kernel
theorem dX10_pathLine_76 : decode cX10_pathLine 76 = .ok (.aload_n 0, 1) := by decide +kernel
theorem dX10_pathLine_77 : decode cX10_pathLine 77 = .ok (.getfield 152, 3) := by decide +kernel
theorem dX10_pathLine_80 : decode cX10_pathLine 80 = .ok (.iconst 2, 1) := by decide +kernel
theorem dX10_pathLine_81 : decode cX10_pathLine 81 = .ok (.if_icmp .ne 82, 3) := by decide +kernel
theorem dX10_pathLine_84 : decode cX10_pathLine 84 = .ok (.iconst 3, 1) := by decide +kernel
theorem dX10_pathLine_85 : decode cX10_pathLine 85 = .ok (.bipush 32, 2) := by decide +kernel
theorem dX10_pathLine_87 : decode cX10_pathLine 87 = .ok (.iload 4, 2) := by decide +kernel
theorem dX10_pathLine_89 : decode cX10_pathLine 89 = .ok (.iadd, 1) := by decide +kernel
theorem dX10_pathLine_90 : decode cX10_pathLine 90 = .ok (.imul, 1) := by decide +kernel
theorem dX10_pathLine_91 : decode cX10_pathLine 91 = .ok (.istore 5, 2) := by decide +kernel
theorem dX10_pathLine_93 : decode cX10_pathLine 93 = .ok (.iload_n 3, 1) := by decide +kernel
theorem dX10_pathLine_94 : decode cX10_pathLine 94 = .ok (.ifCond .ne 57, 3) := by decide +kernel
theorem dX10_pathLine_151 : decode cX10_pathLine 151 = .ok (.iconst 1, 1) := by decide +kernel
theorem dX10_pathLine_152 : decode cX10_pathLine 152 = .ok (.goto 4, 3) := by decide +kernel
theorem dX10_pathLine_156 : decode cX10_pathLine 156 = .ok (.istore_n 3, 1) := by decide +kernel
theorem dX10_pathLine_157 : decode cX10_pathLine 157 = .ok (.iinc 4 1, 3) := by decide +kernel
theorem dX10_pathLine_160 : decode cX10_pathLine 160 = .ok (.goto (-102), 3) := by decide +kernel
theorem dX10_pathLine_97 : decode cX10_pathLine 97 = .ok (.aload_n 0, 1) := by decide +kernel
theorem dX10_pathLine_98 : decode cX10_pathLine 98 = .ok (.getfield 52, 3) := by decide +kernel
theorem dX10_pathLine_101 : decode cX10_pathLine 101 = .ok (.iload 5, 2) := by decide +kernel
theorem dX10_pathLine_103 : decode cX10_pathLine 103 = .ok (.iaload, 1) := by decide +kernel
theorem dX10_pathLine_104 : decode cX10_pathLine 104 = .ok (.iload_n 2, 1) := by decide +kernel
theorem dX10_pathLine_105 : decode cX10_pathLine 105 = .ok (.if_icmp .ne 19, 3) := by decide +kernel
theorem dX10_pathLine_124 : decode cX10_pathLine 124 = .ok (.aload_n 0, 1) := by decide +kernel
theorem dX10_pathLine_125 : decode cX10_pathLine 125 = .ok (.getfield 52, 3) := by decide +kernel
theorem dX10_pathLine_128 : decode cX10_pathLine 128 = .ok (.iload 5, 2) := by decide +kernel
theorem dX10_pathLine_130 : decode cX10_pathLine 130 = .ok (.iaload, 1) := by decide +kernel
theorem dX10_pathLine_131 : decode cX10_pathLine 131 = .ok (.aload_n 0, 1) := by decide +kernel
theorem dX10_pathLine_132 : decode cX10_pathLine 132 = .ok (.getfield 145, 3) := by decide +kernel
theorem dX10_pathLine_135 : decode cX10_pathLine 135 = .ok (.if_icmp .ne 20, 3) := by decide +kernel
theorem dX10_pathLine_155 : decode cX10_pathLine 155 = .ok (.iconst 0, 1) := by decide +kernel
theorem dX10_pathLine_138 : decode cX10_pathLine 138 = .ok (.aload_n 0, 1) := by decide +kernel
theorem dX10_pathLine_139 : decode cX10_pathLine 139 = .ok (.getfield 52, 3) := by decide +kernel
theorem dX10_pathLine_142 : decode cX10_pathLine 142 = .ok (.iload 5, 2) := by decide +kernel
theorem dX10_pathLine_144 : decode cX10_pathLine 144 = .ok (.iconst 1, 1) := by decide +kernel
theorem dX10_pathLine_145 : decode cX10_pathLine 145 = .ok (.iadd, 1) := by decide +kernel
theorem dX10_pathLine_146 : decode cX10_pathLine 146 = .ok (.iaload, 1) := by decide +kernel
theorem dX10_pathLine_147 : decode cX10_pathLine 147 = .ok (.iload_n 2, 1) := by decide +kernel
theorem dX10_pathLine_148 : decode cX10_pathLine 148 = .ok (.if_icmp .ne 7, 3) := by decide +kernel
theorem dX10_pathLine_108 : decode cX10_pathLine 108 = .ok (.aload_n 0, 1) := by decide +kernel
theorem dX10_pathLine_109 : decode cX10_pathLine 109 = .ok (.getfield 52, 3) := by decide +kernel
theorem dX10_pathLine_112 : decode cX10_pathLine 112 = .ok (.iload 5, 2) := by decide +kernel
theorem dX10_pathLine_114 : decode cX10_pathLine 114 = .ok (.iconst 1, 1) := by decide +kernel
theorem dX10_pathLine_115 : decode cX10_pathLine 115 = .ok (.iadd, 1) := by decide +kernel
theorem dX10_pathLine_116 : decode cX10_pathLine 116 = .ok (.iaload, 1) := by decide +kernel
theorem dX10_pathLine_117 : decode cX10_pathLine 117 = .ok (.aload_n 0, 1) := by decide +kernel
theorem dX10_pathLine_118 : decode cX10_pathLine 118 = .ok (.getfield 145, 3) := by decide +kernel
theorem dX10_pathLine_121 : decode cX10_pathLine 121 = .ok (.if_icmp .eq 30, 3) := by decide +kernel
theorem dX10_pathLine_33 : decode cX10_pathLine 33 = .ok (.aload_n 0, 1) := by decide +kernel
theorem dX10_pathLine_34 : decode cX10_pathLine 34 = .ok (.getfield 152, 3) := by decide +kernel
theorem dX10_pathLine_37 : decode cX10_pathLine 37 = .ok (.iconst 2, 1) := by decide +kernel
theorem dX10_pathLine_38 : decode cX10_pathLine 38 = .ok (.if_icmp .ne 15, 3) := by decide +kernel
theorem dX10_pathLine_41 : decode cX10_pathLine 41 = .ok (.aload_n 0, 1) := by decide +kernel
theorem dX10_pathLine_42 : decode cX10_pathLine 42 = .ok (.getfield 145, 3) := by decide +kernel
theorem dX10_pathLine_45 : decode cX10_pathLine 45 = .ok (.iload_n 2, 1) := by decide +kernel
theorem dX10_pathLine_46 : decode cX10_pathLine 46 = .ok (.if_icmp .ne 7, 3) := by decide +kernel
theorem dX10_pathLine_49 : decode cX10_pathLine 49 = .ok (.iconst 1, 1) := by decide +kernel
theorem dX10_pathLine_50 : decode cX10_pathLine 50 = .ok (.goto 4, 3) := by decide +kernel
theorem dX10_onceLine_0 : decode cX10_onceLine 0 = .ok (.aload_n 0, 1) := by decide +kernel
theorem dX10_onceLine_1 : decode cX10_onceLine 1 = .ok (.getfield 58, 3) := by decide +kernel
theorem dX10_onceLine_4 : decode cX10_onceLine 4 = .ok (.bipush 12, 2) := by decide +kernel
theorem dX10_onceLine_6 : decode cX10_onceLine 6 = .ok (.iload_n 1, 1) := by decide +kernel
theorem dX10_onceLine_7 : decode cX10_onceLine 7 = .ok (.iadd, 1) := by decide +kernel
theorem dX10_onceLine_8 : decode cX10_onceLine 8 = .ok (.baload, 1) := by decide +kernel
theorem dX10_onceLine_9 : decode cX10_onceLine 9 = .ok (.ifCond .eq 8, 3) := by decide +kernel
theorem dX10_onceLine_17 : decode cX10_onceLine 17 = .ok (.aload_n 0, 1) := by decide +kernel
theorem dX10_onceLine_18 : decode cX10_onceLine 18 = .ok (.getfield 163, 3) := by decide +kernel
theorem dX10_onceLine_21 : decode cX10_onceLine 21 = .ok (.ifCond .eq 4, 3) := by decide +kernel
theorem dX10_onceLine_25 : decode cX10_onceLine 25 = .ok (.aload_n 0, 1) := by decide +kernel
theorem dX10_onceLine_26 : decode cX10_onceLine 26 = .ok (.invokevirtual 173, 3) := by decide +kernel
theorem dX10_onceLine_29 : decode cX10_onceLine 29 = .ok (.aload_n 0, 1) := by decide +kernel
theorem dX10_onceLine_30 : decode cX10_onceLine 30 = .ok (.getfield 58, 3) := by decide +kernel
theorem dX10_onceLine_33 : decode cX10_onceLine 33 = .ok (.bipush 12, 2) := by decide +kernel
theorem dX10_onceLine_35 : decode cX10_onceLine 35 = .ok (.iload_n 1, 1) := by decide +kernel
theorem dX10_onceLine_36 : decode cX10_onceLine 36 = .ok (.iadd, 1) := by decide +kernel
theorem dX10_onceLine_37 : decode cX10_onceLine 37 = .ok (.iconst 1, 1) := by decide +kernel
theorem dX10_onceLine_38 : decode cX10_onceLine 38 = .ok (.bastore, 1) := by decide +kernel
theorem dX10_onceLine_39 : decode cX10_onceLine 39 = .ok (.bipush 24, 2) := by decide +kernel
theorem dX10_onceLine_41 : decode cX10_onceLine 41 = .ok (.istore_n 2, 1) := by decide +kernel
theorem dX10_onceLine_42 : decode cX10_onceLine 42 = .ok (.iload_n 1, 1) := by decide +kernel
theorem dX10_onceLine_43 : decode cX10_onceLine 43 = .ok (.ifCond .ne 61, 3) := by decide +kernel
theorem dX10_onceLine_104 : decode cX10_onceLine 104 = .ok (.iload_n 1, 1) := by decide +kernel
theorem dX10_onceLine_105 : decode cX10_onceLine 105 = .ok (.iconst 1, 1) := by decide +kernel
theorem dX10_onceLine_106 : decode cX10_onceLine 106 = .ok (.if_icmp .ne 43, 3) := by decide +kernel
theorem dX10_onceLine_149 : decode cX10_onceLine 149 = .ok (.aload_n 0, 1) := by decide +kernel
theorem dX10_onceLine_150 : decode cX10_onceLine 150 = .ok (.getfield 55, 3) := by decide +kernel
theorem dX10_onceLine_153 : decode cX10_onceLine 153 = .ok (.iload_n 2, 1) := by decide +kernel
theorem dX10_onceLine_154 : decode cX10_onceLine 154 = .ok (.iconst 5, 1) := by decide +kernel
theorem dX10_onceLine_155 : decode cX10_onceLine 155 = .ok (.iadd, 1) := by decide +kernel
theorem dX10_onceLine_156 : decode cX10_onceLine 156 = .ok (.aload_n 0, 1) := by decide +kernel
theorem dX10_onceLine_157 : decode cX10_onceLine 157 = .ok (.iconst 0, 1) := by decide +kernel
theorem dX10_onceLine_158 : decode cX10_onceLine 158 = .ok (.bipush 99, 2) := by decide +kernel
theorem dX10_onceLine_160 : decode cX10_onceLine 160 = .ok (.invokevirtual 186, 3) := by decide +kernel
theorem dX10_onceLine_163 : decode cX10_onceLine 163 = .ok (.iastore, 1) := by decide +kernel
theorem dX10_onceLine_164 : decode cX10_onceLine 164 = .ok (.return_, 1) := by decide +kernel
theorem dX10_onceLine_109 : decode cX10_onceLine 109 = .ok (.aload_n 0, 1) := by decide +kernel
theorem dX10_onceLine_110 : decode cX10_onceLine 110 = .ok (.getfield 55, 3) := by decide +kernel
theorem dX10_onceLine_113 : decode cX10_onceLine 113 = .ok (.iload_n 2, 1) := by decide +kernel
theorem dX10_onceLine_114 : decode cX10_onceLine 114 = .ok (.iconst 3, 1) := by decide +kernel
theorem dX10_onceLine_115 : decode cX10_onceLine 115 = .ok (.iadd, 1) := by decide +kernel
theorem dX10_onceLine_116 : decode cX10_onceLine 116 = .ok (.aload_n 0, 1) := by decide +kernel
theorem dX10_onceLine_117 : decode cX10_onceLine 117 = .ok (.ldc2_w 220, 3) := by decide +kernel
theorem dX10_onceLine_120 : decode cX10_onceLine 120 = .ok (.iconst 1, 1) := by decide +kernel
theorem dX10_onceLine_121 : decode cX10_onceLine 121 = .ok (.bipush 50, 2) := by decide +kernel
theorem dX10_onceLine_123 : decode cX10_onceLine 123 = .ok (.invokevirtual 197, 3) := by decide +kernel
theorem dX10_onceLine_126 : decode cX10_onceLine 126 = .ok (.iastore, 1) := by decide +kernel
theorem dX10_onceLine_127 : decode cX10_onceLine 127 = .ok (.aload_n 0, 1) := by decide +kernel
theorem dX10_onceLine_128 : decode cX10_onceLine 128 = .ok (.getfield 55, 3) := by decide +kernel
theorem dX10_onceLine_131 : decode cX10_onceLine 131 = .ok (.iload_n 2, 1) := by decide +kernel
theorem dX10_onceLine_132 : decode cX10_onceLine 132 = .ok (.iconst 4, 1) := by decide +kernel
theorem dX10_onceLine_133 : decode cX10_onceLine 133 = .ok (.iadd, 1) := by decide +kernel
theorem dX10_onceLine_134 : decode cX10_onceLine 134 = .ok (.aload_n 0, 1) := by decide +kernel
theorem dX10_onceLine_135 : decode cX10_onceLine 135 = .ok (.ldc2_w 222, 3) := by decide +kernel
theorem dX10_onceLine_138 : decode cX10_onceLine 138 = .ok (.iconst 0, 1) := by decide +kernel
theorem dX10_onceLine_139 : decode cX10_onceLine 139 = .ok (.sipush 9999, 3) := by decide +kernel
theorem dX10_onceLine_142 : decode cX10_onceLine 142 = .ok (.invokevirtual 197, 3) := by decide +kernel
theorem dX10_onceLine_145 : decode cX10_onceLine 145 = .ok (.iastore, 1) := by decide +kernel
theorem dX10_onceLine_146 : decode cX10_onceLine 146 = .ok (.goto 18, 3) := by decide +kernel
theorem dX10_onceLine_46 : decode cX10_onceLine 46 = .ok (.aload_n 0, 1) := by decide +kernel
theorem dX10_onceLine_47 : decode cX10_onceLine 47 = .ok (.getfield 55, 3) := by decide +kernel
theorem dX10_onceLine_50 : decode cX10_onceLine 50 = .ok (.iload_n 2, 1) := by decide +kernel
theorem dX10_onceLine_51 : decode cX10_onceLine 51 = .ok (.iconst 0, 1) := by decide +kernel
theorem dX10_onceLine_52 : decode cX10_onceLine 52 = .ok (.iadd, 1) := by decide +kernel
theorem dX10_onceLine_53 : decode cX10_onceLine 53 = .ok (.aload_n 0, 1) := by decide +kernel
theorem dX10_onceLine_54 : decode cX10_onceLine 54 = .ok (.ldc2_w 218, 3) := by decide +kernel
theorem dX10_onceLine_57 : decode cX10_onceLine 57 = .ok (.iconst 1, 1) := by decide +kernel
theorem dX10_onceLine_58 : decode cX10_onceLine 58 = .ok (.bipush 9, 2) := by decide +kernel
theorem dX10_onceLine_60 : decode cX10_onceLine 60 = .ok (.invokevirtual 197, 3) := by decide +kernel
theorem dX10_onceLine_63 : decode cX10_onceLine 63 = .ok (.iastore, 1) := by decide +kernel
theorem dX10_onceLine_64 : decode cX10_onceLine 64 = .ok (.aload_n 0, 1) := by decide +kernel
theorem dX10_onceLine_65 : decode cX10_onceLine 65 = .ok (.getfield 55, 3) := by decide +kernel
theorem dX10_onceLine_68 : decode cX10_onceLine 68 = .ok (.iload_n 2, 1) := by decide +kernel
theorem dX10_onceLine_69 : decode cX10_onceLine 69 = .ok (.iconst 1, 1) := by decide +kernel
theorem dX10_onceLine_70 : decode cX10_onceLine 70 = .ok (.iadd, 1) := by decide +kernel
theorem dX10_onceLine_71 : decode cX10_onceLine 71 = .ok (.aload_n 0, 1) := by decide +kernel
theorem dX10_onceLine_72 : decode cX10_onceLine 72 = .ok (.ldc2_w 220, 3) := by decide +kernel
theorem dX10_onceLine_75 : decode cX10_onceLine 75 = .ok (.iconst 1, 1) := by decide +kernel
theorem dX10_onceLine_76 : decode cX10_onceLine 76 = .ok (.bipush 50, 2) := by decide +kernel
theorem dX10_onceLine_78 : decode cX10_onceLine 78 = .ok (.invokevirtual 197, 3) := by decide +kernel
theorem dX10_onceLine_81 : decode cX10_onceLine 81 = .ok (.iastore, 1) := by decide +kernel
theorem dX10_onceLine_82 : decode cX10_onceLine 82 = .ok (.aload_n 0, 1) := by decide +kernel
theorem dX10_onceLine_83 : decode cX10_onceLine 83 = .ok (.getfield 55, 3) := by decide +kernel
theorem dX10_onceLine_86 : decode cX10_onceLine 86 = .ok (.iload_n 2, 1) := by decide +kernel
theorem dX10_onceLine_87 : decode cX10_onceLine 87 = .ok (.iconst 2, 1) := by decide +kernel
theorem dX10_onceLine_88 : decode cX10_onceLine 88 = .ok (.iadd, 1) := by decide +kernel
theorem dX10_onceLine_89 : decode cX10_onceLine 89 = .ok (.aload_n 0, 1) := by decide +kernel
theorem dX10_onceLine_90 : decode cX10_onceLine 90 = .ok (.ldc2_w 222, 3) := by decide +kernel
theorem dX10_onceLine_93 : decode cX10_onceLine 93 = .ok (.iconst 0, 1) := by decide +kernel
theorem dX10_onceLine_94 : decode cX10_onceLine 94 = .ok (.sipush 999, 3) := by decide +kernel
theorem dX10_onceLine_97 : decode cX10_onceLine 97 = .ok (.invokevirtual 197, 3) := by decide +kernel
theorem dX10_onceLine_100 : decode cX10_onceLine 100 = .ok (.iastore, 1) := by decide +kernel
theorem dX10_onceLine_101 : decode cX10_onceLine 101 = .ok (.goto 63, 3) := by decide +kernel
theorem dX10_onceLine_24 : decode cX10_onceLine 24 = .ok (.return_, 1) := by decide +kernel
theorem dX10_onceLine_12 : decode cX10_onceLine 12 = .ok (.aload_n 0, 1) := by decide +kernel
theorem dX10_onceLine_13 : decode cX10_onceLine 13 = .ok (.iconst 2, 1) := by decide +kernel
theorem dX10_onceLine_14 : decode cX10_onceLine 14 = .ok (.invokevirtual 179, 3) := by decide +kernel
theorem sV_X10_197 : SiteV RX10 197 yX10_number_ cX10_number_ 5 (some .int) 3 := ⟨ml_X10_197, im_X10_number_, se_X10_number_, ini_X10, co_X10_number_, by decide +kernel⟩
set_option maxHeartbeats 4000000 in
set_option maxRecDepth 100000 in
theorem t_X10_winterLine (l : Launch) (D : va_G) (cy : Nat → ClassId) (base : Nat) (τ : Nat → Nat) (G : Gh) (a : Nat) (h_a : τ a = 11) (tp : Int32) (e_tp : tp = G.1 a 6) (r_tp : 0 ≤ tp.toInt ∧ tp.toInt ≤ 1600) (a0 : Int32) (e_a0 : a0 = G.1 a 7) (r_a0 : 0 ≤ a0.toInt ∧ a0.toInt ≤ 1600) (hat : a0.toInt ≤ tp.toInt) : MM l yX10_winterLine cX10_winterLine 2 none 5 0 0 D cy [.ref a] (PT D cy base τ G) (QT D cy base τ G [11, 67] (fun v g => v = none ∧ ((a0.toInt ≤ (g.1 a 7).toInt) ∧ ((g.1 a 7).toInt ≤ tp.toInt) ∧ g.1 a 6 = G.1 a 6))) (RA base) := by
  refine MM.of (by decide) (Nat.le_of_ble_eq_true rfl) ?_
  intro p e s m below meth c C hPT ls hl
  obtain ⟨hx, hb, hr, hml, hown, hts, hlocks, hK, hnm⟩ := C
  obtain ⟨hZ, hT⟩ := hPT
  have hS : va_S (RA base) s.heap s.heap [] := va_S.rf
  have hF : Fr τ [11, 67] G G := Fr.rf
  have hl : lv_has ls 2 [(0, .ref a)] := hl
  refine lv_bipush (v := 16) hx hb dX10_winterLine_0 (by decide) ?_
  refine lv_istore_n (lv' := [(1, .int 16), (0, .ref a)]) hx hb dX10_winterLine_2 rfl hl (by decide) rfl (fun ls hl => ?_)
  refine lv_aload_n hx hb dX10_winterLine_3 rfl (lv_at hl 1 rfl) ?_
  refine lv_ldc2 (v := 335098125) hx hb hown (hts _ kl_X10_193) dX10_winterLine_4 ?_
  refine t_callv (runV (As := [.long 335098125]) (rest := []) ⟨hx, hb, hml, hown, hts⟩ (t_X10_asks l D cy base τ G a h_a 335098125 tp e_tp ⟨by omega, by omega⟩ a0 e_a0 ⟨by omega, by omega⟩ (by show a0.toInt ≤ tp.toInt; first | assumption | omega | decide)) sV_X10_182 hK (t_recv cf_11 hK hT h_a) ⟨Nat.le_trans hZ hS.1, hT⟩ ⟨Nat.le_of_ble_eq_true rfl, Nat.le_of_ble_eq_true rfl⟩ rfl hl.1 rfl (Nat.le_of_ble_eq_true rfl) dX10_winterLine_7 ⟨Nat.le_of_ble_eq_true rfl, Nat.le_of_ble_eq_true rfl⟩) hS (fun G_1 H locs hF_1 hr_1 hT hS => ?_)
  have hF := hF.tr hF_1 rfl
  obtain ⟨hr_1_p0, hr_1_p1, hr_1_s0⟩ := hr_1
  have k_4 : tp = G_1.1 a 6 := e_tp.trans hr_1_s0.symm
  obtain ⟨z_5, ez_5, hr_1_p0, hr_1_p1⟩ : ∃ z_5 : Int32, z_5 = G_1.1 a 7 ∧ (a0.toInt ≤ z_5.toInt) ∧ (z_5.toInt ≤ tp.toInt) := ⟨_, rfl, hr_1_p0, hr_1_p1⟩
  have rz_5 : 0 ≤ z_5.toInt ∧ z_5.toInt ≤ 1600 := by rw [ez_5]; exact hT.rgi h_a (by decide) 7
  refine lv_aload_n hx hb dX10_winterLine_10 rfl (lv_at hl 1 rfl) ?_
  refine t_getr cf_11 hx hb hts hown hK hT h_a (k := 17) (P := fun q => τ q = 67) rfl (fun _ h9 => h9) fl_X10_34 (fun _ h9 => h9) dX10_winterLine_11 (fun q_6 eq_6 hq_6 => ?_)
  have eq_6 := (hF.r h_a (by decide) rfl _).symm.trans eq_6
  refine lv_iload_n hx hb dX10_winterLine_14 rfl (lv_at hl 0 rfl) ?_
  refine lv_aload_n hx hb dX10_winterLine_15 rfl (lv_at hl 1 rfl) ?_
  refine lv_ldc2 (v := 80155) hx hb hown (hts _ kl_X10_195) dX10_winterLine_16 ?_
  refine lv_iconst (v := 1) hx hb dX10_winterLine_19 (by decide) ?_
  refine lv_bipush (v := 60) hx hb dX10_winterLine_20 (by decide) ?_
  refine t_calli (runV (As := [.long 80155, .int 1, .int 60]) (rest := [.int 16, .ref q_6]) ⟨hx, hb, hml, hown, hts⟩ (t_X10_number_ l D cy base τ G_1 a h_a 80155 1 60 tp k_4 ⟨by omega, by omega⟩ z_5 ez_5 ⟨by omega, by omega⟩ (by show z_5.toInt ≤ tp.toInt; first | assumption | omega | decide)) sV_X10_197 hK (t_recv cf_11 hK hT h_a) ⟨Nat.le_trans hZ hS.1, hT⟩ ⟨Nat.le_of_ble_eq_true rfl, Nat.le_of_ble_eq_true rfl⟩ rfl hl.1 rfl (Nat.le_of_ble_eq_true rfl) dX10_winterLine_22 ⟨Nat.le_of_ble_eq_true rfl, Nat.le_of_ble_eq_true rfl⟩) hS (fun r_7 G_7 H locs hF_7 hr_7 hT hS => ?_)
  have hF := hF.tr hF_7 rfl
  obtain ⟨hr_7_p0, hr_7_p1, hr_7_p2, hr_7_s0⟩ := hr_7
  have k_10 : tp = G_7.1 a 6 := k_4.trans hr_7_s0.symm
  obtain ⟨z_11, ez_11, hr_7_p0, hr_7_p1, hr_7_p2⟩ : ∃ z_11 : Int32, z_11 = G_7.1 a 7 ∧ (z_5.toInt ≤ z_11.toInt) ∧ (z_11.toInt ≤ tp.toInt) ∧ (r_7.toInt = (1 : Int) ∨ ((1 : Int) ≤ r_7.toInt ∧ r_7.toInt ≤ (60 : Int))) := ⟨_, rfl, hr_7_p0, hr_7_p1, hr_7_p2⟩
  have rz_11 : 0 ≤ z_11.toInt ∧ z_11.toInt ≤ 1600 := by rw [ez_11]; exact hT.rgi h_a (by decide) 7
  refine t_iast (n := 20) (i := 16) (x := r_7) rfl (by decide) hx hb hK hT hS hq_6 (hT.len hq_6 (by decide)) ⟨by decide, by decide⟩ (show (16 % 4 = 0 → 0 ≤ r_7.toInt ∧ r_7.toInt ≤ 60) from by omega) dX10_winterLine_25 (fun H locs G_12 eG_12 hT hS => ?_)
  have hF := hF.wI eG_12 hq_6 rfl
  have k_13 : tp = G_12.1 a 6 := by rw [eG_12, wI_ne (Or.inl (tag_ne hq_6 h_a (by decide)))]; exact k_10
  have k_14 : z_11 = G_12.1 a 7 := by rw [eG_12, wI_ne (Or.inl (tag_ne hq_6 h_a (by decide)))]; exact ez_11
  refine lv_aload_n hx hb dX10_winterLine_26 rfl (lv_at hl 1 rfl) ?_
  refine t_getr cf_11 hx hb hts hown hK hT h_a (k := 17) (P := fun q => τ q = 67) rfl (fun _ h9 => h9) fl_X10_34 (fun _ h9 => h9) dX10_winterLine_27 (fun q_15 eq_15 hq_15 => ?_)
  have w_16 : q_6 = q_15 := Option.some.inj (eq_6.symm.trans ((hF.r h_a (by decide) rfl _).symm.trans eq_15))
  subst w_16
  refine lv_iload_n hx hb dX10_winterLine_30 rfl (lv_at hl 0 rfl) ?_
  refine lv_iconst (v := 1) hx hb dX10_winterLine_31 (by decide) ?_
  refine lv_iadd hx hb dX10_winterLine_32 ?_
  refine lv_topi (fun z_17 ez_17 => ?_)
  have ez_17 : z_17 = 17 := ez_17.trans (by decide)
  subst ez_17
  refine lv_aload_n hx hb dX10_winterLine_33 rfl (lv_at hl 1 rfl) ?_
  refine lv_ldc2 (v := 3379448) hx hb hown (hts _ kl_X10_200) dX10_winterLine_34 ?_
  refine lv_iconst (v := 0) hx hb dX10_winterLine_37 (by decide) ?_
  refine lv_bipush (v := 100) hx hb dX10_winterLine_38 (by decide) ?_
  refine t_calli (runV (As := [.long 3379448, .int 0, .int 100]) (rest := [.int 17, .ref q_6]) ⟨hx, hb, hml, hown, hts⟩ (t_X10_number_ l D cy base τ G_12 a h_a 3379448 0 100 tp k_13 ⟨by omega, by omega⟩ z_11 k_14 ⟨by omega, by omega⟩ (by show z_11.toInt ≤ tp.toInt; first | assumption | omega | decide)) sV_X10_197 hK (t_recv cf_11 hK hT h_a) ⟨Nat.le_trans hZ hS.1, hT⟩ ⟨Nat.le_of_ble_eq_true rfl, Nat.le_of_ble_eq_true rfl⟩ rfl hl.1 rfl (Nat.le_of_ble_eq_true rfl) dX10_winterLine_40 ⟨Nat.le_of_ble_eq_true rfl, Nat.le_of_ble_eq_true rfl⟩) hS (fun r_18 G_18 H locs hF_18 hr_18 hT hS => ?_)
  have hF := hF.tr hF_18 rfl
  obtain ⟨hr_18_p0, hr_18_p1, hr_18_p2, hr_18_s0⟩ := hr_18
  have k_21 : tp = G_18.1 a 6 := k_13.trans hr_18_s0.symm
  obtain ⟨z_22, ez_22, hr_18_p0, hr_18_p1, hr_18_p2⟩ : ∃ z_22 : Int32, z_22 = G_18.1 a 7 ∧ (z_11.toInt ≤ z_22.toInt) ∧ (z_22.toInt ≤ tp.toInt) ∧ (r_18.toInt = (0 : Int) ∨ ((0 : Int) ≤ r_18.toInt ∧ r_18.toInt ≤ (100 : Int))) := ⟨_, rfl, hr_18_p0, hr_18_p1, hr_18_p2⟩
  have rz_22 : 0 ≤ z_22.toInt ∧ z_22.toInt ≤ 1600 := by rw [ez_22]; exact hT.rgi h_a (by decide) 7
  refine t_iast (n := 20) (i := 17) (x := r_18) rfl (by decide) hx hb hK hT hS hq_6 (hT.len hq_6 (by decide)) ⟨by decide, by decide⟩ (show (17 % 4 = 0 → 0 ≤ r_18.toInt ∧ r_18.toInt ≤ 60) from by omega) dX10_winterLine_43 (fun H locs G_23 eG_23 hT hS => ?_)
  have hF := hF.wI eG_23 hq_6 rfl
  have k_24 : tp = G_23.1 a 6 := by rw [eG_23, wI_ne (Or.inl (tag_ne hq_6 h_a (by decide)))]; exact k_21
  have k_25 : z_22 = G_23.1 a 7 := by rw [eG_23, wI_ne (Or.inl (tag_ne hq_6 h_a (by decide)))]; exact ez_22
  refine lv_aload_n hx hb dX10_winterLine_44 rfl (lv_at hl 1 rfl) ?_
  refine t_getr cf_11 hx hb hts hown hK hT h_a (k := 17) (P := fun q => τ q = 67) rfl (fun _ h9 => h9) fl_X10_34 (fun _ h9 => h9) dX10_winterLine_45 (fun q_26 eq_26 hq_26 => ?_)
  have w_27 : q_6 = q_26 := Option.some.inj (eq_6.symm.trans ((hF.r h_a (by decide) rfl _).symm.trans eq_26))
  subst w_27
  refine lv_iload_n hx hb dX10_winterLine_48 rfl (lv_at hl 0 rfl) ?_
  refine lv_iconst (v := 2) hx hb dX10_winterLine_49 (by decide) ?_
  refine lv_iadd hx hb dX10_winterLine_50 ?_
  refine lv_topi (fun z_28 ez_28 => ?_)
  have ez_28 : z_28 = 18 := ez_28.trans (by decide)
  subst ez_28
  refine lv_aload_n hx hb dX10_winterLine_51 rfl (lv_at hl 1 rfl) ?_
  refine lv_ldc2 (v := 384611) hx hb hown (hts _ kl_X10_202) dX10_winterLine_52 ?_
  refine lv_iconst (v := 0) hx hb dX10_winterLine_55 (by decide) ?_
  refine lv_bipush (v := 100) hx hb dX10_winterLine_56 (by decide) ?_
  refine t_calli (runV (As := [.long 384611, .int 0, .int 100]) (rest := [.int 18, .ref q_6]) ⟨hx, hb, hml, hown, hts⟩ (t_X10_number_ l D cy base τ G_23 a h_a 384611 0 100 tp k_24 ⟨by omega, by omega⟩ z_22 k_25 ⟨by omega, by omega⟩ (by show z_22.toInt ≤ tp.toInt; first | assumption | omega | decide)) sV_X10_197 hK (t_recv cf_11 hK hT h_a) ⟨Nat.le_trans hZ hS.1, hT⟩ ⟨Nat.le_of_ble_eq_true rfl, Nat.le_of_ble_eq_true rfl⟩ rfl hl.1 rfl (Nat.le_of_ble_eq_true rfl) dX10_winterLine_58 ⟨Nat.le_of_ble_eq_true rfl, Nat.le_of_ble_eq_true rfl⟩) hS (fun r_29 G_29 H locs hF_29 hr_29 hT hS => ?_)
  have hF := hF.tr hF_29 rfl
  obtain ⟨hr_29_p0, hr_29_p1, hr_29_p2, hr_29_s0⟩ := hr_29
  have k_32 : tp = G_29.1 a 6 := k_24.trans hr_29_s0.symm
  obtain ⟨z_33, ez_33, hr_29_p0, hr_29_p1, hr_29_p2⟩ : ∃ z_33 : Int32, z_33 = G_29.1 a 7 ∧ (z_22.toInt ≤ z_33.toInt) ∧ (z_33.toInt ≤ tp.toInt) ∧ (r_29.toInt = (0 : Int) ∨ ((0 : Int) ≤ r_29.toInt ∧ r_29.toInt ≤ (100 : Int))) := ⟨_, rfl, hr_29_p0, hr_29_p1, hr_29_p2⟩
  have rz_33 : 0 ≤ z_33.toInt ∧ z_33.toInt ≤ 1600 := by rw [ez_33]; exact hT.rgi h_a (by decide) 7
  refine t_iast (n := 20) (i := 18) (x := r_29) rfl (by decide) hx hb hK hT hS hq_6 (hT.len hq_6 (by decide)) ⟨by decide, by decide⟩ (show (18 % 4 = 0 → 0 ≤ r_29.toInt ∧ r_29.toInt ≤ 60) from by omega) dX10_winterLine_61 (fun H locs G_34 eG_34 hT hS => ?_)
  have hF := hF.wI eG_34 hq_6 rfl
  have k_35 : tp = G_34.1 a 6 := by rw [eG_34, wI_ne (Or.inl (tag_ne hq_6 h_a (by decide)))]; exact k_32
  have k_36 : z_33 = G_34.1 a 7 := by rw [eG_34, wI_ne (Or.inl (tag_ne hq_6 h_a (by decide)))]; exact ez_33
  refine lv_aload_n hx hb dX10_winterLine_62 rfl (lv_at hl 1 rfl) ?_
  refine t_getr cf_11 hx hb hts hown hK hT h_a (k := 17) (P := fun q => τ q = 67) rfl (fun _ h9 => h9) fl_X10_34 (fun _ h9 => h9) dX10_winterLine_63 (fun q_37 eq_37 hq_37 => ?_)
  have w_38 : q_6 = q_37 := Option.some.inj (eq_6.symm.trans ((hF.r h_a (by decide) rfl _).symm.trans eq_37))
  subst w_38
  refine lv_iload_n hx hb dX10_winterLine_66 rfl (lv_at hl 0 rfl) ?_
  refine lv_iconst (v := 3) hx hb dX10_winterLine_67 (by decide) ?_
  refine lv_iadd hx hb dX10_winterLine_68 ?_
  refine lv_topi (fun z_39 ez_39 => ?_)
  have ez_39 : z_39 = 19 := ez_39.trans (by decide)
  subst ez_39
  refine lv_aload_n hx hb dX10_winterLine_69 rfl (lv_at hl 1 rfl) ?_
  refine lv_ldc2 (v := 1834209) hx hb hown (hts _ kl_X10_204) dX10_winterLine_70 ?_
  refine lv_iconst (v := 0) hx hb dX10_winterLine_73 (by decide) ?_
  refine lv_bipush (v := 100) hx hb dX10_winterLine_74 (by decide) ?_
  refine t_calli (runV (As := [.long 1834209, .int 0, .int 100]) (rest := [.int 19, .ref q_6]) ⟨hx, hb, hml, hown, hts⟩ (t_X10_number_ l D cy base τ G_34 a h_a 1834209 0 100 tp k_35 ⟨by omega, by omega⟩ z_33 k_36 ⟨by omega, by omega⟩ (by show z_33.toInt ≤ tp.toInt; first | assumption | omega | decide)) sV_X10_197 hK (t_recv cf_11 hK hT h_a) ⟨Nat.le_trans hZ hS.1, hT⟩ ⟨Nat.le_of_ble_eq_true rfl, Nat.le_of_ble_eq_true rfl⟩ rfl hl.1 rfl (Nat.le_of_ble_eq_true rfl) dX10_winterLine_76 ⟨Nat.le_of_ble_eq_true rfl, Nat.le_of_ble_eq_true rfl⟩) hS (fun r_40 G_40 H locs hF_40 hr_40 hT hS => ?_)
  have hF := hF.tr hF_40 rfl
  obtain ⟨hr_40_p0, hr_40_p1, hr_40_p2, hr_40_s0⟩ := hr_40
  have k_43 : tp = G_40.1 a 6 := k_35.trans hr_40_s0.symm
  obtain ⟨z_44, ez_44, hr_40_p0, hr_40_p1, hr_40_p2⟩ : ∃ z_44 : Int32, z_44 = G_40.1 a 7 ∧ (z_33.toInt ≤ z_44.toInt) ∧ (z_44.toInt ≤ tp.toInt) ∧ (r_40.toInt = (0 : Int) ∨ ((0 : Int) ≤ r_40.toInt ∧ r_40.toInt ≤ (100 : Int))) := ⟨_, rfl, hr_40_p0, hr_40_p1, hr_40_p2⟩
  have rz_44 : 0 ≤ z_44.toInt ∧ z_44.toInt ≤ 1600 := by rw [ez_44]; exact hT.rgi h_a (by decide) 7
  refine t_iast (n := 20) (i := 19) (x := r_40) rfl (by decide) hx hb hK hT hS hq_6 (hT.len hq_6 (by decide)) ⟨by decide, by decide⟩ (show (19 % 4 = 0 → 0 ≤ r_40.toInt ∧ r_40.toInt ≤ 60) from by omega) dX10_winterLine_79 (fun H locs G_45 eG_45 hT hS => ?_)
  have hF := hF.wI eG_45 hq_6 rfl
  have k_46 : tp = G_45.1 a 6 := by rw [eG_45, wI_ne (Or.inl (tag_ne hq_6 h_a (by decide)))]; exact k_43
  have k_47 : z_44 = G_45.1 a 7 := by rw [eG_45, wI_ne (Or.inl (tag_ne hq_6 h_a (by decide)))]; exact ez_44
  exact ret_v hx hb hr hlocks ⟨⟨hS.1, hS.2.1⟩, G_45, hF, ⟨rfl, ⟨(by first | (show a0.toInt ≤ (G_45.1 a 7).toInt; rw [← k_47]; done) | (show a0.toInt ≤ (G_45.1 a 7).toInt; rw [← k_47]; show a0.toInt ≤ z_44.toInt; first | omega | assumption)), (by first | (show (G_45.1 a 7).toInt ≤ tp.toInt; rw [← k_47]; done) | (show (G_45.1 a 7).toInt ≤ tp.toInt; rw [← k_47]; show z_44.toInt ≤ tp.toInt; first | omega | assumption)), (k_46.symm.trans e_tp)⟩⟩, hT⟩ hS.2.2 (Nat.le_of_ble_eq_true rfl) (Nat.le_of_ble_eq_true rfl) dX10_winterLine_80
set_option maxHeartbeats 4000000 in
set_option maxRecDepth 100000 in
theorem t_X10_thingLine (l : Launch) (D : va_G) (cy : Nat → ClassId) (base : Nat) (τ : Nat → Nat) (G : Gh) (a : Nat) (h_a : τ a = 11) (tha : Nat) (h_tha : τ tha = 68) (e_tha : G.2.2.1 a 18 = some tha) (tp : Int32) (e_tp : tp = G.1 a 6) (r_tp : 0 ≤ tp.toInt ∧ tp.toInt ≤ 1600) (a0 : Int32) (e_a0 : a0 = G.1 a 7) (r_a0 : 0 ≤ a0.toInt ∧ a0.toInt ≤ 1600) (t4 : Int32) (e_t4 : t4 = G.1 tha 4) (r_t4 : 0 ≤ t4.toInt ∧ t4.toInt ≤ 2) (hat : a0.toInt ≤ tp.toInt) : MM l yX10_thingLine cX10_thingLine 2 none 5 0 0 D cy [.ref a] (PT D cy base τ G) (QT D cy base τ G [11, 68, 69] (fun v g => v = none ∧ ((a0.toInt ≤ (g.1 a 7).toInt) ∧ ((g.1 a 7).toInt ≤ tp.toInt) ∧ g.1 a 6 = G.1 a 6 ∧ (∀ j : Nat, j ≠ 4 → g.1 tha j = G.1 tha j)))) (RA base) := by
  refine MM.of (by decide) (Nat.le_of_ble_eq_true rfl) ?_
  intro p e s m below meth c C hPT ls hl
  obtain ⟨hx, hb, hr, hml, hown, hts, hlocks, hK, hnm⟩ := C
  obtain ⟨hZ, hT⟩ := hPT
  have hS : va_S (RA base) s.heap s.heap [] := va_S.rf
  have hF : Fr τ [11, 68, 69] G G := Fr.rf
  have kx0 : ∀ j : Nat, j ≠ 4 → G.1 tha j = G.1 tha j := fun _ _ => rfl
  have hl : lv_has ls 2 [(0, .ref a)] := hl
  refine lv_iconst (v := 3) hx hb dX10_thingLine_0 (by decide) ?_
  refine lv_bipush (v := 12) hx hb dX10_thingLine_1 (by decide) ?_
  refine lv_aload_n hx hb dX10_thingLine_3 rfl (lv_at hl 0 rfl) ?_
  refine t_getr cf_11 hx hb hts hown hK hT h_a (k := 18) (P := fun q => τ q = 68) rfl (fun _ h9 => h9) fl_X10_37 (fun _ h9 => h9) dX10_thingLine_4 (fun q_1 eq_1 hq_1 => ?_)
  have w_2 : tha = q_1 := Option.some.inj (e_tha.symm.trans eq_1)
  subst w_2
  refine lv_iconst (v := 4) hx hb dX10_thingLine_7 (by decide) ?_
  refine t_iald (n := 5) (i := 4) rfl (by decide) hx hb hK hT h_tha (hT.len h_tha (by decide)) ⟨by decide, by decide⟩ dX10_thingLine_8 (fun z_3 ez_3 rz_3 => ?_)
  have w_4 : t4 = z_3 := e_t4.trans ez_3.symm
  subst w_4
  refine lv_iadd hx hb dX10_thingLine_9 ?_
  refine lv_topi (fun z_5 ez_5 => ?_)
  have tz_5 : z_5.toInt = 12 + t4.toInt := add_t ez_5 (show -2147483648 ≤ 12 + t4.toInt by omega) (show 12 + t4.toInt < 2147483648 by omega)
  refine lv_imul hx hb dX10_thingLine_10 ?_
  refine lv_topi (fun z_6 ez_6 => ?_)
  have tz_6 : z_6.toInt = 3 * z_5.toInt := mul_t ez_6 (show -2147483648 ≤ 3 * z_5.toInt by omega) (show 3 * z_5.toInt < 2147483648 by omega)
  refine lv_istore_n (lv' := [(1, .int z_6), (0, .ref a)]) hx hb dX10_thingLine_11 rfl hl (by decide) rfl (fun ls hl => ?_)
  refine lv_aload_n hx hb dX10_thingLine_12 rfl (lv_at hl 1 rfl) ?_
  refine t_getr cf_11 hx hb hts hown hK hT h_a (k := 19) (P := fun q => τ q = 69) rfl (fun _ h9 => h9) fl_X10_40 (fun _ h9 => h9) dX10_thingLine_13 (fun q_7 eq_7 hq_7 => ?_)
  refine lv_iload_n hx hb dX10_thingLine_16 rfl (lv_at hl 0 rfl) ?_
  refine lv_aload_n hx hb dX10_thingLine_17 rfl (lv_at hl 1 rfl) ?_
  refine lv_ldc2 (v := 8863997) hx hb hown (hts _ kl_X10_206) dX10_thingLine_18 ?_
  refine lv_iconst (v := 0) hx hb dX10_thingLine_21 (by decide) ?_
  refine lv_bipush (v := 99) hx hb dX10_thingLine_22 (by decide) ?_
  refine t_calli (runV (As := [.long 8863997, .int 0, .int 99]) (rest := [.int z_6, .ref q_7]) ⟨hx, hb, hml, hown, hts⟩ (t_X10_number_ l D cy base τ G a h_a 8863997 0 99 tp e_tp ⟨by omega, by omega⟩ a0 e_a0 ⟨by omega, by omega⟩ (by show a0.toInt ≤ tp.toInt; first | assumption | omega | decide)) sV_X10_197 hK (t_recv cf_11 hK hT h_a) ⟨Nat.le_trans hZ hS.1, hT⟩ ⟨Nat.le_of_ble_eq_true rfl, Nat.le_of_ble_eq_true rfl⟩ rfl hl.1 rfl (Nat.le_of_ble_eq_true rfl) dX10_thingLine_24 ⟨Nat.le_of_ble_eq_true rfl, Nat.le_of_ble_eq_true rfl⟩) hS (fun r_8 G_8 H locs hF_8 hr_8 hT hS => ?_)
  have hF := hF.tr hF_8 rfl
  have kx0 : ∀ j : Nat, j ≠ 4 → G_8.1 tha j = G.1 tha j := fun j hj => (hF_8.i h_tha (by decide) rfl j).trans (kx0 j hj)
  have k_11 : t4 = G_8.1 tha 4 := e_t4.trans (hF_8.i h_tha (by decide) rfl _).symm
  obtain ⟨hr_8_p0, hr_8_p1, hr_8_p2, hr_8_s0⟩ := hr_8
  have k_12 : tp = G_8.1 a 6 := e_tp.trans hr_8_s0.symm
  obtain ⟨z_13, ez_13, hr_8_p0, hr_8_p1, hr_8_p2⟩ : ∃ z_13 : Int32, z_13 = G_8.1 a 7 ∧ (a0.toInt ≤ z_13.toInt) ∧ (z_13.toInt ≤ tp.toInt) ∧ (r_8.toInt = (0 : Int) ∨ ((0 : Int) ≤ r_8.toInt ∧ r_8.toInt ≤ (99 : Int))) := ⟨_, rfl, hr_8_p0, hr_8_p1, hr_8_p2⟩
  have rz_13 : 0 ≤ z_13.toInt ∧ z_13.toInt ≤ 1600 := by rw [ez_13]; exact hT.rgi h_a (by decide) 7
  refine t_iast (n := 45) (i := z_6) (x := r_8) rfl (by decide) hx hb hK hT hS hq_7 (hT.len hq_7 (by decide)) ⟨by omega, by omega⟩ trivial dX10_thingLine_27 (fun H locs G_14 eG_14 hT hS => ?_)
  have hF := hF.wI eG_14 hq_7 rfl
  have kx0 : ∀ j : Nat, j ≠ 4 → G_14.1 tha j = G.1 tha j := fun j hj => (by rw [eG_14]; exact (wI_ne (Or.inl (tag_ne hq_7 h_tha (by decide)))).trans (kx0 j hj))
  have k_15 : t4 = G_14.1 tha 4 := by rw [eG_14, wI_ne (Or.inl (tag_ne hq_7 h_tha (by decide)))]; exact k_11
  have k_16 : tp = G_14.1 a 6 := by rw [eG_14, wI_ne (Or.inl (tag_ne hq_7 h_a (by decide)))]; exact k_12
  have k_17 : z_13 = G_14.1 a 7 := by rw [eG_14, wI_ne (Or.inl (tag_ne hq_7 h_a (by decide)))]; exact ez_13
  refine lv_aload_n hx hb dX10_thingLine_28 rfl (lv_at hl 1 rfl) ?_
  refine t_getr cf_11 hx hb hts hown hK hT h_a (k := 19) (P := fun q => τ q = 69) rfl (fun _ h9 => h9) fl_X10_40 (fun _ h9 => h9) dX10_thingLine_29 (fun q_18 eq_18 hq_18 => ?_)
  have w_19 : q_7 = q_18 := Option.some.inj (eq_7.symm.trans ((hF.r h_a (by decide) rfl _).symm.trans eq_18))
  subst w_19
  refine lv_iload_n hx hb dX10_thingLine_32 rfl (lv_at hl 0 rfl) ?_
  refine lv_iconst (v := 1) hx hb dX10_thingLine_33 (by decide) ?_
  refine lv_iadd hx hb dX10_thingLine_34 ?_
  refine lv_topi (fun z_20 ez_20 => ?_)
  have tz_20 : z_20.toInt = z_6.toInt + 1 := add_t ez_20 (show -2147483648 ≤ z_6.toInt + 1 by omega) (show z_6.toInt + 1 < 2147483648 by omega)
  refine lv_aload_n hx hb dX10_thingLine_35 rfl (lv_at hl 1 rfl) ?_
  refine lv_ldc2 (v := 158692) hx hb hown (hts _ kl_X10_208) dX10_thingLine_36 ?_
  refine lv_iconst (v := 0) hx hb dX10_thingLine_39 (by decide) ?_
  refine lv_sipush (v := 999) hx hb dX10_thingLine_40 (by decide) ?_
  refine t_calli (runV (As := [.long 158692, .int 0, .int 999]) (rest := [.int z_20, .ref q_7]) ⟨hx, hb, hml, hown, hts⟩ (t_X10_number_ l D cy base τ G_14 a h_a 158692 0 999 tp k_16 ⟨by omega, by omega⟩ z_13 k_17 ⟨by omega, by omega⟩ (by show z_13.toInt ≤ tp.toInt; first | assumption | omega | decide)) sV_X10_197 hK (t_recv cf_11 hK hT h_a) ⟨Nat.le_trans hZ hS.1, hT⟩ ⟨Nat.le_of_ble_eq_true rfl, Nat.le_of_ble_eq_true rfl⟩ rfl hl.1 rfl (Nat.le_of_ble_eq_true rfl) dX10_thingLine_43 ⟨Nat.le_of_ble_eq_true rfl, Nat.le_of_ble_eq_true rfl⟩) hS (fun r_21 G_21 H locs hF_21 hr_21 hT hS => ?_)
  have hF := hF.tr hF_21 rfl
  have kx0 : ∀ j : Nat, j ≠ 4 → G_21.1 tha j = G.1 tha j := fun j hj => (hF_21.i h_tha (by decide) rfl j).trans (kx0 j hj)
  have k_22 : t4 = G_21.1 tha 4 := k_15.trans (hF_21.i h_tha (by decide) rfl _).symm
  obtain ⟨hr_21_p0, hr_21_p1, hr_21_p2, hr_21_s0⟩ := hr_21
  have k_25 : tp = G_21.1 a 6 := k_16.trans hr_21_s0.symm
  obtain ⟨z_26, ez_26, hr_21_p0, hr_21_p1, hr_21_p2⟩ : ∃ z_26 : Int32, z_26 = G_21.1 a 7 ∧ (z_13.toInt ≤ z_26.toInt) ∧ (z_26.toInt ≤ tp.toInt) ∧ (r_21.toInt = (0 : Int) ∨ ((0 : Int) ≤ r_21.toInt ∧ r_21.toInt ≤ (999 : Int))) := ⟨_, rfl, hr_21_p0, hr_21_p1, hr_21_p2⟩
  have rz_26 : 0 ≤ z_26.toInt ∧ z_26.toInt ≤ 1600 := by rw [ez_26]; exact hT.rgi h_a (by decide) 7
  refine t_iast (n := 45) (i := z_20) (x := r_21) rfl (by decide) hx hb hK hT hS hq_7 (hT.len hq_7 (by decide)) ⟨by omega, by omega⟩ trivial dX10_thingLine_46 (fun H locs G_27 eG_27 hT hS => ?_)
  have hF := hF.wI eG_27 hq_7 rfl
  have kx0 : ∀ j : Nat, j ≠ 4 → G_27.1 tha j = G.1 tha j := fun j hj => (by rw [eG_27]; exact (wI_ne (Or.inl (tag_ne hq_7 h_tha (by decide)))).trans (kx0 j hj))
  have k_28 : t4 = G_27.1 tha 4 := by rw [eG_27, wI_ne (Or.inl (tag_ne hq_7 h_tha (by decide)))]; exact k_22
  have k_29 : tp = G_27.1 a 6 := by rw [eG_27, wI_ne (Or.inl (tag_ne hq_7 h_a (by decide)))]; exact k_25
  have k_30 : z_26 = G_27.1 a 7 := by rw [eG_27, wI_ne (Or.inl (tag_ne hq_7 h_a (by decide)))]; exact ez_26
  refine lv_aload_n hx hb dX10_thingLine_47 rfl (lv_at hl 1 rfl) ?_
  refine t_getr cf_11 hx hb hts hown hK hT h_a (k := 19) (P := fun q => τ q = 69) rfl (fun _ h9 => h9) fl_X10_40 (fun _ h9 => h9) dX10_thingLine_48 (fun q_31 eq_31 hq_31 => ?_)
  have w_32 : q_7 = q_31 := Option.some.inj (eq_7.symm.trans ((hF.r h_a (by decide) rfl _).symm.trans eq_31))
  subst w_32
  refine lv_iload_n hx hb dX10_thingLine_51 rfl (lv_at hl 0 rfl) ?_
  refine lv_iconst (v := 2) hx hb dX10_thingLine_52 (by decide) ?_
  refine lv_iadd hx hb dX10_thingLine_53 ?_
  refine lv_topi (fun z_33 ez_33 => ?_)
  have tz_33 : z_33.toInt = z_6.toInt + 2 := add_t ez_33 (show -2147483648 ≤ z_6.toInt + 2 by omega) (show z_6.toInt + 2 < 2147483648 by omega)
  refine lv_aload_n hx hb dX10_thingLine_54 rfl (lv_at hl 1 rfl) ?_
  refine lv_ldc2 (v := 40187) hx hb hown (hts _ kl_X10_210) dX10_thingLine_55 ?_
  refine lv_iconst (v := 0) hx hb dX10_thingLine_58 (by decide) ?_
  refine lv_bipush (v := 99) hx hb dX10_thingLine_59 (by decide) ?_
  refine t_calli (runV (As := [.long 40187, .int 0, .int 99]) (rest := [.int z_33, .ref q_7]) ⟨hx, hb, hml, hown, hts⟩ (t_X10_number_ l D cy base τ G_27 a h_a 40187 0 99 tp k_29 ⟨by omega, by omega⟩ z_26 k_30 ⟨by omega, by omega⟩ (by show z_26.toInt ≤ tp.toInt; first | assumption | omega | decide)) sV_X10_197 hK (t_recv cf_11 hK hT h_a) ⟨Nat.le_trans hZ hS.1, hT⟩ ⟨Nat.le_of_ble_eq_true rfl, Nat.le_of_ble_eq_true rfl⟩ rfl hl.1 rfl (Nat.le_of_ble_eq_true rfl) dX10_thingLine_61 ⟨Nat.le_of_ble_eq_true rfl, Nat.le_of_ble_eq_true rfl⟩) hS (fun r_34 G_34 H locs hF_34 hr_34 hT hS => ?_)
  have hF := hF.tr hF_34 rfl
  have kx0 : ∀ j : Nat, j ≠ 4 → G_34.1 tha j = G.1 tha j := fun j hj => (hF_34.i h_tha (by decide) rfl j).trans (kx0 j hj)
  have k_35 : t4 = G_34.1 tha 4 := k_28.trans (hF_34.i h_tha (by decide) rfl _).symm
  obtain ⟨hr_34_p0, hr_34_p1, hr_34_p2, hr_34_s0⟩ := hr_34
  have k_38 : tp = G_34.1 a 6 := k_29.trans hr_34_s0.symm
  obtain ⟨z_39, ez_39, hr_34_p0, hr_34_p1, hr_34_p2⟩ : ∃ z_39 : Int32, z_39 = G_34.1 a 7 ∧ (z_26.toInt ≤ z_39.toInt) ∧ (z_39.toInt ≤ tp.toInt) ∧ (r_34.toInt = (0 : Int) ∨ ((0 : Int) ≤ r_34.toInt ∧ r_34.toInt ≤ (99 : Int))) := ⟨_, rfl, hr_34_p0, hr_34_p1, hr_34_p2⟩
  have rz_39 : 0 ≤ z_39.toInt ∧ z_39.toInt ≤ 1600 := by rw [ez_39]; exact hT.rgi h_a (by decide) 7
  refine t_iast (n := 45) (i := z_33) (x := r_34) rfl (by decide) hx hb hK hT hS hq_7 (hT.len hq_7 (by decide)) ⟨by omega, by omega⟩ trivial dX10_thingLine_64 (fun H locs G_40 eG_40 hT hS => ?_)
  have hF := hF.wI eG_40 hq_7 rfl
  have kx0 : ∀ j : Nat, j ≠ 4 → G_40.1 tha j = G.1 tha j := fun j hj => (by rw [eG_40]; exact (wI_ne (Or.inl (tag_ne hq_7 h_tha (by decide)))).trans (kx0 j hj))
  have k_41 : t4 = G_40.1 tha 4 := by rw [eG_40, wI_ne (Or.inl (tag_ne hq_7 h_tha (by decide)))]; exact k_35
  have k_42 : tp = G_40.1 a 6 := by rw [eG_40, wI_ne (Or.inl (tag_ne hq_7 h_a (by decide)))]; exact k_38
  have k_43 : z_39 = G_40.1 a 7 := by rw [eG_40, wI_ne (Or.inl (tag_ne hq_7 h_a (by decide)))]; exact ez_39
  refine lv_aload_n hx hb dX10_thingLine_65 rfl (lv_at hl 1 rfl) ?_
  refine t_getr cf_11 hx hb hts hown hK hT h_a (k := 18) (P := fun q => τ q = 68) rfl (fun _ h9 => h9) fl_X10_37 (fun _ h9 => h9) dX10_thingLine_66 (fun q_44 eq_44 hq_44 => ?_)
  have w_45 : tha = q_44 := Option.some.inj (e_tha.symm.trans ((hF.r h_a (by decide) rfl _).symm.trans eq_44))
  subst w_45
  refine lv_iconst (v := 4) hx hb dX10_thingLine_69 (by decide) ?_
  refine lv_dup2_11 hx hb dX10_thingLine_70 rfl rfl ?_
  refine t_iald (n := 5) (i := 4) rfl (by decide) hx hb hK hT h_tha (hT.len h_tha (by decide)) ⟨by decide, by decide⟩ dX10_thingLine_71 (fun z_46 ez_46 rz_46 => ?_)
  have w_47 : t4 = z_46 := k_41.trans ez_46.symm
  subst w_47
  refine lv_iconst (v := 1) hx hb dX10_thingLine_72 (by decide) ?_
  refine lv_iadd hx hb dX10_thingLine_73 ?_
  refine lv_topi (fun z_48 ez_48 => ?_)
  have tz_48 : z_48.toInt = t4.toInt + 1 := add_t ez_48 (show -2147483648 ≤ t4.toInt + 1 by omega) (show t4.toInt + 1 < 2147483648 by omega)
  refine t_iast (n := 5) (i := 4) (x := z_48) rfl (by decide) hx hb hK hT hS h_tha (hT.len h_tha (by decide)) ⟨by decide, by decide⟩ (show 0 ≤ z_48.toInt ∧ z_48.toInt ≤ 3 from ⟨by omega, by omega⟩) dX10_thingLine_74 (fun H locs G_49 eG_49 hT hS => ?_)
  have hF := hF.wI eG_49 h_tha rfl
  have eG_49 : G_49 = wI G_40 tha 4 z_48 := eG_49
  have kx0 : ∀ j : Nat, j ≠ 4 → G_49.1 tha j = G.1 tha j := fun j hj => (by rw [eG_49]; exact (wI_ne (k := 4) (Or.inr (by omega))).trans (kx0 j hj))
  have k_51 : tp = G_49.1 a 6 := by rw [eG_49, wI_ne (Or.inl (tag_ne h_tha h_a (by decide)))]; exact k_42
  have k_52 : z_39 = G_49.1 a 7 := by rw [eG_49, wI_ne (Or.inl (tag_ne h_tha h_a (by decide)))]; exact k_43
  have k_53 : z_48 = G_49.1 tha 4 := by rw [eG_49, wI_at]
  exact ret_v hx hb hr hlocks ⟨⟨hS.1, hS.2.1⟩, G_49, hF, ⟨rfl, ⟨(by first | (show a0.toInt ≤ (G_49.1 a 7).toInt; rw [← k_52]; done) | (show a0.toInt ≤ (G_49.1 a 7).toInt; rw [← k_52]; show a0.toInt ≤ z_39.toInt; first | omega | assumption)), (by first | (show (G_49.1 a 7).toInt ≤ tp.toInt; rw [← k_52]; done) | (show (G_49.1 a 7).toInt ≤ tp.toInt; rw [← k_52]; show z_39.toInt ≤ tp.toInt; first | omega | assumption)), (k_51.symm.trans e_tp), kx0⟩⟩, hT⟩ hS.2.2 (Nat.le_of_ble_eq_true rfl) (Nat.le_of_ble_eq_true rfl) dX10_thingLine_75
set_option maxHeartbeats 4000000 in
set_option maxRecDepth 100000 in
theorem t_X10_valleyLine (l : Launch) (D : va_G) (cy : Nat → ClassId) (base : Nat) (τ : Nat → Nat) (G : Gh) (a : Nat) (h_a : τ a = 11) (vaa : Nat) (h_vaa : τ vaa = 70) (e_vaa : G.2.2.1 a 20 = some vaa) (tp : Int32) (e_tp : tp = G.1 a 6) (r_tp : 0 ≤ tp.toInt ∧ tp.toInt ≤ 1600) (a0 : Int32) (e_a0 : a0 = G.1 a 7) (r_a0 : 0 ≤ a0.toInt ∧ a0.toInt ≤ 1600) (v4 : Int32) (e_v4 : v4 = G.1 vaa 4) (r_v4 : 0 ≤ v4.toInt ∧ v4.toInt ≤ 5) (hat : a0.toInt ≤ tp.toInt) : MM l yX10_valleyLine cX10_valleyLine 3 none 5 0 0 D cy [.ref a] (PT D cy base τ G) (QT D cy base τ G [11, 70, 71] (fun v g => v = none ∧ ((a0.toInt ≤ (g.1 a 7).toInt) ∧ ((g.1 a 7).toInt ≤ tp.toInt) ∧ g.1 a 6 = G.1 a 6))) (RA base) := by
  refine MM.of (by decide) (Nat.le_of_ble_eq_true rfl) ?_
  intro p e s m below meth c C hPT ls hl
  obtain ⟨hx, hb, hr, hml, hown, hts, hlocks, hK, hnm⟩ := C
  obtain ⟨hZ, hT⟩ := hPT
  have hS : va_S (RA base) s.heap s.heap [] := va_S.rf
  have hF : Fr τ [11, 70, 71] G G := Fr.rf
  have hl : lv_has ls 3 [(0, .ref a)] := hl
  refine lv_iconst (v := 5) hx hb dX10_valleyLine_0 (by decide) ?_
  refine lv_bipush (v := 24) hx hb dX10_valleyLine_1 (by decide) ?_
  refine lv_aload_n hx hb dX10_valleyLine_3 rfl (lv_at hl 0 rfl) ?_
  refine t_getr cf_11 hx hb hts hown hK hT h_a (k := 20) (P := fun q => τ q = 70) rfl (fun _ h9 => h9) fl_X10_43 (fun _ h9 => h9) dX10_valleyLine_4 (fun q_1 eq_1 hq_1 => ?_)
  have w_2 : vaa = q_1 := Option.some.inj (e_vaa.symm.trans eq_1)
  subst w_2
  refine lv_iconst (v := 4) hx hb dX10_valleyLine_7 (by decide) ?_
  refine t_iald (n := 5) (i := 4) rfl (by decide) hx hb hK hT h_vaa (hT.len h_vaa (by decide)) ⟨by decide, by decide⟩ dX10_valleyLine_8 (fun z_3 ez_3 rz_3 => ?_)
  have w_4 : v4 = z_3 := e_v4.trans ez_3.symm
  subst w_4
  refine lv_iadd hx hb dX10_valleyLine_9 ?_
  refine lv_topi (fun z_5 ez_5 => ?_)
  have tz_5 : z_5.toInt = 24 + v4.toInt := add_t ez_5 (show -2147483648 ≤ 24 + v4.toInt by omega) (show 24 + v4.toInt < 2147483648 by omega)
  refine lv_imul hx hb dX10_valleyLine_10 ?_
  refine lv_topi (fun z_6 ez_6 => ?_)
  have tz_6 : z_6.toInt = 5 * z_5.toInt := mul_t ez_6 (show -2147483648 ≤ 5 * z_5.toInt by omega) (show 5 * z_5.toInt < 2147483648 by omega)
  refine lv_istore_n (lv' := [(1, .int z_6), (0, .ref a)]) hx hb dX10_valleyLine_11 rfl hl (by decide) rfl (fun ls hl => ?_)
  refine lv_aload_n hx hb dX10_valleyLine_12 rfl (lv_at hl 1 rfl) ?_
  refine t_getr cf_11 hx hb hts hown hK hT h_a (k := 21) (P := fun q => τ q = 71) rfl (fun _ h9 => h9) fl_X10_46 (fun _ h9 => h9) dX10_valleyLine_13 (fun q_7 eq_7 hq_7 => ?_)
  refine lv_iload_n hx hb dX10_valleyLine_16 rfl (lv_at hl 0 rfl) ?_
  refine lv_aload_n hx hb dX10_valleyLine_17 rfl (lv_at hl 1 rfl) ?_
  refine lv_ldc2 (v := 380396) hx hb hown (hts _ kl_X10_212) dX10_valleyLine_18 ?_
  refine lv_iconst (v := 0) hx hb dX10_valleyLine_21 (by decide) ?_
  refine lv_bipush (v := 100) hx hb dX10_valleyLine_22 (by decide) ?_
  refine t_calli (runV (As := [.long 380396, .int 0, .int 100]) (rest := [.int z_6, .ref q_7]) ⟨hx, hb, hml, hown, hts⟩ (t_X10_number_ l D cy base τ G a h_a 380396 0 100 tp e_tp ⟨by omega, by omega⟩ a0 e_a0 ⟨by omega, by omega⟩ (by show a0.toInt ≤ tp.toInt; first | assumption | omega | decide)) sV_X10_197 hK (t_recv cf_11 hK hT h_a) ⟨Nat.le_trans hZ hS.1, hT⟩ ⟨Nat.le_of_ble_eq_true rfl, Nat.le_of_ble_eq_true rfl⟩ rfl hl.1 rfl (Nat.le_of_ble_eq_true rfl) dX10_valleyLine_24 ⟨Nat.le_of_ble_eq_true rfl, Nat.le_of_ble_eq_true rfl⟩) hS (fun r_8 G_8 H locs hF_8 hr_8 hT hS => ?_)
  have hF := hF.tr hF_8 rfl
  have k_11 : v4 = G_8.1 vaa 4 := e_v4.trans (hF_8.i h_vaa (by decide) rfl _).symm
  obtain ⟨hr_8_p0, hr_8_p1, hr_8_p2, hr_8_s0⟩ := hr_8
  have k_12 : tp = G_8.1 a 6 := e_tp.trans hr_8_s0.symm
  obtain ⟨z_13, ez_13, hr_8_p0, hr_8_p1, hr_8_p2⟩ : ∃ z_13 : Int32, z_13 = G_8.1 a 7 ∧ (a0.toInt ≤ z_13.toInt) ∧ (z_13.toInt ≤ tp.toInt) ∧ (r_8.toInt = (0 : Int) ∨ ((0 : Int) ≤ r_8.toInt ∧ r_8.toInt ≤ (100 : Int))) := ⟨_, rfl, hr_8_p0, hr_8_p1, hr_8_p2⟩
  have rz_13 : 0 ≤ z_13.toInt ∧ z_13.toInt ≤ 1600 := by rw [ez_13]; exact hT.rgi h_a (by decide) 7
  refine t_iast (n := 150) (i := z_6) (x := r_8) rfl (by decide) hx hb hK hT hS hq_7 (hT.len hq_7 (by decide)) ⟨by omega, by omega⟩ (show (z_6.toInt.toNat % 5 = 1 → 0 ≤ r_8.toInt ∧ r_8.toInt ≤ 999) ∧ (z_6.toInt.toNat % 5 = 2 → 0 ≤ r_8.toInt ∧ r_8.toInt ≤ 9) ∧ (z_6.toInt.toNat % 5 = 3 → 0 ≤ r_8.toInt ∧ r_8.toInt ≤ 9) ∧ (z_6.toInt.toNat % 5 = 4 → 0 ≤ r_8.toInt ∧ r_8.toInt ≤ 9) from by omega) dX10_valleyLine_27 (fun H locs G_14 eG_14 hT hS => ?_)
  have hF := hF.wI eG_14 hq_7 rfl
  have k_15 : v4 = G_14.1 vaa 4 := by rw [eG_14, wI_ne (Or.inl (tag_ne hq_7 h_vaa (by decide)))]; exact k_11
  have k_16 : tp = G_14.1 a 6 := by rw [eG_14, wI_ne (Or.inl (tag_ne hq_7 h_a (by decide)))]; exact k_12
  have k_17 : z_13 = G_14.1 a 7 := by rw [eG_14, wI_ne (Or.inl (tag_ne hq_7 h_a (by decide)))]; exact ez_13
  refine lv_aload_n hx hb dX10_valleyLine_28 rfl (lv_at hl 1 rfl) ?_
  refine t_getr cf_11 hx hb hts hown hK hT h_a (k := 21) (P := fun q => τ q = 71) rfl (fun _ h9 => h9) fl_X10_46 (fun _ h9 => h9) dX10_valleyLine_29 (fun q_18 eq_18 hq_18 => ?_)
  have w_19 : q_7 = q_18 := Option.some.inj (eq_7.symm.trans ((hF.r h_a (by decide) rfl _).symm.trans eq_18))
  subst w_19
  refine lv_iload_n hx hb dX10_valleyLine_32 rfl (lv_at hl 0 rfl) ?_
  refine lv_iconst (v := 1) hx hb dX10_valleyLine_33 (by decide) ?_
  refine lv_iadd hx hb dX10_valleyLine_34 ?_
  refine lv_topi (fun z_20 ez_20 => ?_)
  have tz_20 : z_20.toInt = z_6.toInt + 1 := add_t ez_20 (show -2147483648 ≤ z_6.toInt + 1 by omega) (show z_6.toInt + 1 < 2147483648 by omega)
  refine lv_aload_n hx hb dX10_valleyLine_35 rfl (lv_at hl 1 rfl) ?_
  refine lv_ldc2 (v := 365647) hx hb hown (hts _ kl_X10_214) dX10_valleyLine_36 ?_
  refine lv_iconst (v := 0) hx hb dX10_valleyLine_39 (by decide) ?_
  refine lv_sipush (v := 999) hx hb dX10_valleyLine_40 (by decide) ?_
  refine t_calli (runV (As := [.long 365647, .int 0, .int 999]) (rest := [.int z_20, .ref q_7]) ⟨hx, hb, hml, hown, hts⟩ (t_X10_number_ l D cy base τ G_14 a h_a 365647 0 999 tp k_16 ⟨by omega, by omega⟩ z_13 k_17 ⟨by omega, by omega⟩ (by show z_13.toInt ≤ tp.toInt; first | assumption | omega | decide)) sV_X10_197 hK (t_recv cf_11 hK hT h_a) ⟨Nat.le_trans hZ hS.1, hT⟩ ⟨Nat.le_of_ble_eq_true rfl, Nat.le_of_ble_eq_true rfl⟩ rfl hl.1 rfl (Nat.le_of_ble_eq_true rfl) dX10_valleyLine_43 ⟨Nat.le_of_ble_eq_true rfl, Nat.le_of_ble_eq_true rfl⟩) hS (fun r_21 G_21 H locs hF_21 hr_21 hT hS => ?_)
  have hF := hF.tr hF_21 rfl
  have k_22 : v4 = G_21.1 vaa 4 := k_15.trans (hF_21.i h_vaa (by decide) rfl _).symm
  obtain ⟨hr_21_p0, hr_21_p1, hr_21_p2, hr_21_s0⟩ := hr_21
  have k_25 : tp = G_21.1 a 6 := k_16.trans hr_21_s0.symm
  obtain ⟨z_26, ez_26, hr_21_p0, hr_21_p1, hr_21_p2⟩ : ∃ z_26 : Int32, z_26 = G_21.1 a 7 ∧ (z_13.toInt ≤ z_26.toInt) ∧ (z_26.toInt ≤ tp.toInt) ∧ (r_21.toInt = (0 : Int) ∨ ((0 : Int) ≤ r_21.toInt ∧ r_21.toInt ≤ (999 : Int))) := ⟨_, rfl, hr_21_p0, hr_21_p1, hr_21_p2⟩
  have rz_26 : 0 ≤ z_26.toInt ∧ z_26.toInt ≤ 1600 := by rw [ez_26]; exact hT.rgi h_a (by decide) 7
  refine t_iast (n := 150) (i := z_20) (x := r_21) rfl (by decide) hx hb hK hT hS hq_7 (hT.len hq_7 (by decide)) ⟨by omega, by omega⟩ (show (z_20.toInt.toNat % 5 = 1 → 0 ≤ r_21.toInt ∧ r_21.toInt ≤ 999) ∧ (z_20.toInt.toNat % 5 = 2 → 0 ≤ r_21.toInt ∧ r_21.toInt ≤ 9) ∧ (z_20.toInt.toNat % 5 = 3 → 0 ≤ r_21.toInt ∧ r_21.toInt ≤ 9) ∧ (z_20.toInt.toNat % 5 = 4 → 0 ≤ r_21.toInt ∧ r_21.toInt ≤ 9) from by omega) dX10_valleyLine_46 (fun H locs G_27 eG_27 hT hS => ?_)
  have hF := hF.wI eG_27 hq_7 rfl
  have k_28 : v4 = G_27.1 vaa 4 := by rw [eG_27, wI_ne (Or.inl (tag_ne hq_7 h_vaa (by decide)))]; exact k_22
  have k_29 : tp = G_27.1 a 6 := by rw [eG_27, wI_ne (Or.inl (tag_ne hq_7 h_a (by decide)))]; exact k_25
  have k_30 : z_26 = G_27.1 a 7 := by rw [eG_27, wI_ne (Or.inl (tag_ne hq_7 h_a (by decide)))]; exact ez_26
  refine lv_aload_n hx hb dX10_valleyLine_47 rfl (lv_at hl 1 rfl) ?_
  refine lv_ldc2 (v := 12253591) hx hb hown (hts _ kl_X10_216) dX10_valleyLine_48 ?_
  refine t_callv (runV (As := [.long 12253591]) (rest := []) ⟨hx, hb, hml, hown, hts⟩ (t_X10_asks l D cy base τ G_27 a h_a 12253591 tp k_29 ⟨by omega, by omega⟩ z_26 k_30 ⟨by omega, by omega⟩ (by show z_26.toInt ≤ tp.toInt; first | assumption | omega | decide)) sV_X10_182 hK (t_recv cf_11 hK hT h_a) ⟨Nat.le_trans hZ hS.1, hT⟩ ⟨Nat.le_of_ble_eq_true rfl, Nat.le_of_ble_eq_true rfl⟩ rfl hl.1 rfl (Nat.le_of_ble_eq_true rfl) dX10_valleyLine_51 ⟨Nat.le_of_ble_eq_true rfl, Nat.le_of_ble_eq_true rfl⟩) hS (fun G_31 H locs hF_31 hr_31 hT hS => ?_)
  have hF := hF.tr hF_31 rfl
  have k_32 : v4 = G_31.1 vaa 4 := k_28.trans (hF_31.i h_vaa (by decide) rfl _).symm
  obtain ⟨hr_31_p0, hr_31_p1, hr_31_s0⟩ := hr_31
  have k_35 : tp = G_31.1 a 6 := k_29.trans hr_31_s0.symm
  obtain ⟨z_36, ez_36, hr_31_p0, hr_31_p1⟩ : ∃ z_36 : Int32, z_36 = G_31.1 a 7 ∧ (z_26.toInt ≤ z_36.toInt) ∧ (z_36.toInt ≤ tp.toInt) := ⟨_, rfl, hr_31_p0, hr_31_p1⟩
  have rz_36 : 0 ≤ z_36.toInt ∧ z_36.toInt ≤ 1600 := by rw [ez_36]; exact hT.rgi h_a (by decide) 7
  refine lv_iconst (v := 0) hx hb dX10_valleyLine_54 (by decide) ?_
  refine lv_istore_n (lv' := [(2, .int 0), (1, .int z_6), (0, .ref a)]) hx hb dX10_valleyLine_55 rfl hl (by decide) rfl (fun ls hl => ?_)
  refine W.loop (σ := Int32 × Int32 × Gh) (fun w37 H locs ls => 0 ≤ w37.1.toInt ∧ w37.1.toInt ≤ 3 ∧ 0 ≤ w37.2.1.toInt ∧ w37.2.1.toInt ≤ 1600 ∧ (a0.toInt ≤ w37.2.1.toInt) ∧ (w37.2.1.toInt ≤ tp.toInt) ∧ tp = w37.2.2.1 a 6 ∧ v4 = w37.2.2.1 vaa 4 ∧ w37.2.1 = w37.2.2.1 a 7 ∧ Fr τ [11, 70, 71] G w37.2.2 ∧ TY D cy base τ w37.2.2 H ∧ va_S (RA base) s.heap H locs ∧ lv_has ls 3 [(2, .int w37.1), (1, .int z_6), (0, .ref a)]) (fun w37 => (3 - w37.1.toInt).toNat) ?_ ((0 : Int32), z_36, G_31) _ _ _ ⟨(by show 0 ≤ (0 : Int32).toInt; decide), (by show (0 : Int32).toInt ≤ 3; decide), (by show 0 ≤ z_36.toInt; omega), (by show z_36.toInt ≤ 1600; omega), (by show a0.toInt ≤ z_36.toInt; first | omega | assumption | exact rfl), (by show z_36.toInt ≤ tp.toInt; first | omega | assumption | exact rfl), (by show tp = G_31.1 a 6; exact k_35), (by show v4 = G_31.1 vaa 4; exact k_32), ez_36, hF, hT, hS, lv_sub hl [0, 1, 2] rfl⟩
  intro w37 H locs ls hI ih37
  obtain ⟨x37_2, x37_at, G_37⟩ := w37
  obtain ⟨i37_0, i37_1, i37_2, i37_3, i37_4, i37_5, i37_6, i37_7, i37_8, hF, hT, hS, hl⟩ := hI
  have i37_0 : 0 ≤ x37_2.toInt := i37_0
  have i37_1 : x37_2.toInt ≤ 3 := i37_1
  have i37_2 : 0 ≤ x37_at.toInt := i37_2
  have i37_3 : x37_at.toInt ≤ 1600 := i37_3
  have i37_4 : (a0.toInt ≤ x37_at.toInt) := i37_4
  have i37_5 : (x37_at.toInt ≤ tp.toInt) := i37_5
  have i37_6 : tp = G_37.1 a 6 := i37_6
  have i37_7 : v4 = G_37.1 vaa 4 := i37_7
  have i37_8 : x37_at = G_37.1 a 7 := i37_8
  have hF : Fr τ [11, 70, 71] G G_37 := hF
  have hT : TY D cy base τ G_37 H := hT
  have hS : va_S (RA base) s.heap H locs := hS
  have hl : lv_has ls 3 [(2, .int x37_2), (1, .int z_6), (0, .ref a)] := hl
  refine lv_iload_n hx hb dX10_valleyLine_56 rfl (lv_at hl 0 rfl) ?_
  refine lv_iconst (v := 3) hx hb dX10_valleyLine_57 (by decide) ?_
  refine lv_icmp_ge (tgt := 98) hx hb dX10_valleyLine_58 (by decide) (fun c_38 => ?_) (fun c_38 => ?_)
  · skip
    have tc_38 : 3 ≤ x37_2.toInt := (fa_le _ _).mp c_38
    refine lv_aload_n hx hb dX10_valleyLine_98 rfl (lv_at hl 2 rfl) ?_
    refine t_getr cf_11 hx hb hts hown hK hT h_a (k := 20) (P := fun q => τ q = 70) rfl (fun _ h9 => h9) fl_X10_43 (fun _ h9 => h9) dX10_valleyLine_99 (fun q_39 eq_39 hq_39 => ?_)
    have w_40 : vaa = q_39 := Option.some.inj (e_vaa.symm.trans ((hF.r h_a (by decide) rfl _).symm.trans eq_39))
    subst w_40
    refine lv_iconst (v := 4) hx hb dX10_valleyLine_102 (by decide) ?_
    refine lv_dup2_11 hx hb dX10_valleyLine_103 rfl rfl ?_
    refine t_iald (n := 5) (i := 4) rfl (by decide) hx hb hK hT h_vaa (hT.len h_vaa (by decide)) ⟨by decide, by decide⟩ dX10_valleyLine_104 (fun z_41 ez_41 rz_41 => ?_)
    have w_42 : v4 = z_41 := i37_7.trans ez_41.symm
    subst w_42
    refine lv_iconst (v := 1) hx hb dX10_valleyLine_105 (by decide) ?_
    refine lv_iadd hx hb dX10_valleyLine_106 ?_
    refine lv_topi (fun z_43 ez_43 => ?_)
    have tz_43 : z_43.toInt = v4.toInt + 1 := add_t ez_43 (show -2147483648 ≤ v4.toInt + 1 by omega) (show v4.toInt + 1 < 2147483648 by omega)
    refine t_iast (n := 5) (i := 4) (x := z_43) rfl (by decide) hx hb hK hT hS h_vaa (hT.len h_vaa (by decide)) ⟨by decide, by decide⟩ (show 0 ≤ z_43.toInt ∧ z_43.toInt ≤ 6 from ⟨by omega, by omega⟩) dX10_valleyLine_107 (fun H locs G_44 eG_44 hT hS => ?_)
    have hF := hF.wI eG_44 h_vaa rfl
    have eG_44 : G_44 = wI G_37 vaa 4 z_43 := eG_44
    have k_45 : tp = G_44.1 a 6 := by rw [eG_44, wI_ne (Or.inl (tag_ne h_vaa h_a (by decide)))]; exact i37_6
    have k_47 : x37_at = G_44.1 a 7 := by rw [eG_44, wI_ne (Or.inl (tag_ne h_vaa h_a (by decide)))]; exact i37_8
    have k_48 : z_43 = G_44.1 vaa 4 := by rw [eG_44, wI_at]
    exact ret_v hx hb hr hlocks ⟨⟨hS.1, hS.2.1⟩, G_44, hF, ⟨rfl, ⟨(by first | (show a0.toInt ≤ (G_44.1 a 7).toInt; rw [← k_47]; done) | (show a0.toInt ≤ (G_44.1 a 7).toInt; rw [← k_47]; show a0.toInt ≤ x37_at.toInt; first | omega | assumption)), (by first | (show (G_44.1 a 7).toInt ≤ tp.toInt; rw [← k_47]; done) | (show (G_44.1 a 7).toInt ≤ tp.toInt; rw [← k_47]; show x37_at.toInt ≤ tp.toInt; first | omega | assumption)), (k_45.symm.trans e_tp)⟩⟩, hT⟩ hS.2.2 (Nat.le_of_ble_eq_true rfl) (Nat.le_of_ble_eq_true rfl) dX10_valleyLine_108
  · skip
    have tc_38 : ¬ 3 ≤ x37_2.toInt := fun h => c_38 ((fa_le _ _).mpr h)
    refine lv_aload_n hx hb dX10_valleyLine_61 rfl (lv_at hl 2 rfl) ?_
    refine t_getr cf_11 hx hb hts hown hK hT h_a (k := 21) (P := fun q => τ q = 71) rfl (fun _ h9 => h9) fl_X10_46 (fun _ h9 => h9) dX10_valleyLine_62 (fun q_49 eq_49 hq_49 => ?_)
    have w_50 : q_7 = q_49 := Option.some.inj (eq_7.symm.trans ((hF.r h_a (by decide) rfl _).symm.trans eq_49))
    subst w_50
    refine lv_iload_n hx hb dX10_valleyLine_65 rfl (lv_at hl 1 rfl) ?_
    refine lv_iconst (v := 2) hx hb dX10_valleyLine_66 (by decide) ?_
    refine lv_iadd hx hb dX10_valleyLine_67 ?_
    refine lv_topi (fun z_51 ez_51 => ?_)
    have tz_51 : z_51.toInt = z_6.toInt + 2 := add_t ez_51 (show -2147483648 ≤ z_6.toInt + 2 by omega) (show z_6.toInt + 2 < 2147483648 by omega)
    refine lv_iload_n hx hb dX10_valleyLine_68 rfl (lv_at hl 0 rfl) ?_
    refine lv_iadd hx hb dX10_valleyLine_69 ?_
    refine lv_topi (fun z_52 ez_52 => ?_)
    have tz_52 : z_52.toInt = z_51.toInt + x37_2.toInt := add_t ez_52 (show -2147483648 ≤ z_51.toInt + x37_2.toInt by omega) (show z_51.toInt + x37_2.toInt < 2147483648 by omega)
    refine lv_iload_n hx hb dX10_valleyLine_70 rfl (lv_at hl 0 rfl) ?_
    refine lv_aload_n hx hb dX10_valleyLine_71 rfl (lv_at hl 2 rfl) ?_
    refine t_getr cf_11 hx hb hts hown hK hT h_a (k := 18) (P := fun q => τ q = 68) rfl (fun _ h9 => h9) fl_X10_37 (fun _ h9 => h9) dX10_valleyLine_72 (fun q_53 eq_53 hq_53 => ?_)
    have eq_53 := (hF.r h_a (by decide) rfl _).symm.trans eq_53
    refine lv_iconst (v := 4) hx hb dX10_valleyLine_75 (by decide) ?_
    refine t_iald (n := 5) (i := 4) rfl (by decide) hx hb hK hT hq_53 (hT.len hq_53 (by decide)) ⟨by decide, by decide⟩ dX10_valleyLine_76 (fun z_54 ez_54 rz_54 => ?_)
    have ez_54 : z_54 = G_37.1 q_53 4 := ez_54
    have rz_54 : 0 ≤ z_54.toInt ∧ z_54.toInt ≤ 3 := rz_54
    have ez_54 : z_54 = G.1 q_53 4 := ez_54.trans (hF.i hq_53 (by decide) rfl _)
    refine lv_icmp_ge (tgt := 90) hx hb dX10_valleyLine_77 (by decide) (fun c_55 => ?_) (fun c_55 => ?_)
    · skip
      have tc_55 : z_54.toInt ≤ x37_2.toInt := (fa_le _ _).mp c_55
      refine lv_iconst (v := 0) hx hb dX10_valleyLine_90 (by decide) ?_
      refine t_iast (n := 150) (i := z_52) (x := 0) rfl (by decide) hx hb hK hT hS hq_7 (hT.len hq_7 (by decide)) ⟨by omega, by omega⟩ (show (z_52.toInt.toNat % 5 = 1 → 0 ≤ (0 : Int32).toInt ∧ (0 : Int32).toInt ≤ 999) ∧ (z_52.toInt.toNat % 5 = 2 → 0 ≤ (0 : Int32).toInt ∧ (0 : Int32).toInt ≤ 9) ∧ (z_52.toInt.toNat % 5 = 3 → 0 ≤ (0 : Int32).toInt ∧ (0 : Int32).toInt ≤ 9) ∧ (z_52.toInt.toNat % 5 = 4 → 0 ≤ (0 : Int32).toInt ∧ (0 : Int32).toInt ≤ 9) from by (have e9 : (0 : Int32).toInt = 0 := rfl); omega) dX10_valleyLine_91 (fun H locs G_56 eG_56 hT hS => ?_)
      have hF := hF.wI eG_56 hq_7 rfl
      have k_57 : tp = G_56.1 a 6 := by rw [eG_56, wI_ne (Or.inl (tag_ne hq_7 h_a (by decide)))]; exact i37_6
      have k_58 : v4 = G_56.1 vaa 4 := by rw [eG_56, wI_ne (Or.inl (tag_ne hq_7 h_vaa (by decide)))]; exact i37_7
      have k_59 : x37_at = G_56.1 a 7 := by rw [eG_56, wI_ne (Or.inl (tag_ne hq_7 h_a (by decide)))]; exact i37_8
      obtain ⟨z_60, ez_60⟩ : ∃ y : Int32, y = x37_2 + 1 := ⟨_, rfl⟩
      have tz_60 : z_60.toInt = x37_2.toInt + 1 := add_t ez_60 (show -2147483648 ≤ x37_2.toInt + 1 by omega) (show x37_2.toInt + 1 < 2147483648 by omega)
      refine lv_iinc (v := z_60) (lv' := [(2, .int z_60), (1, .int z_6), (0, .ref a)]) hx hb dX10_valleyLine_92 hl (k := 0) rfl (by rw [ez_60]; rfl) (by decide) rfl (fun ls hl => ?_)
      refine lv_goto (tgt := 56) hx hb dX10_valleyLine_95 (by decide) ?_
      exact ih37 (z_60, x37_at, G_56) _ _ _ (by show (3 - z_60.toInt).toNat < (3 - x37_2.toInt).toNat; omega) ⟨(by show 0 ≤ z_60.toInt; omega), (by show z_60.toInt ≤ 3; omega), (by show 0 ≤ x37_at.toInt; omega), (by show x37_at.toInt ≤ 1600; omega), by show a0.toInt ≤ x37_at.toInt; first | omega | assumption, by show x37_at.toInt ≤ tp.toInt; first | omega | assumption, (show tp = G_56.1 a 6 from by first | exact k_57 | omega), (show v4 = G_56.1 vaa 4 from by first | exact k_58 | omega), k_59, hF, hT, hS, lv_sub hl [0, 1, 2] rfl⟩
    · skip
      have tc_55 : ¬ z_54.toInt ≤ x37_2.toInt := fun h => c_55 ((fa_le _ _).mpr h)
      refine lv_aload_n hx hb dX10_valleyLine_80 rfl (lv_at hl 2 rfl) ?_
      refine lv_iconst (v := 0) hx hb dX10_valleyLine_81 (by decide) ?_
      refine lv_bipush (v := 9) hx hb dX10_valleyLine_82 (by decide) ?_
      refine t_calli (runV (As := [.int 0, .int 9]) (rest := [.int z_52, .ref q_7]) ⟨hx, hb, hml, hown, hts⟩ (t_X10_number l D cy base τ G_37 a h_a 0 9 tp i37_6 ⟨by omega, by omega⟩ x37_at i37_8 ⟨by omega, by omega⟩ (by show x37_at.toInt ≤ tp.toInt; first | assumption | omega | decide)) sV_X10_186 hK (t_recv cf_11 hK hT h_a) ⟨Nat.le_trans hZ hS.1, hT⟩ ⟨Nat.le_of_ble_eq_true rfl, Nat.le_of_ble_eq_true rfl⟩ rfl hl.1 rfl (Nat.le_of_ble_eq_true rfl) dX10_valleyLine_84 ⟨Nat.le_of_ble_eq_true rfl, Nat.le_of_ble_eq_true rfl⟩) hS (fun r_61 G_61 H locs hF_61 hr_61 hT hS => ?_)
      have hF := hF.tr hF_61 rfl
      have k_63 : v4 = G_61.1 vaa 4 := i37_7.trans (hF_61.i h_vaa (by decide) rfl _).symm
      obtain ⟨hr_61_p0, hr_61_p1, hr_61_p2, hr_61_s0⟩ := hr_61
      have k_65 : tp = G_61.1 a 6 := i37_6.trans hr_61_s0.symm
      obtain ⟨z_66, ez_66, hr_61_p0, hr_61_p1, hr_61_p2⟩ : ∃ z_66 : Int32, z_66 = G_61.1 a 7 ∧ (x37_at.toInt ≤ z_66.toInt) ∧ (z_66.toInt ≤ tp.toInt) ∧ (r_61.toInt = (0 : Int) ∨ ((0 : Int) ≤ r_61.toInt ∧ r_61.toInt ≤ (9 : Int))) := ⟨_, rfl, hr_61_p0, hr_61_p1, hr_61_p2⟩
      have rz_66 : 0 ≤ z_66.toInt ∧ z_66.toInt ≤ 1600 := by rw [ez_66]; exact hT.rgi h_a (by decide) 7
      refine lv_goto (tgt := 91) hx hb dX10_valleyLine_87 (by decide) ?_
      refine t_iast (n := 150) (i := z_52) (x := r_61) rfl (by decide) hx hb hK hT hS hq_7 (hT.len hq_7 (by decide)) ⟨by omega, by omega⟩ (show (z_52.toInt.toNat % 5 = 1 → 0 ≤ r_61.toInt ∧ r_61.toInt ≤ 999) ∧ (z_52.toInt.toNat % 5 = 2 → 0 ≤ r_61.toInt ∧ r_61.toInt ≤ 9) ∧ (z_52.toInt.toNat % 5 = 3 → 0 ≤ r_61.toInt ∧ r_61.toInt ≤ 9) ∧ (z_52.toInt.toNat % 5 = 4 → 0 ≤ r_61.toInt ∧ r_61.toInt ≤ 9) from by omega) dX10_valleyLine_91 (fun H locs G_67 eG_67 hT hS => ?_)
      have hF := hF.wI eG_67 hq_7 rfl
      have k_68 : v4 = G_67.1 vaa 4 := by rw [eG_67, wI_ne (Or.inl (tag_ne hq_7 h_vaa (by decide)))]; exact k_63
      have k_69 : tp = G_67.1 a 6 := by rw [eG_67, wI_ne (Or.inl (tag_ne hq_7 h_a (by decide)))]; exact k_65
      have k_70 : z_66 = G_67.1 a 7 := by rw [eG_67, wI_ne (Or.inl (tag_ne hq_7 h_a (by decide)))]; exact ez_66
      obtain ⟨z_71, ez_71⟩ : ∃ y : Int32, y = x37_2 + 1 := ⟨_, rfl⟩
      have tz_71 : z_71.toInt = x37_2.toInt + 1 := add_t ez_71 (show -2147483648 ≤ x37_2.toInt + 1 by omega) (show x37_2.toInt + 1 < 2147483648 by omega)
      refine lv_iinc (v := z_71) (lv' := [(2, .int z_71), (1, .int z_6), (0, .ref a)]) hx hb dX10_valleyLine_92 hl (k := 0) rfl (by rw [ez_71]; rfl) (by decide) rfl (fun ls hl => ?_)
      refine lv_goto (tgt := 56) hx hb dX10_valleyLine_95 (by decide) ?_
      exact ih37 (z_71, z_66, G_67) _ _ _ (by show (3 - z_71.toInt).toNat < (3 - x37_2.toInt).toNat; omega) ⟨(by show 0 ≤ z_71.toInt; omega), (by show z_71.toInt ≤ 3; omega), (by show 0 ≤ z_66.toInt; omega), (by show z_66.toInt ≤ 1600; omega), by show a0.toInt ≤ z_66.toInt; first | omega | assumption, by show z_66.toInt ≤ tp.toInt; first | omega | assumption, (show tp = G_67.1 a 6 from by first | exact k_69 | omega), (show v4 = G_67.1 vaa 4 from by first | exact k_68 | omega), k_70, hF, hT, hS, lv_sub hl [0, 1, 2] rfl⟩
set_option maxHeartbeats 4000000 in
set_option maxRecDepth 100000 in
theorem t_X10_pathLine (l : Launch) (D : va_G) (cy : Nat → ClassId) (base : Nat) (τ : Nat → Nat) (G : Gh) (a : Nat) (h_a : τ a = 11) (paa : Nat) (h_paa : τ paa = 72) (e_paa : G.2.2.1 a 22 = some paa) (tp : Int32) (e_tp : tp = G.1 a 6) (r_tp : 0 ≤ tp.toInt ∧ tp.toInt ≤ 1600) (a0 : Int32) (e_a0 : a0 = G.1 a 7) (r_a0 : 0 ≤ a0.toInt ∧ a0.toInt ≤ 1600) (p4 : Int32) (e_p4 : p4 = G.1 paa 4) (r_p4 : 0 ≤ p4.toInt ∧ p4.toInt ≤ 7) (hat : a0.toInt ≤ tp.toInt) : MM l yX10_pathLine cX10_pathLine 6 none 5 0 0 D cy [.ref a] (PT D cy base τ G) (QT D cy base τ G [11, 72, 73] (fun v g => v = none ∧ ((a0.toInt ≤ (g.1 a 7).toInt) ∧ ((g.1 a 7).toInt ≤ tp.toInt) ∧ g.1 a 6 = G.1 a 6))) (RA base) := by
  refine MM.of (by decide) (Nat.le_of_ble_eq_true rfl) ?_
  intro p e s m below meth c C hPT ls hl
  obtain ⟨hx, hb, hr, hml, hown, hts, hlocks, hK, hnm⟩ := C
  obtain ⟨hZ, hT⟩ := hPT
  have hS : va_S (RA base) s.heap s.heap [] := va_S.rf
  have hF : Fr τ [11, 72, 73] G G := Fr.rf
  have hl : lv_has ls 6 [(0, .ref a)] := hl
  refine lv_iconst (v := 3) hx hb dX10_pathLine_0 (by decide) ?_
  refine lv_bipush (v := 32) hx hb dX10_pathLine_1 (by decide) ?_
  refine lv_aload_n hx hb dX10_pathLine_3 rfl (lv_at hl 0 rfl) ?_
  refine t_getr cf_11 hx hb hts hown hK hT h_a (k := 22) (P := fun q => τ q = 72) rfl (fun _ h9 => h9) fl_X10_49 (fun _ h9 => h9) dX10_pathLine_4 (fun q_1 eq_1 hq_1 => ?_)
  have w_2 : paa = q_1 := Option.some.inj (e_paa.symm.trans eq_1)
  subst w_2
  refine lv_iconst (v := 4) hx hb dX10_pathLine_7 (by decide) ?_
  refine t_iald (n := 5) (i := 4) rfl (by decide) hx hb hK hT h_paa (hT.len h_paa (by decide)) ⟨by decide, by decide⟩ dX10_pathLine_8 (fun z_3 ez_3 rz_3 => ?_)
  have w_4 : p4 = z_3 := e_p4.trans ez_3.symm
  subst w_4
  refine lv_iadd hx hb dX10_pathLine_9 ?_
  refine lv_topi (fun z_5 ez_5 => ?_)
  have tz_5 : z_5.toInt = 32 + p4.toInt := add_t ez_5 (show -2147483648 ≤ 32 + p4.toInt by omega) (show 32 + p4.toInt < 2147483648 by omega)
  refine lv_imul hx hb dX10_pathLine_10 ?_
  refine lv_topi (fun z_6 ez_6 => ?_)
  have tz_6 : z_6.toInt = 3 * z_5.toInt := mul_t ez_6 (show -2147483648 ≤ 3 * z_5.toInt by omega) (show 3 * z_5.toInt < 2147483648 by omega)
  refine lv_istore_n (lv' := [(1, .int z_6), (0, .ref a)]) hx hb dX10_pathLine_11 rfl hl (by decide) rfl (fun ls hl => ?_)
  refine lv_aload_n hx hb dX10_pathLine_12 rfl (lv_at hl 1 rfl) ?_
  refine lv_iconst (v := 0) hx hb dX10_pathLine_13 (by decide) ?_
  refine lv_aload_n hx hb dX10_pathLine_14 rfl (lv_at hl 1 rfl) ?_
  refine t_getr cf_11 hx hb hts hown hK hT h_a (k := 20) (P := fun q => τ q = 70) rfl (fun _ h9 => h9) fl_X10_43 (fun _ h9 => h9) dX10_pathLine_15 (fun q_7 eq_7 hq_7 => ?_)
  refine lv_iconst (v := 4) hx hb dX10_pathLine_18 (by decide) ?_
  refine t_iald (n := 5) (i := 4) rfl (by decide) hx hb hK hT hq_7 (hT.len hq_7 (by decide)) ⟨by decide, by decide⟩ dX10_pathLine_19 (fun z_8 ez_8 rz_8 => ?_)
  have ez_8 : z_8 = G.1 q_7 4 := ez_8
  have rz_8 : 0 ≤ z_8.toInt ∧ z_8.toInt ≤ 6 := rz_8
  refine lv_iconst (v := 1) hx hb dX10_pathLine_20 (by decide) ?_
  refine lv_isub hx hb dX10_pathLine_21 ?_
  refine lv_topi (fun z_9 ez_9 => ?_)
  have tz_9 : z_9.toInt = z_8.toInt - 1 := sub_t ez_9 (show -2147483648 ≤ z_8.toInt - 1 by omega) (show z_8.toInt - 1 < 2147483648 by omega)
  refine t_calli (runV (As := [.int 0, .int z_9]) (rest := []) ⟨hx, hb, hml, hown, hts⟩ (t_X10_number l D cy base τ G a h_a 0 z_9 tp e_tp ⟨by omega, by omega⟩ a0 e_a0 ⟨by omega, by omega⟩ (by show a0.toInt ≤ tp.toInt; first | assumption | omega | decide)) sV_X10_186 hK (t_recv cf_11 hK hT h_a) ⟨Nat.le_trans hZ hS.1, hT⟩ ⟨Nat.le_of_ble_eq_true rfl, Nat.le_of_ble_eq_true rfl⟩ rfl hl.1 rfl (Nat.le_of_ble_eq_true rfl) dX10_pathLine_22 ⟨Nat.le_of_ble_eq_true rfl, Nat.le_of_ble_eq_true rfl⟩) hS (fun r_10 G_10 H locs hF_10 hr_10 hT hS => ?_)
  have hF := hF.tr hF_10 rfl
  have k_13 : p4 = G_10.1 paa 4 := e_p4.trans (hF_10.i h_paa (by decide) rfl _).symm
  obtain ⟨hr_10_p0, hr_10_p1, hr_10_p2, hr_10_s0⟩ := hr_10
  have k_14 : tp = G_10.1 a 6 := e_tp.trans hr_10_s0.symm
  obtain ⟨z_15, ez_15, hr_10_p0, hr_10_p1, hr_10_p2⟩ : ∃ z_15 : Int32, z_15 = G_10.1 a 7 ∧ (a0.toInt ≤ z_15.toInt) ∧ (z_15.toInt ≤ tp.toInt) ∧ (r_10.toInt = (0 : Int) ∨ ((0 : Int) ≤ r_10.toInt ∧ r_10.toInt ≤ z_9.toInt)) := ⟨_, rfl, hr_10_p0, hr_10_p1, hr_10_p2⟩
  have rz_15 : 0 ≤ z_15.toInt ∧ z_15.toInt ≤ 1600 := by rw [ez_15]; exact hT.rgi h_a (by decide) 7
  refine lv_istore_n (lv' := [(2, .int r_10), (1, .int z_6), (0, .ref a)]) hx hb dX10_pathLine_25 rfl hl (by decide) rfl (fun ls hl => ?_)
  refine lv_aload_n hx hb dX10_pathLine_26 rfl (lv_at hl 2 rfl) ?_
  refine t_geti cf_11 hx hb hts hown hK hT h_a (k := 12) rfl fl_X10_163 (fun _ h9 => h9) dX10_pathLine_27 (fun z_16 ez_16 rz_16 => ?_)
  have ez_16 : z_16 = G_10.1 a 12 := ez_16
  refine lv_if_ne (tgt := 53) hx hb dX10_pathLine_30 (by decide) (fun c_17 => ?_) (fun c_17 => ?_)
  · skip
    have tc_17 : ¬ z_16.toInt = 0 := fun h => c_17 ((fa_eq _ _).mpr h)
    refine lv_iconst (v := 0) hx hb dX10_pathLine_53 (by decide) ?_
    refine lv_istore_n (lv' := [(3, .int 0), (2, .int r_10), (1, .int z_6), (0, .ref a)]) hx hb dX10_pathLine_54 rfl hl (by decide) rfl (fun ls hl => ?_)
    refine lv_iconst (v := 0) hx hb dX10_pathLine_55 (by decide) ?_
    refine lv_istore (lv' := [(4, .int 0), (3, .int 0), (2, .int r_10), (1, .int z_6), (0, .ref a)]) hx hb dX10_pathLine_56 hl (by decide) rfl (fun ls hl => ?_)
    refine W.loop (σ := Int32 × Int32 × Int32 × Gh) (fun w18 H locs ls => 0 ≤ w18.2.1.toInt ∧ w18.2.1.toInt ≤ 8 ∧ 0 ≤ w18.2.2.1.toInt ∧ w18.2.2.1.toInt ≤ 1600 ∧ (a0.toInt ≤ w18.2.2.1.toInt) ∧ (w18.2.2.1.toInt ≤ tp.toInt) ∧ tp = w18.2.2.2.1 a 6 ∧ p4 = w18.2.2.2.1 paa 4 ∧ w18.2.2.1 = w18.2.2.2.1 a 7 ∧ Fr τ [11, 72, 73] G w18.2.2.2 ∧ TY D cy base τ w18.2.2.2 H ∧ va_S (RA base) s.heap H locs ∧ lv_has ls 6 [(3, .int w18.1), (4, .int w18.2.1), (2, .int r_10), (1, .int z_6), (0, .ref a)]) (fun w18 => (8 - w18.2.1.toInt).toNat) ?_ ((0 : Int32), (0 : Int32), z_15, G_10) _ _ _ ⟨(by show 0 ≤ (0 : Int32).toInt; decide), (by show (0 : Int32).toInt ≤ 8; decide), (by show 0 ≤ z_15.toInt; omega), (by show z_15.toInt ≤ 1600; omega), (by show a0.toInt ≤ z_15.toInt; first | omega | assumption | exact rfl), (by show z_15.toInt ≤ tp.toInt; first | omega | assumption | exact rfl), (by show tp = G_10.1 a 6; exact k_14), (by show p4 = G_10.1 paa 4; exact k_13), ez_15, hF, hT, hS, lv_sub hl [1, 0, 2, 3, 4] rfl⟩
    intro w18 H locs ls hI ih18
    obtain ⟨x18_3, x18_4, x18_at, G_18⟩ := w18
    obtain ⟨i18_0, i18_1, i18_2, i18_3, i18_4, i18_5, i18_6, i18_7, i18_8, hF, hT, hS, hl⟩ := hI
    have i18_0 : 0 ≤ x18_4.toInt := i18_0
    have i18_1 : x18_4.toInt ≤ 8 := i18_1
    have i18_2 : 0 ≤ x18_at.toInt := i18_2
    have i18_3 : x18_at.toInt ≤ 1600 := i18_3
    have i18_4 : (a0.toInt ≤ x18_at.toInt) := i18_4
    have i18_5 : (x18_at.toInt ≤ tp.toInt) := i18_5
    have i18_6 : tp = G_18.1 a 6 := i18_6
    have i18_7 : p4 = G_18.1 paa 4 := i18_7
    have i18_8 : x18_at = G_18.1 a 7 := i18_8
    have hF : Fr τ [11, 72, 73] G G_18 := hF
    have hT : TY D cy base τ G_18 H := hT
    have hS : va_S (RA base) s.heap H locs := hS
    have hl : lv_has ls 6 [(3, .int x18_3), (4, .int x18_4), (2, .int r_10), (1, .int z_6), (0, .ref a)] := hl
    refine lv_iload hx hb dX10_pathLine_58 (lv_at hl 1 rfl) ?_
    refine lv_aload_n hx hb dX10_pathLine_60 rfl (lv_at hl 4 rfl) ?_
    refine t_getr cf_11 hx hb hts hown hK hT h_a (k := 22) (P := fun q => τ q = 72) rfl (fun _ h9 => h9) fl_X10_49 (fun _ h9 => h9) dX10_pathLine_61 (fun q_19 eq_19 hq_19 => ?_)
    have w_20 : paa = q_19 := Option.some.inj (e_paa.symm.trans ((hF.r h_a (by decide) rfl _).symm.trans eq_19))
    subst w_20
    refine lv_iconst (v := 4) hx hb dX10_pathLine_64 (by decide) ?_
    refine t_iald (n := 5) (i := 4) rfl (by decide) hx hb hK hT h_paa (hT.len h_paa (by decide)) ⟨by decide, by decide⟩ dX10_pathLine_65 (fun z_21 ez_21 rz_21 => ?_)
    have w_22 : p4 = z_21 := i18_7.trans ez_21.symm
    subst w_22
    refine lv_icmp_ge (tgt := 163) hx hb dX10_pathLine_66 (by decide) (fun c_23 => ?_) (fun c_23 => ?_)
    · skip
      have tc_23 : p4.toInt ≤ x18_4.toInt := (fa_le _ _).mp c_23
      refine lv_iload_n hx hb dX10_pathLine_163 rfl (lv_at hl 0 rfl) ?_
      refine lv_if_eq (tgt := 172) hx hb dX10_pathLine_164 (by decide) (fun c_24 => ?_) (fun c_24 => ?_)
      · skip
        have tc_24 : x18_3.toInt = 0 := (fa_eq _ _).mp c_24
        refine lv_aload_n hx hb dX10_pathLine_172 rfl (lv_at hl 4 rfl) ?_
        refine t_getr cf_11 hx hb hts hown hK hT h_a (k := 23) (P := fun q => τ q = 73) rfl (fun _ h9 => h9) fl_X10_52 (fun _ h9 => h9) dX10_pathLine_173 (fun q_25 eq_25 hq_25 => ?_)
        have eq_25 := (hF.r h_a (by decide) rfl _).symm.trans eq_25
        refine lv_iload_n hx hb dX10_pathLine_176 rfl (lv_at hl 3 rfl) ?_
        refine lv_iload_n hx hb dX10_pathLine_177 rfl (lv_at hl 2 rfl) ?_
        refine t_iast (n := 120) (i := z_6) (x := r_10) rfl (by decide) hx hb hK hT hS hq_25 (hT.len hq_25 (by decide)) ⟨by omega, by omega⟩ trivial dX10_pathLine_178 (fun H locs G_26 eG_26 hT hS => ?_)
        have hF := hF.wI eG_26 hq_25 rfl
        have k_27 : tp = G_26.1 a 6 := by rw [eG_26, wI_ne (Or.inl (tag_ne hq_25 h_a (by decide)))]; exact i18_6
        have k_28 : p4 = G_26.1 paa 4 := by rw [eG_26, wI_ne (Or.inl (tag_ne hq_25 h_paa (by decide)))]; exact i18_7
        have k_29 : x18_at = G_26.1 a 7 := by rw [eG_26, wI_ne (Or.inl (tag_ne hq_25 h_a (by decide)))]; exact i18_8
        refine lv_aload_n hx hb dX10_pathLine_179 rfl (lv_at hl 4 rfl) ?_
        refine t_getr cf_11 hx hb hts hown hK hT h_a (k := 23) (P := fun q => τ q = 73) rfl (fun _ h9 => h9) fl_X10_52 (fun _ h9 => h9) dX10_pathLine_180 (fun q_30 eq_30 hq_30 => ?_)
        have w_31 : q_25 = q_30 := Option.some.inj (eq_25.symm.trans ((hF.r h_a (by decide) rfl _).symm.trans eq_30))
        subst w_31
        refine lv_iload_n hx hb dX10_pathLine_183 rfl (lv_at hl 3 rfl) ?_
        refine lv_iconst (v := 1) hx hb dX10_pathLine_184 (by decide) ?_
        refine lv_iadd hx hb dX10_pathLine_185 ?_
        refine lv_topi (fun z_32 ez_32 => ?_)
        have tz_32 : z_32.toInt = z_6.toInt + 1 := add_t ez_32 (show -2147483648 ≤ z_6.toInt + 1 by omega) (show z_6.toInt + 1 < 2147483648 by omega)
        refine lv_aload_n hx hb dX10_pathLine_186 rfl (lv_at hl 4 rfl) ?_
        refine lv_iconst (v := 0) hx hb dX10_pathLine_187 (by decide) ?_
        refine lv_aload_n hx hb dX10_pathLine_188 rfl (lv_at hl 4 rfl) ?_
        refine t_getr cf_11 hx hb hts hown hK hT h_a (k := 20) (P := fun q => τ q = 70) rfl (fun _ h9 => h9) fl_X10_43 (fun _ h9 => h9) dX10_pathLine_189 (fun q_33 eq_33 hq_33 => ?_)
        have w_34 : q_7 = q_33 := Option.some.inj (eq_7.symm.trans ((hF.r h_a (by decide) rfl _).symm.trans eq_33))
        subst w_34
        refine lv_iconst (v := 4) hx hb dX10_pathLine_192 (by decide) ?_
        refine t_iald (n := 5) (i := 4) rfl (by decide) hx hb hK hT hq_7 (hT.len hq_7 (by decide)) ⟨by decide, by decide⟩ dX10_pathLine_193 (fun z_35 ez_35 rz_35 => ?_)
        have w_36 : z_8 = z_35 := ez_8.trans (ez_35.trans (hF.i hq_7 (by decide) rfl _)).symm
        subst w_36
        refine lv_iconst (v := 1) hx hb dX10_pathLine_194 (by decide) ?_
        refine lv_isub hx hb dX10_pathLine_195 ?_
        refine lv_topi (fun z_37 ez_37 => ?_)
        have w_38 : z_9 = z_37 := ez_9.trans ez_37.symm
        subst w_38
        refine t_calli (runV (As := [.int 0, .int z_9]) (rest := [.int z_32, .ref q_25]) ⟨hx, hb, hml, hown, hts⟩ (t_X10_number l D cy base τ G_26 a h_a 0 z_9 tp k_27 ⟨by omega, by omega⟩ x18_at k_29 ⟨by omega, by omega⟩ (by show x18_at.toInt ≤ tp.toInt; first | assumption | omega | decide)) sV_X10_186 hK (t_recv cf_11 hK hT h_a) ⟨Nat.le_trans hZ hS.1, hT⟩ ⟨Nat.le_of_ble_eq_true rfl, Nat.le_of_ble_eq_true rfl⟩ rfl hl.1 rfl (Nat.le_of_ble_eq_true rfl) dX10_pathLine_196 ⟨Nat.le_of_ble_eq_true rfl, Nat.le_of_ble_eq_true rfl⟩) hS (fun r_39 G_39 H locs hF_39 hr_39 hT hS => ?_)
        have hF := hF.tr hF_39 rfl
        have k_41 : p4 = G_39.1 paa 4 := k_28.trans (hF_39.i h_paa (by decide) rfl _).symm
        obtain ⟨hr_39_p0, hr_39_p1, hr_39_p2, hr_39_s0⟩ := hr_39
        have k_43 : tp = G_39.1 a 6 := k_27.trans hr_39_s0.symm
        obtain ⟨z_44, ez_44, hr_39_p0, hr_39_p1, hr_39_p2⟩ : ∃ z_44 : Int32, z_44 = G_39.1 a 7 ∧ (x18_at.toInt ≤ z_44.toInt) ∧ (z_44.toInt ≤ tp.toInt) ∧ (r_39.toInt = (0 : Int) ∨ ((0 : Int) ≤ r_39.toInt ∧ r_39.toInt ≤ z_9.toInt)) := ⟨_, rfl, hr_39_p0, hr_39_p1, hr_39_p2⟩
        have rz_44 : 0 ≤ z_44.toInt ∧ z_44.toInt ≤ 1600 := by rw [ez_44]; exact hT.rgi h_a (by decide) 7
        refine t_iast (n := 120) (i := z_32) (x := r_39) rfl (by decide) hx hb hK hT hS hq_25 (hT.len hq_25 (by decide)) ⟨by omega, by omega⟩ trivial dX10_pathLine_199 (fun H locs G_45 eG_45 hT hS => ?_)
        have hF := hF.wI eG_45 hq_25 rfl
        have k_46 : p4 = G_45.1 paa 4 := by rw [eG_45, wI_ne (Or.inl (tag_ne hq_25 h_paa (by decide)))]; exact k_41
        have k_47 : tp = G_45.1 a 6 := by rw [eG_45, wI_ne (Or.inl (tag_ne hq_25 h_a (by decide)))]; exact k_43
        have k_48 : z_44 = G_45.1 a 7 := by rw [eG_45, wI_ne (Or.inl (tag_ne hq_25 h_a (by decide)))]; exact ez_44
        refine lv_aload_n hx hb dX10_pathLine_200 rfl (lv_at hl 4 rfl) ?_
        refine t_getr cf_11 hx hb hts hown hK hT h_a (k := 23) (P := fun q => τ q = 73) rfl (fun _ h9 => h9) fl_X10_52 (fun _ h9 => h9) dX10_pathLine_201 (fun q_49 eq_49 hq_49 => ?_)
        have w_50 : q_25 = q_49 := Option.some.inj (eq_25.symm.trans ((hF.r h_a (by decide) rfl _).symm.trans eq_49))
        subst w_50
        refine lv_iload_n hx hb dX10_pathLine_204 rfl (lv_at hl 3 rfl) ?_
        refine lv_iconst (v := 2) hx hb dX10_pathLine_205 (by decide) ?_
        refine lv_iadd hx hb dX10_pathLine_206 ?_
        refine lv_topi (fun z_51 ez_51 => ?_)
        have tz_51 : z_51.toInt = z_6.toInt + 2 := add_t ez_51 (show -2147483648 ≤ z_6.toInt + 2 by omega) (show z_6.toInt + 2 < 2147483648 by omega)
        refine lv_aload_n hx hb dX10_pathLine_207 rfl (lv_at hl 4 rfl) ?_
        refine lv_ldc2 (v := 80155) hx hb hown (hts _ kl_X10_195) dX10_pathLine_208 ?_
        refine lv_iconst (v := 1) hx hb dX10_pathLine_211 (by decide) ?_
        refine lv_bipush (v := 30) hx hb dX10_pathLine_212 (by decide) ?_
        refine t_calli (runV (As := [.long 80155, .int 1, .int 30]) (rest := [.int z_51, .ref q_25]) ⟨hx, hb, hml, hown, hts⟩ (t_X10_number_ l D cy base τ G_45 a h_a 80155 1 30 tp k_47 ⟨by omega, by omega⟩ z_44 k_48 ⟨by omega, by omega⟩ (by show z_44.toInt ≤ tp.toInt; first | assumption | omega | decide)) sV_X10_197 hK (t_recv cf_11 hK hT h_a) ⟨Nat.le_trans hZ hS.1, hT⟩ ⟨Nat.le_of_ble_eq_true rfl, Nat.le_of_ble_eq_true rfl⟩ rfl hl.1 rfl (Nat.le_of_ble_eq_true rfl) dX10_pathLine_214 ⟨Nat.le_of_ble_eq_true rfl, Nat.le_of_ble_eq_true rfl⟩) hS (fun r_52 G_52 H locs hF_52 hr_52 hT hS => ?_)
        have hF := hF.tr hF_52 rfl
        have k_53 : p4 = G_52.1 paa 4 := k_46.trans (hF_52.i h_paa (by decide) rfl _).symm
        obtain ⟨hr_52_p0, hr_52_p1, hr_52_p2, hr_52_s0⟩ := hr_52
        have k_56 : tp = G_52.1 a 6 := k_47.trans hr_52_s0.symm
        obtain ⟨z_57, ez_57, hr_52_p0, hr_52_p1, hr_52_p2⟩ : ∃ z_57 : Int32, z_57 = G_52.1 a 7 ∧ (z_44.toInt ≤ z_57.toInt) ∧ (z_57.toInt ≤ tp.toInt) ∧ (r_52.toInt = (1 : Int) ∨ ((1 : Int) ≤ r_52.toInt ∧ r_52.toInt ≤ (30 : Int))) := ⟨_, rfl, hr_52_p0, hr_52_p1, hr_52_p2⟩
        have rz_57 : 0 ≤ z_57.toInt ∧ z_57.toInt ≤ 1600 := by rw [ez_57]; exact hT.rgi h_a (by decide) 7
        refine t_iast (n := 120) (i := z_51) (x := r_52) rfl (by decide) hx hb hK hT hS hq_25 (hT.len hq_25 (by decide)) ⟨by omega, by omega⟩ trivial dX10_pathLine_217 (fun H locs G_58 eG_58 hT hS => ?_)
        have hF := hF.wI eG_58 hq_25 rfl
        have k_59 : p4 = G_58.1 paa 4 := by rw [eG_58, wI_ne (Or.inl (tag_ne hq_25 h_paa (by decide)))]; exact k_53
        have k_60 : tp = G_58.1 a 6 := by rw [eG_58, wI_ne (Or.inl (tag_ne hq_25 h_a (by decide)))]; exact k_56
        have k_61 : z_57 = G_58.1 a 7 := by rw [eG_58, wI_ne (Or.inl (tag_ne hq_25 h_a (by decide)))]; exact ez_57
        refine lv_aload_n hx hb dX10_pathLine_218 rfl (lv_at hl 4 rfl) ?_
        refine t_getr cf_11 hx hb hts hown hK hT h_a (k := 22) (P := fun q => τ q = 72) rfl (fun _ h9 => h9) fl_X10_49 (fun _ h9 => h9) dX10_pathLine_219 (fun q_62 eq_62 hq_62 => ?_)
        have w_63 : paa = q_62 := Option.some.inj (e_paa.symm.trans ((hF.r h_a (by decide) rfl _).symm.trans eq_62))
        subst w_63
        refine lv_iconst (v := 4) hx hb dX10_pathLine_222 (by decide) ?_
        refine lv_dup2_11 hx hb dX10_pathLine_223 rfl rfl ?_
        refine t_iald (n := 5) (i := 4) rfl (by decide) hx hb hK hT h_paa (hT.len h_paa (by decide)) ⟨by decide, by decide⟩ dX10_pathLine_224 (fun z_64 ez_64 rz_64 => ?_)
        have w_65 : p4 = z_64 := k_59.trans ez_64.symm
        subst w_65
        refine lv_iconst (v := 1) hx hb dX10_pathLine_225 (by decide) ?_
        refine lv_iadd hx hb dX10_pathLine_226 ?_
        refine lv_topi (fun z_66 ez_66 => ?_)
        have tz_66 : z_66.toInt = p4.toInt + 1 := add_t ez_66 (show -2147483648 ≤ p4.toInt + 1 by omega) (show p4.toInt + 1 < 2147483648 by omega)
        refine t_iast (n := 5) (i := 4) (x := z_66) rfl (by decide) hx hb hK hT hS h_paa (hT.len h_paa (by decide)) ⟨by decide, by decide⟩ (show 0 ≤ z_66.toInt ∧ z_66.toInt ≤ 8 from ⟨by omega, by omega⟩) dX10_pathLine_227 (fun H locs G_67 eG_67 hT hS => ?_)
        have hF := hF.wI eG_67 h_paa rfl
        have eG_67 : G_67 = wI G_58 paa 4 z_66 := eG_67
        have k_69 : tp = G_67.1 a 6 := by rw [eG_67, wI_ne (Or.inl (tag_ne h_paa h_a (by decide)))]; exact k_60
        have k_70 : z_57 = G_67.1 a 7 := by rw [eG_67, wI_ne (Or.inl (tag_ne h_paa h_a (by decide)))]; exact k_61
        have k_71 : z_66 = G_67.1 paa 4 := by rw [eG_67, wI_at]
        exact ret_v hx hb hr hlocks ⟨⟨hS.1, hS.2.1⟩, G_67, hF, ⟨rfl, ⟨(by first | (show a0.toInt ≤ (G_67.1 a 7).toInt; rw [← k_70]; done) | (show a0.toInt ≤ (G_67.1 a 7).toInt; rw [← k_70]; show a0.toInt ≤ z_57.toInt; first | omega | assumption)), (by first | (show (G_67.1 a 7).toInt ≤ tp.toInt; rw [← k_70]; done) | (show (G_67.1 a 7).toInt ≤ tp.toInt; rw [← k_70]; show z_57.toInt ≤ tp.toInt; first | omega | assumption)), (k_69.symm.trans e_tp)⟩⟩, hT⟩ hS.2.2 (Nat.le_of_ble_eq_true rfl) (Nat.le_of_ble_eq_true rfl) dX10_pathLine_228
      · skip
        have tc_24 : ¬ x18_3.toInt = 0 := fun h => c_24 ((fa_eq _ _).mpr h)
        refine lv_aload_n hx hb dX10_pathLine_167 rfl (lv_at hl 4 rfl) ?_
        refine lv_iconst (v := 2) hx hb dX10_pathLine_168 (by decide) ?_
        obtain ⟨z_72, ez_72⟩ : ∃ y : Int32, y = G_18.1 a 8 := ⟨_, rfl⟩
        obtain ⟨z_73, ez_73⟩ : ∃ y : Int32, y = G_18.1 a 12 := ⟨_, rfl⟩
        refine t_callv (runV (As := [.int 2]) (rest := []) ⟨hx, hb, hml, hown, hts⟩ (t_X10_fails l D cy base τ G_18 a h_a 2 (by decide) tp i18_6 ⟨by omega, by omega⟩ x18_at i18_8 ⟨by omega, by omega⟩ z_72 ez_72 z_73 ez_73) sV_X10_179 hK (t_recv cf_11 hK hT h_a) ⟨Nat.le_trans hZ hS.1, hT⟩ ⟨Nat.le_of_ble_eq_true rfl, Nat.le_of_ble_eq_true rfl⟩ rfl hl.1 rfl (Nat.le_of_ble_eq_true rfl) dX10_pathLine_169 ⟨Nat.le_of_ble_eq_true rfl, Nat.le_of_ble_eq_true rfl⟩) hS (fun G_74 H locs hF_74 hr_74 hT hS => ?_)
        have hF := hF.tr hF_74 rfl
        have k_76 : p4 = G_74.1 paa 4 := i18_7.trans (hF_74.i h_paa (by decide) rfl _).symm
        obtain ⟨hr_74_p0, hr_74_s0, hr_74_s1, hr_74_s2⟩ := hr_74
        have k_80 : tp = G_74.1 a 6 := i18_6.trans hr_74_s0.symm
        have k_81 : x18_at = G_74.1 a 7 := i18_8.trans hr_74_s1.symm
        have k_82 : z_72 = G_74.1 a 8 := ez_72.trans hr_74_s2.symm
        obtain ⟨z_83, ez_83, hr_74_p0⟩ : ∃ z_83 : Int32, z_83 = G_74.1 a 12 ∧ (z_83.toInt ≠ 0) := ⟨_, rfl, hr_74_p0⟩
        refine lv_aload_n hx hb dX10_pathLine_172 rfl (lv_at hl 4 rfl) ?_
        refine t_getr cf_11 hx hb hts hown hK hT h_a (k := 23) (P := fun q => τ q = 73) rfl (fun _ h9 => h9) fl_X10_52 (fun _ h9 => h9) dX10_pathLine_173 (fun q_84 eq_84 hq_84 => ?_)
        have eq_84 := (hF.r h_a (by decide) rfl _).symm.trans eq_84
        refine lv_iload_n hx hb dX10_pathLine_176 rfl (lv_at hl 3 rfl) ?_
        refine lv_iload_n hx hb dX10_pathLine_177 rfl (lv_at hl 2 rfl) ?_
        refine t_iast (n := 120) (i := z_6) (x := r_10) rfl (by decide) hx hb hK hT hS hq_84 (hT.len hq_84 (by decide)) ⟨by omega, by omega⟩ trivial dX10_pathLine_178 (fun H locs G_85 eG_85 hT hS => ?_)
        have hF := hF.wI eG_85 hq_84 rfl
        have k_86 : p4 = G_85.1 paa 4 := by rw [eG_85, wI_ne (Or.inl (tag_ne hq_84 h_paa (by decide)))]; exact k_76
        have k_87 : tp = G_85.1 a 6 := by rw [eG_85, wI_ne (Or.inl (tag_ne hq_84 h_a (by decide)))]; exact k_80
        have k_88 : x18_at = G_85.1 a 7 := by rw [eG_85, wI_ne (Or.inl (tag_ne hq_84 h_a (by decide)))]; exact k_81
        have k_89 : z_72 = G_85.1 a 8 := by rw [eG_85, wI_ne (Or.inl (tag_ne hq_84 h_a (by decide)))]; exact k_82
        have k_90 : z_83 = G_85.1 a 12 := by rw [eG_85, wI_ne (Or.inl (tag_ne hq_84 h_a (by decide)))]; exact ez_83
        refine lv_aload_n hx hb dX10_pathLine_179 rfl (lv_at hl 4 rfl) ?_
        refine t_getr cf_11 hx hb hts hown hK hT h_a (k := 23) (P := fun q => τ q = 73) rfl (fun _ h9 => h9) fl_X10_52 (fun _ h9 => h9) dX10_pathLine_180 (fun q_91 eq_91 hq_91 => ?_)
        have w_92 : q_84 = q_91 := Option.some.inj (eq_84.symm.trans ((hF.r h_a (by decide) rfl _).symm.trans eq_91))
        subst w_92
        refine lv_iload_n hx hb dX10_pathLine_183 rfl (lv_at hl 3 rfl) ?_
        refine lv_iconst (v := 1) hx hb dX10_pathLine_184 (by decide) ?_
        refine lv_iadd hx hb dX10_pathLine_185 ?_
        refine lv_topi (fun z_93 ez_93 => ?_)
        have tz_93 : z_93.toInt = z_6.toInt + 1 := add_t ez_93 (show -2147483648 ≤ z_6.toInt + 1 by omega) (show z_6.toInt + 1 < 2147483648 by omega)
        refine lv_aload_n hx hb dX10_pathLine_186 rfl (lv_at hl 4 rfl) ?_
        refine lv_iconst (v := 0) hx hb dX10_pathLine_187 (by decide) ?_
        refine lv_aload_n hx hb dX10_pathLine_188 rfl (lv_at hl 4 rfl) ?_
        refine t_getr cf_11 hx hb hts hown hK hT h_a (k := 20) (P := fun q => τ q = 70) rfl (fun _ h9 => h9) fl_X10_43 (fun _ h9 => h9) dX10_pathLine_189 (fun q_94 eq_94 hq_94 => ?_)
        have w_95 : q_7 = q_94 := Option.some.inj (eq_7.symm.trans ((hF.r h_a (by decide) rfl _).symm.trans eq_94))
        subst w_95
        refine lv_iconst (v := 4) hx hb dX10_pathLine_192 (by decide) ?_
        refine t_iald (n := 5) (i := 4) rfl (by decide) hx hb hK hT hq_7 (hT.len hq_7 (by decide)) ⟨by decide, by decide⟩ dX10_pathLine_193 (fun z_96 ez_96 rz_96 => ?_)
        have w_97 : z_8 = z_96 := ez_8.trans (ez_96.trans (hF.i hq_7 (by decide) rfl _)).symm
        subst w_97
        refine lv_iconst (v := 1) hx hb dX10_pathLine_194 (by decide) ?_
        refine lv_isub hx hb dX10_pathLine_195 ?_
        refine lv_topi (fun z_98 ez_98 => ?_)
        have w_99 : z_9 = z_98 := ez_9.trans ez_98.symm
        subst w_99
        refine t_calli (runV (As := [.int 0, .int z_9]) (rest := [.int z_93, .ref q_84]) ⟨hx, hb, hml, hown, hts⟩ (t_X10_number l D cy base τ G_85 a h_a 0 z_9 tp k_87 ⟨by omega, by omega⟩ x18_at k_88 ⟨by omega, by omega⟩ (by show x18_at.toInt ≤ tp.toInt; first | assumption | omega | decide)) sV_X10_186 hK (t_recv cf_11 hK hT h_a) ⟨Nat.le_trans hZ hS.1, hT⟩ ⟨Nat.le_of_ble_eq_true rfl, Nat.le_of_ble_eq_true rfl⟩ rfl hl.1 rfl (Nat.le_of_ble_eq_true rfl) dX10_pathLine_196 ⟨Nat.le_of_ble_eq_true rfl, Nat.le_of_ble_eq_true rfl⟩) hS (fun r_100 G_100 H locs hF_100 hr_100 hT hS => ?_)
        have hF := hF.tr hF_100 rfl
        have k_101 : p4 = G_100.1 paa 4 := k_86.trans (hF_100.i h_paa (by decide) rfl _).symm
        obtain ⟨hr_100_p0, hr_100_p1, hr_100_p2, hr_100_s0⟩ := hr_100
        have k_106 : tp = G_100.1 a 6 := k_87.trans hr_100_s0.symm
        obtain ⟨z_107, ez_107, hr_100_p0, hr_100_p1, hr_100_p2⟩ : ∃ z_107 : Int32, z_107 = G_100.1 a 7 ∧ (x18_at.toInt ≤ z_107.toInt) ∧ (z_107.toInt ≤ tp.toInt) ∧ (r_100.toInt = (0 : Int) ∨ ((0 : Int) ≤ r_100.toInt ∧ r_100.toInt ≤ z_9.toInt)) := ⟨_, rfl, hr_100_p0, hr_100_p1, hr_100_p2⟩
        have rz_107 : 0 ≤ z_107.toInt ∧ z_107.toInt ≤ 1600 := by rw [ez_107]; exact hT.rgi h_a (by decide) 7
        refine t_iast (n := 120) (i := z_93) (x := r_100) rfl (by decide) hx hb hK hT hS hq_84 (hT.len hq_84 (by decide)) ⟨by omega, by omega⟩ trivial dX10_pathLine_199 (fun H locs G_108 eG_108 hT hS => ?_)
        have hF := hF.wI eG_108 hq_84 rfl
        have k_109 : p4 = G_108.1 paa 4 := by rw [eG_108, wI_ne (Or.inl (tag_ne hq_84 h_paa (by decide)))]; exact k_101
        have k_110 : tp = G_108.1 a 6 := by rw [eG_108, wI_ne (Or.inl (tag_ne hq_84 h_a (by decide)))]; exact k_106
        have k_111 : z_107 = G_108.1 a 7 := by rw [eG_108, wI_ne (Or.inl (tag_ne hq_84 h_a (by decide)))]; exact ez_107
        refine lv_aload_n hx hb dX10_pathLine_200 rfl (lv_at hl 4 rfl) ?_
        refine t_getr cf_11 hx hb hts hown hK hT h_a (k := 23) (P := fun q => τ q = 73) rfl (fun _ h9 => h9) fl_X10_52 (fun _ h9 => h9) dX10_pathLine_201 (fun q_112 eq_112 hq_112 => ?_)
        have w_113 : q_84 = q_112 := Option.some.inj (eq_84.symm.trans ((hF.r h_a (by decide) rfl _).symm.trans eq_112))
        subst w_113
        refine lv_iload_n hx hb dX10_pathLine_204 rfl (lv_at hl 3 rfl) ?_
        refine lv_iconst (v := 2) hx hb dX10_pathLine_205 (by decide) ?_
        refine lv_iadd hx hb dX10_pathLine_206 ?_
        refine lv_topi (fun z_114 ez_114 => ?_)
        have tz_114 : z_114.toInt = z_6.toInt + 2 := add_t ez_114 (show -2147483648 ≤ z_6.toInt + 2 by omega) (show z_6.toInt + 2 < 2147483648 by omega)
        refine lv_aload_n hx hb dX10_pathLine_207 rfl (lv_at hl 4 rfl) ?_
        refine lv_ldc2 (v := 80155) hx hb hown (hts _ kl_X10_195) dX10_pathLine_208 ?_
        refine lv_iconst (v := 1) hx hb dX10_pathLine_211 (by decide) ?_
        refine lv_bipush (v := 30) hx hb dX10_pathLine_212 (by decide) ?_
        refine t_calli (runV (As := [.long 80155, .int 1, .int 30]) (rest := [.int z_114, .ref q_84]) ⟨hx, hb, hml, hown, hts⟩ (t_X10_number_ l D cy base τ G_108 a h_a 80155 1 30 tp k_110 ⟨by omega, by omega⟩ z_107 k_111 ⟨by omega, by omega⟩ (by show z_107.toInt ≤ tp.toInt; first | assumption | omega | decide)) sV_X10_197 hK (t_recv cf_11 hK hT h_a) ⟨Nat.le_trans hZ hS.1, hT⟩ ⟨Nat.le_of_ble_eq_true rfl, Nat.le_of_ble_eq_true rfl⟩ rfl hl.1 rfl (Nat.le_of_ble_eq_true rfl) dX10_pathLine_214 ⟨Nat.le_of_ble_eq_true rfl, Nat.le_of_ble_eq_true rfl⟩) hS (fun r_115 G_115 H locs hF_115 hr_115 hT hS => ?_)
        have hF := hF.tr hF_115 rfl
        have k_116 : p4 = G_115.1 paa 4 := k_109.trans (hF_115.i h_paa (by decide) rfl _).symm
        obtain ⟨hr_115_p0, hr_115_p1, hr_115_p2, hr_115_s0⟩ := hr_115
        have k_119 : tp = G_115.1 a 6 := k_110.trans hr_115_s0.symm
        obtain ⟨z_120, ez_120, hr_115_p0, hr_115_p1, hr_115_p2⟩ : ∃ z_120 : Int32, z_120 = G_115.1 a 7 ∧ (z_107.toInt ≤ z_120.toInt) ∧ (z_120.toInt ≤ tp.toInt) ∧ (r_115.toInt = (1 : Int) ∨ ((1 : Int) ≤ r_115.toInt ∧ r_115.toInt ≤ (30 : Int))) := ⟨_, rfl, hr_115_p0, hr_115_p1, hr_115_p2⟩
        have rz_120 : 0 ≤ z_120.toInt ∧ z_120.toInt ≤ 1600 := by rw [ez_120]; exact hT.rgi h_a (by decide) 7
        refine t_iast (n := 120) (i := z_114) (x := r_115) rfl (by decide) hx hb hK hT hS hq_84 (hT.len hq_84 (by decide)) ⟨by omega, by omega⟩ trivial dX10_pathLine_217 (fun H locs G_121 eG_121 hT hS => ?_)
        have hF := hF.wI eG_121 hq_84 rfl
        have k_122 : p4 = G_121.1 paa 4 := by rw [eG_121, wI_ne (Or.inl (tag_ne hq_84 h_paa (by decide)))]; exact k_116
        have k_123 : tp = G_121.1 a 6 := by rw [eG_121, wI_ne (Or.inl (tag_ne hq_84 h_a (by decide)))]; exact k_119
        have k_124 : z_120 = G_121.1 a 7 := by rw [eG_121, wI_ne (Or.inl (tag_ne hq_84 h_a (by decide)))]; exact ez_120
        refine lv_aload_n hx hb dX10_pathLine_218 rfl (lv_at hl 4 rfl) ?_
        refine t_getr cf_11 hx hb hts hown hK hT h_a (k := 22) (P := fun q => τ q = 72) rfl (fun _ h9 => h9) fl_X10_49 (fun _ h9 => h9) dX10_pathLine_219 (fun q_125 eq_125 hq_125 => ?_)
        have w_126 : paa = q_125 := Option.some.inj (e_paa.symm.trans ((hF.r h_a (by decide) rfl _).symm.trans eq_125))
        subst w_126
        refine lv_iconst (v := 4) hx hb dX10_pathLine_222 (by decide) ?_
        refine lv_dup2_11 hx hb dX10_pathLine_223 rfl rfl ?_
        refine t_iald (n := 5) (i := 4) rfl (by decide) hx hb hK hT h_paa (hT.len h_paa (by decide)) ⟨by decide, by decide⟩ dX10_pathLine_224 (fun z_127 ez_127 rz_127 => ?_)
        have w_128 : p4 = z_127 := k_122.trans ez_127.symm
        subst w_128
        refine lv_iconst (v := 1) hx hb dX10_pathLine_225 (by decide) ?_
        refine lv_iadd hx hb dX10_pathLine_226 ?_
        refine lv_topi (fun z_129 ez_129 => ?_)
        have tz_129 : z_129.toInt = p4.toInt + 1 := add_t ez_129 (show -2147483648 ≤ p4.toInt + 1 by omega) (show p4.toInt + 1 < 2147483648 by omega)
        refine t_iast (n := 5) (i := 4) (x := z_129) rfl (by decide) hx hb hK hT hS h_paa (hT.len h_paa (by decide)) ⟨by decide, by decide⟩ (show 0 ≤ z_129.toInt ∧ z_129.toInt ≤ 8 from ⟨by omega, by omega⟩) dX10_pathLine_227 (fun H locs G_130 eG_130 hT hS => ?_)
        have hF := hF.wI eG_130 h_paa rfl
        have eG_130 : G_130 = wI G_121 paa 4 z_129 := eG_130
        have k_132 : tp = G_130.1 a 6 := by rw [eG_130, wI_ne (Or.inl (tag_ne h_paa h_a (by decide)))]; exact k_123
        have k_133 : z_120 = G_130.1 a 7 := by rw [eG_130, wI_ne (Or.inl (tag_ne h_paa h_a (by decide)))]; exact k_124
        have k_134 : z_129 = G_130.1 paa 4 := by rw [eG_130, wI_at]
        exact ret_v hx hb hr hlocks ⟨⟨hS.1, hS.2.1⟩, G_130, hF, ⟨rfl, ⟨(by first | (show a0.toInt ≤ (G_130.1 a 7).toInt; rw [← k_133]; done) | (show a0.toInt ≤ (G_130.1 a 7).toInt; rw [← k_133]; show a0.toInt ≤ z_120.toInt; first | omega | assumption)), (by first | (show (G_130.1 a 7).toInt ≤ tp.toInt; rw [← k_133]; done) | (show (G_130.1 a 7).toInt ≤ tp.toInt; rw [← k_133]; show z_120.toInt ≤ tp.toInt; first | omega | assumption)), (k_132.symm.trans e_tp)⟩⟩, hT⟩ hS.2.2 (Nat.le_of_ble_eq_true rfl) (Nat.le_of_ble_eq_true rfl) dX10_pathLine_228
    · skip
      have tc_23 : ¬ p4.toInt ≤ x18_4.toInt := fun h => c_23 ((fa_le _ _).mpr h)
      refine lv_aload_n hx hb dX10_pathLine_69 rfl (lv_at hl 4 rfl) ?_
      refine t_geti cf_11 hx hb hts hown hK hT h_a (k := 12) rfl fl_X10_163 (fun _ h9 => h9) dX10_pathLine_70 (fun z_135 ez_135 rz_135 => ?_)
      have ez_135 : z_135 = G_18.1 a 12 := ez_135
      refine lv_if_ne (tgt := 163) hx hb dX10_pathLine_73 (by decide) (fun c_136 => ?_) (fun c_136 => ?_)
      · skip
        have tc_136 : ¬ z_135.toInt = 0 := fun h => c_136 ((fa_eq _ _).mpr h)
        refine lv_iload_n hx hb dX10_pathLine_163 rfl (lv_at hl 0 rfl) ?_
        refine lv_if_eq (tgt := 172) hx hb dX10_pathLine_164 (by decide) (fun c_137 => ?_) (fun c_137 => ?_)
        · skip
          have tc_137 : x18_3.toInt = 0 := (fa_eq _ _).mp c_137
          refine lv_aload_n hx hb dX10_pathLine_172 rfl (lv_at hl 4 rfl) ?_
          refine t_getr cf_11 hx hb hts hown hK hT h_a (k := 23) (P := fun q => τ q = 73) rfl (fun _ h9 => h9) fl_X10_52 (fun _ h9 => h9) dX10_pathLine_173 (fun q_138 eq_138 hq_138 => ?_)
          have eq_138 := (hF.r h_a (by decide) rfl _).symm.trans eq_138
          refine lv_iload_n hx hb dX10_pathLine_176 rfl (lv_at hl 3 rfl) ?_
          refine lv_iload_n hx hb dX10_pathLine_177 rfl (lv_at hl 2 rfl) ?_
          refine t_iast (n := 120) (i := z_6) (x := r_10) rfl (by decide) hx hb hK hT hS hq_138 (hT.len hq_138 (by decide)) ⟨by omega, by omega⟩ trivial dX10_pathLine_178 (fun H locs G_139 eG_139 hT hS => ?_)
          have hF := hF.wI eG_139 hq_138 rfl
          have k_140 : tp = G_139.1 a 6 := by rw [eG_139, wI_ne (Or.inl (tag_ne hq_138 h_a (by decide)))]; exact i18_6
          have k_141 : p4 = G_139.1 paa 4 := by rw [eG_139, wI_ne (Or.inl (tag_ne hq_138 h_paa (by decide)))]; exact i18_7
          have k_142 : x18_at = G_139.1 a 7 := by rw [eG_139, wI_ne (Or.inl (tag_ne hq_138 h_a (by decide)))]; exact i18_8
          have k_143 : z_135 = G_139.1 a 12 := by rw [eG_139, wI_ne (Or.inl (tag_ne hq_138 h_a (by decide)))]; exact ez_135
          refine lv_aload_n hx hb dX10_pathLine_179 rfl (lv_at hl 4 rfl) ?_
          refine t_getr cf_11 hx hb hts hown hK hT h_a (k := 23) (P := fun q => τ q = 73) rfl (fun _ h9 => h9) fl_X10_52 (fun _ h9 => h9) dX10_pathLine_180 (fun q_144 eq_144 hq_144 => ?_)
          have w_145 : q_138 = q_144 := Option.some.inj (eq_138.symm.trans ((hF.r h_a (by decide) rfl _).symm.trans eq_144))
          subst w_145
          refine lv_iload_n hx hb dX10_pathLine_183 rfl (lv_at hl 3 rfl) ?_
          refine lv_iconst (v := 1) hx hb dX10_pathLine_184 (by decide) ?_
          refine lv_iadd hx hb dX10_pathLine_185 ?_
          refine lv_topi (fun z_146 ez_146 => ?_)
          have tz_146 : z_146.toInt = z_6.toInt + 1 := add_t ez_146 (show -2147483648 ≤ z_6.toInt + 1 by omega) (show z_6.toInt + 1 < 2147483648 by omega)
          refine lv_aload_n hx hb dX10_pathLine_186 rfl (lv_at hl 4 rfl) ?_
          refine lv_iconst (v := 0) hx hb dX10_pathLine_187 (by decide) ?_
          refine lv_aload_n hx hb dX10_pathLine_188 rfl (lv_at hl 4 rfl) ?_
          refine t_getr cf_11 hx hb hts hown hK hT h_a (k := 20) (P := fun q => τ q = 70) rfl (fun _ h9 => h9) fl_X10_43 (fun _ h9 => h9) dX10_pathLine_189 (fun q_147 eq_147 hq_147 => ?_)
          have w_148 : q_7 = q_147 := Option.some.inj (eq_7.symm.trans ((hF.r h_a (by decide) rfl _).symm.trans eq_147))
          subst w_148
          refine lv_iconst (v := 4) hx hb dX10_pathLine_192 (by decide) ?_
          refine t_iald (n := 5) (i := 4) rfl (by decide) hx hb hK hT hq_7 (hT.len hq_7 (by decide)) ⟨by decide, by decide⟩ dX10_pathLine_193 (fun z_149 ez_149 rz_149 => ?_)
          have w_150 : z_8 = z_149 := ez_8.trans (ez_149.trans (hF.i hq_7 (by decide) rfl _)).symm
          subst w_150
          refine lv_iconst (v := 1) hx hb dX10_pathLine_194 (by decide) ?_
          refine lv_isub hx hb dX10_pathLine_195 ?_
          refine lv_topi (fun z_151 ez_151 => ?_)
          have w_152 : z_9 = z_151 := ez_9.trans ez_151.symm
          subst w_152
          refine t_calli (runV (As := [.int 0, .int z_9]) (rest := [.int z_146, .ref q_138]) ⟨hx, hb, hml, hown, hts⟩ (t_X10_number l D cy base τ G_139 a h_a 0 z_9 tp k_140 ⟨by omega, by omega⟩ x18_at k_142 ⟨by omega, by omega⟩ (by show x18_at.toInt ≤ tp.toInt; first | assumption | omega | decide)) sV_X10_186 hK (t_recv cf_11 hK hT h_a) ⟨Nat.le_trans hZ hS.1, hT⟩ ⟨Nat.le_of_ble_eq_true rfl, Nat.le_of_ble_eq_true rfl⟩ rfl hl.1 rfl (Nat.le_of_ble_eq_true rfl) dX10_pathLine_196 ⟨Nat.le_of_ble_eq_true rfl, Nat.le_of_ble_eq_true rfl⟩) hS (fun r_153 G_153 H locs hF_153 hr_153 hT hS => ?_)
          have hF := hF.tr hF_153 rfl
          have k_155 : p4 = G_153.1 paa 4 := k_141.trans (hF_153.i h_paa (by decide) rfl _).symm
          obtain ⟨hr_153_p0, hr_153_p1, hr_153_p2, hr_153_s0⟩ := hr_153
          have k_158 : tp = G_153.1 a 6 := k_140.trans hr_153_s0.symm
          obtain ⟨z_159, ez_159, hr_153_p0, hr_153_p1, hr_153_p2⟩ : ∃ z_159 : Int32, z_159 = G_153.1 a 7 ∧ (x18_at.toInt ≤ z_159.toInt) ∧ (z_159.toInt ≤ tp.toInt) ∧ (r_153.toInt = (0 : Int) ∨ ((0 : Int) ≤ r_153.toInt ∧ r_153.toInt ≤ z_9.toInt)) := ⟨_, rfl, hr_153_p0, hr_153_p1, hr_153_p2⟩
          have rz_159 : 0 ≤ z_159.toInt ∧ z_159.toInt ≤ 1600 := by rw [ez_159]; exact hT.rgi h_a (by decide) 7
          refine t_iast (n := 120) (i := z_146) (x := r_153) rfl (by decide) hx hb hK hT hS hq_138 (hT.len hq_138 (by decide)) ⟨by omega, by omega⟩ trivial dX10_pathLine_199 (fun H locs G_160 eG_160 hT hS => ?_)
          have hF := hF.wI eG_160 hq_138 rfl
          have k_161 : p4 = G_160.1 paa 4 := by rw [eG_160, wI_ne (Or.inl (tag_ne hq_138 h_paa (by decide)))]; exact k_155
          have k_162 : tp = G_160.1 a 6 := by rw [eG_160, wI_ne (Or.inl (tag_ne hq_138 h_a (by decide)))]; exact k_158
          have k_163 : z_159 = G_160.1 a 7 := by rw [eG_160, wI_ne (Or.inl (tag_ne hq_138 h_a (by decide)))]; exact ez_159
          refine lv_aload_n hx hb dX10_pathLine_200 rfl (lv_at hl 4 rfl) ?_
          refine t_getr cf_11 hx hb hts hown hK hT h_a (k := 23) (P := fun q => τ q = 73) rfl (fun _ h9 => h9) fl_X10_52 (fun _ h9 => h9) dX10_pathLine_201 (fun q_164 eq_164 hq_164 => ?_)
          have w_165 : q_138 = q_164 := Option.some.inj (eq_138.symm.trans ((hF.r h_a (by decide) rfl _).symm.trans eq_164))
          subst w_165
          refine lv_iload_n hx hb dX10_pathLine_204 rfl (lv_at hl 3 rfl) ?_
          refine lv_iconst (v := 2) hx hb dX10_pathLine_205 (by decide) ?_
          refine lv_iadd hx hb dX10_pathLine_206 ?_
          refine lv_topi (fun z_166 ez_166 => ?_)
          have tz_166 : z_166.toInt = z_6.toInt + 2 := add_t ez_166 (show -2147483648 ≤ z_6.toInt + 2 by omega) (show z_6.toInt + 2 < 2147483648 by omega)
          refine lv_aload_n hx hb dX10_pathLine_207 rfl (lv_at hl 4 rfl) ?_
          refine lv_ldc2 (v := 80155) hx hb hown (hts _ kl_X10_195) dX10_pathLine_208 ?_
          refine lv_iconst (v := 1) hx hb dX10_pathLine_211 (by decide) ?_
          refine lv_bipush (v := 30) hx hb dX10_pathLine_212 (by decide) ?_
          refine t_calli (runV (As := [.long 80155, .int 1, .int 30]) (rest := [.int z_166, .ref q_138]) ⟨hx, hb, hml, hown, hts⟩ (t_X10_number_ l D cy base τ G_160 a h_a 80155 1 30 tp k_162 ⟨by omega, by omega⟩ z_159 k_163 ⟨by omega, by omega⟩ (by show z_159.toInt ≤ tp.toInt; first | assumption | omega | decide)) sV_X10_197 hK (t_recv cf_11 hK hT h_a) ⟨Nat.le_trans hZ hS.1, hT⟩ ⟨Nat.le_of_ble_eq_true rfl, Nat.le_of_ble_eq_true rfl⟩ rfl hl.1 rfl (Nat.le_of_ble_eq_true rfl) dX10_pathLine_214 ⟨Nat.le_of_ble_eq_true rfl, Nat.le_of_ble_eq_true rfl⟩) hS (fun r_167 G_167 H locs hF_167 hr_167 hT hS => ?_)
          have hF := hF.tr hF_167 rfl
          have k_168 : p4 = G_167.1 paa 4 := k_161.trans (hF_167.i h_paa (by decide) rfl _).symm
          obtain ⟨hr_167_p0, hr_167_p1, hr_167_p2, hr_167_s0⟩ := hr_167
          have k_171 : tp = G_167.1 a 6 := k_162.trans hr_167_s0.symm
          obtain ⟨z_172, ez_172, hr_167_p0, hr_167_p1, hr_167_p2⟩ : ∃ z_172 : Int32, z_172 = G_167.1 a 7 ∧ (z_159.toInt ≤ z_172.toInt) ∧ (z_172.toInt ≤ tp.toInt) ∧ (r_167.toInt = (1 : Int) ∨ ((1 : Int) ≤ r_167.toInt ∧ r_167.toInt ≤ (30 : Int))) := ⟨_, rfl, hr_167_p0, hr_167_p1, hr_167_p2⟩
          have rz_172 : 0 ≤ z_172.toInt ∧ z_172.toInt ≤ 1600 := by rw [ez_172]; exact hT.rgi h_a (by decide) 7
          refine t_iast (n := 120) (i := z_166) (x := r_167) rfl (by decide) hx hb hK hT hS hq_138 (hT.len hq_138 (by decide)) ⟨by omega, by omega⟩ trivial dX10_pathLine_217 (fun H locs G_173 eG_173 hT hS => ?_)
          have hF := hF.wI eG_173 hq_138 rfl
          have k_174 : p4 = G_173.1 paa 4 := by rw [eG_173, wI_ne (Or.inl (tag_ne hq_138 h_paa (by decide)))]; exact k_168
          have k_175 : tp = G_173.1 a 6 := by rw [eG_173, wI_ne (Or.inl (tag_ne hq_138 h_a (by decide)))]; exact k_171
          have k_176 : z_172 = G_173.1 a 7 := by rw [eG_173, wI_ne (Or.inl (tag_ne hq_138 h_a (by decide)))]; exact ez_172
          refine lv_aload_n hx hb dX10_pathLine_218 rfl (lv_at hl 4 rfl) ?_
          refine t_getr cf_11 hx hb hts hown hK hT h_a (k := 22) (P := fun q => τ q = 72) rfl (fun _ h9 => h9) fl_X10_49 (fun _ h9 => h9) dX10_pathLine_219 (fun q_177 eq_177 hq_177 => ?_)
          have w_178 : paa = q_177 := Option.some.inj (e_paa.symm.trans ((hF.r h_a (by decide) rfl _).symm.trans eq_177))
          subst w_178
          refine lv_iconst (v := 4) hx hb dX10_pathLine_222 (by decide) ?_
          refine lv_dup2_11 hx hb dX10_pathLine_223 rfl rfl ?_
          refine t_iald (n := 5) (i := 4) rfl (by decide) hx hb hK hT h_paa (hT.len h_paa (by decide)) ⟨by decide, by decide⟩ dX10_pathLine_224 (fun z_179 ez_179 rz_179 => ?_)
          have w_180 : p4 = z_179 := k_174.trans ez_179.symm
          subst w_180
          refine lv_iconst (v := 1) hx hb dX10_pathLine_225 (by decide) ?_
          refine lv_iadd hx hb dX10_pathLine_226 ?_
          refine lv_topi (fun z_181 ez_181 => ?_)
          have tz_181 : z_181.toInt = p4.toInt + 1 := add_t ez_181 (show -2147483648 ≤ p4.toInt + 1 by omega) (show p4.toInt + 1 < 2147483648 by omega)
          refine t_iast (n := 5) (i := 4) (x := z_181) rfl (by decide) hx hb hK hT hS h_paa (hT.len h_paa (by decide)) ⟨by decide, by decide⟩ (show 0 ≤ z_181.toInt ∧ z_181.toInt ≤ 8 from ⟨by omega, by omega⟩) dX10_pathLine_227 (fun H locs G_182 eG_182 hT hS => ?_)
          have hF := hF.wI eG_182 h_paa rfl
          have eG_182 : G_182 = wI G_173 paa 4 z_181 := eG_182
          have k_184 : tp = G_182.1 a 6 := by rw [eG_182, wI_ne (Or.inl (tag_ne h_paa h_a (by decide)))]; exact k_175
          have k_185 : z_172 = G_182.1 a 7 := by rw [eG_182, wI_ne (Or.inl (tag_ne h_paa h_a (by decide)))]; exact k_176
          have k_186 : z_181 = G_182.1 paa 4 := by rw [eG_182, wI_at]
          exact ret_v hx hb hr hlocks ⟨⟨hS.1, hS.2.1⟩, G_182, hF, ⟨rfl, ⟨(by first | (show a0.toInt ≤ (G_182.1 a 7).toInt; rw [← k_185]; done) | (show a0.toInt ≤ (G_182.1 a 7).toInt; rw [← k_185]; show a0.toInt ≤ z_172.toInt; first | omega | assumption)), (by first | (show (G_182.1 a 7).toInt ≤ tp.toInt; rw [← k_185]; done) | (show (G_182.1 a 7).toInt ≤ tp.toInt; rw [← k_185]; show z_172.toInt ≤ tp.toInt; first | omega | assumption)), (k_184.symm.trans e_tp)⟩⟩, hT⟩ hS.2.2 (Nat.le_of_ble_eq_true rfl) (Nat.le_of_ble_eq_true rfl) dX10_pathLine_228
        · skip
          have tc_137 : ¬ x18_3.toInt = 0 := fun h => c_137 ((fa_eq _ _).mpr h)
          refine lv_aload_n hx hb dX10_pathLine_167 rfl (lv_at hl 4 rfl) ?_
          refine lv_iconst (v := 2) hx hb dX10_pathLine_168 (by decide) ?_
          obtain ⟨z_187, ez_187⟩ : ∃ y : Int32, y = G_18.1 a 8 := ⟨_, rfl⟩
          refine t_callv (runV (As := [.int 2]) (rest := []) ⟨hx, hb, hml, hown, hts⟩ (t_X10_fails l D cy base τ G_18 a h_a 2 (by decide) tp i18_6 ⟨by omega, by omega⟩ x18_at i18_8 ⟨by omega, by omega⟩ z_187 ez_187 z_135 ez_135) sV_X10_179 hK (t_recv cf_11 hK hT h_a) ⟨Nat.le_trans hZ hS.1, hT⟩ ⟨Nat.le_of_ble_eq_true rfl, Nat.le_of_ble_eq_true rfl⟩ rfl hl.1 rfl (Nat.le_of_ble_eq_true rfl) dX10_pathLine_169 ⟨Nat.le_of_ble_eq_true rfl, Nat.le_of_ble_eq_true rfl⟩) hS (fun G_188 H locs hF_188 hr_188 hT hS => ?_)
          have hF := hF.tr hF_188 rfl
          have k_190 : p4 = G_188.1 paa 4 := i18_7.trans (hF_188.i h_paa (by decide) rfl _).symm
          obtain ⟨hr_188_p0, hr_188_s0, hr_188_s1, hr_188_s2⟩ := hr_188
          have k_194 : tp = G_188.1 a 6 := i18_6.trans hr_188_s0.symm
          have k_195 : x18_at = G_188.1 a 7 := i18_8.trans hr_188_s1.symm
          have k_196 : z_187 = G_188.1 a 8 := ez_187.trans hr_188_s2.symm
          obtain ⟨z_197, ez_197, hr_188_p0⟩ : ∃ z_197 : Int32, z_197 = G_188.1 a 12 ∧ (z_197.toInt ≠ 0) := ⟨_, rfl, hr_188_p0⟩
          refine lv_aload_n hx hb dX10_pathLine_172 rfl (lv_at hl 4 rfl) ?_
          refine t_getr cf_11 hx hb hts hown hK hT h_a (k := 23) (P := fun q => τ q = 73) rfl (fun _ h9 => h9) fl_X10_52 (fun _ h9 => h9) dX10_pathLine_173 (fun q_198 eq_198 hq_198 => ?_)
          have eq_198 := (hF.r h_a (by decide) rfl _).symm.trans eq_198
          refine lv_iload_n hx hb dX10_pathLine_176 rfl (lv_at hl 3 rfl) ?_
          refine lv_iload_n hx hb dX10_pathLine_177 rfl (lv_at hl 2 rfl) ?_
          refine t_iast (n := 120) (i := z_6) (x := r_10) rfl (by decide) hx hb hK hT hS hq_198 (hT.len hq_198 (by decide)) ⟨by omega, by omega⟩ trivial dX10_pathLine_178 (fun H locs G_199 eG_199 hT hS => ?_)
          have hF := hF.wI eG_199 hq_198 rfl
          have k_200 : p4 = G_199.1 paa 4 := by rw [eG_199, wI_ne (Or.inl (tag_ne hq_198 h_paa (by decide)))]; exact k_190
          have k_201 : tp = G_199.1 a 6 := by rw [eG_199, wI_ne (Or.inl (tag_ne hq_198 h_a (by decide)))]; exact k_194
          have k_202 : x18_at = G_199.1 a 7 := by rw [eG_199, wI_ne (Or.inl (tag_ne hq_198 h_a (by decide)))]; exact k_195
          have k_203 : z_187 = G_199.1 a 8 := by rw [eG_199, wI_ne (Or.inl (tag_ne hq_198 h_a (by decide)))]; exact k_196
          have k_204 : z_197 = G_199.1 a 12 := by rw [eG_199, wI_ne (Or.inl (tag_ne hq_198 h_a (by decide)))]; exact ez_197
          refine lv_aload_n hx hb dX10_pathLine_179 rfl (lv_at hl 4 rfl) ?_
          refine t_getr cf_11 hx hb hts hown hK hT h_a (k := 23) (P := fun q => τ q = 73) rfl (fun _ h9 => h9) fl_X10_52 (fun _ h9 => h9) dX10_pathLine_180 (fun q_205 eq_205 hq_205 => ?_)
          have w_206 : q_198 = q_205 := Option.some.inj (eq_198.symm.trans ((hF.r h_a (by decide) rfl _).symm.trans eq_205))
          subst w_206
          refine lv_iload_n hx hb dX10_pathLine_183 rfl (lv_at hl 3 rfl) ?_
          refine lv_iconst (v := 1) hx hb dX10_pathLine_184 (by decide) ?_
          refine lv_iadd hx hb dX10_pathLine_185 ?_
          refine lv_topi (fun z_207 ez_207 => ?_)
          have tz_207 : z_207.toInt = z_6.toInt + 1 := add_t ez_207 (show -2147483648 ≤ z_6.toInt + 1 by omega) (show z_6.toInt + 1 < 2147483648 by omega)
          refine lv_aload_n hx hb dX10_pathLine_186 rfl (lv_at hl 4 rfl) ?_
          refine lv_iconst (v := 0) hx hb dX10_pathLine_187 (by decide) ?_
          refine lv_aload_n hx hb dX10_pathLine_188 rfl (lv_at hl 4 rfl) ?_
          refine t_getr cf_11 hx hb hts hown hK hT h_a (k := 20) (P := fun q => τ q = 70) rfl (fun _ h9 => h9) fl_X10_43 (fun _ h9 => h9) dX10_pathLine_189 (fun q_208 eq_208 hq_208 => ?_)
          have w_209 : q_7 = q_208 := Option.some.inj (eq_7.symm.trans ((hF.r h_a (by decide) rfl _).symm.trans eq_208))
          subst w_209
          refine lv_iconst (v := 4) hx hb dX10_pathLine_192 (by decide) ?_
          refine t_iald (n := 5) (i := 4) rfl (by decide) hx hb hK hT hq_7 (hT.len hq_7 (by decide)) ⟨by decide, by decide⟩ dX10_pathLine_193 (fun z_210 ez_210 rz_210 => ?_)
          have w_211 : z_8 = z_210 := ez_8.trans (ez_210.trans (hF.i hq_7 (by decide) rfl _)).symm
          subst w_211
          refine lv_iconst (v := 1) hx hb dX10_pathLine_194 (by decide) ?_
          refine lv_isub hx hb dX10_pathLine_195 ?_
          refine lv_topi (fun z_212 ez_212 => ?_)
          have w_213 : z_9 = z_212 := ez_9.trans ez_212.symm
          subst w_213
          refine t_calli (runV (As := [.int 0, .int z_9]) (rest := [.int z_207, .ref q_198]) ⟨hx, hb, hml, hown, hts⟩ (t_X10_number l D cy base τ G_199 a h_a 0 z_9 tp k_201 ⟨by omega, by omega⟩ x18_at k_202 ⟨by omega, by omega⟩ (by show x18_at.toInt ≤ tp.toInt; first | assumption | omega | decide)) sV_X10_186 hK (t_recv cf_11 hK hT h_a) ⟨Nat.le_trans hZ hS.1, hT⟩ ⟨Nat.le_of_ble_eq_true rfl, Nat.le_of_ble_eq_true rfl⟩ rfl hl.1 rfl (Nat.le_of_ble_eq_true rfl) dX10_pathLine_196 ⟨Nat.le_of_ble_eq_true rfl, Nat.le_of_ble_eq_true rfl⟩) hS (fun r_214 G_214 H locs hF_214 hr_214 hT hS => ?_)
          have hF := hF.tr hF_214 rfl
          have k_215 : p4 = G_214.1 paa 4 := k_200.trans (hF_214.i h_paa (by decide) rfl _).symm
          obtain ⟨hr_214_p0, hr_214_p1, hr_214_p2, hr_214_s0⟩ := hr_214
          have k_220 : tp = G_214.1 a 6 := k_201.trans hr_214_s0.symm
          obtain ⟨z_221, ez_221, hr_214_p0, hr_214_p1, hr_214_p2⟩ : ∃ z_221 : Int32, z_221 = G_214.1 a 7 ∧ (x18_at.toInt ≤ z_221.toInt) ∧ (z_221.toInt ≤ tp.toInt) ∧ (r_214.toInt = (0 : Int) ∨ ((0 : Int) ≤ r_214.toInt ∧ r_214.toInt ≤ z_9.toInt)) := ⟨_, rfl, hr_214_p0, hr_214_p1, hr_214_p2⟩
          have rz_221 : 0 ≤ z_221.toInt ∧ z_221.toInt ≤ 1600 := by rw [ez_221]; exact hT.rgi h_a (by decide) 7
          refine t_iast (n := 120) (i := z_207) (x := r_214) rfl (by decide) hx hb hK hT hS hq_198 (hT.len hq_198 (by decide)) ⟨by omega, by omega⟩ trivial dX10_pathLine_199 (fun H locs G_222 eG_222 hT hS => ?_)
          have hF := hF.wI eG_222 hq_198 rfl
          have k_223 : p4 = G_222.1 paa 4 := by rw [eG_222, wI_ne (Or.inl (tag_ne hq_198 h_paa (by decide)))]; exact k_215
          have k_224 : tp = G_222.1 a 6 := by rw [eG_222, wI_ne (Or.inl (tag_ne hq_198 h_a (by decide)))]; exact k_220
          have k_225 : z_221 = G_222.1 a 7 := by rw [eG_222, wI_ne (Or.inl (tag_ne hq_198 h_a (by decide)))]; exact ez_221
          refine lv_aload_n hx hb dX10_pathLine_200 rfl (lv_at hl 4 rfl) ?_
          refine t_getr cf_11 hx hb hts hown hK hT h_a (k := 23) (P := fun q => τ q = 73) rfl (fun _ h9 => h9) fl_X10_52 (fun _ h9 => h9) dX10_pathLine_201 (fun q_226 eq_226 hq_226 => ?_)
          have w_227 : q_198 = q_226 := Option.some.inj (eq_198.symm.trans ((hF.r h_a (by decide) rfl _).symm.trans eq_226))
          subst w_227
          refine lv_iload_n hx hb dX10_pathLine_204 rfl (lv_at hl 3 rfl) ?_
          refine lv_iconst (v := 2) hx hb dX10_pathLine_205 (by decide) ?_
          refine lv_iadd hx hb dX10_pathLine_206 ?_
          refine lv_topi (fun z_228 ez_228 => ?_)
          have tz_228 : z_228.toInt = z_6.toInt + 2 := add_t ez_228 (show -2147483648 ≤ z_6.toInt + 2 by omega) (show z_6.toInt + 2 < 2147483648 by omega)
          refine lv_aload_n hx hb dX10_pathLine_207 rfl (lv_at hl 4 rfl) ?_
          refine lv_ldc2 (v := 80155) hx hb hown (hts _ kl_X10_195) dX10_pathLine_208 ?_
          refine lv_iconst (v := 1) hx hb dX10_pathLine_211 (by decide) ?_
          refine lv_bipush (v := 30) hx hb dX10_pathLine_212 (by decide) ?_
          refine t_calli (runV (As := [.long 80155, .int 1, .int 30]) (rest := [.int z_228, .ref q_198]) ⟨hx, hb, hml, hown, hts⟩ (t_X10_number_ l D cy base τ G_222 a h_a 80155 1 30 tp k_224 ⟨by omega, by omega⟩ z_221 k_225 ⟨by omega, by omega⟩ (by show z_221.toInt ≤ tp.toInt; first | assumption | omega | decide)) sV_X10_197 hK (t_recv cf_11 hK hT h_a) ⟨Nat.le_trans hZ hS.1, hT⟩ ⟨Nat.le_of_ble_eq_true rfl, Nat.le_of_ble_eq_true rfl⟩ rfl hl.1 rfl (Nat.le_of_ble_eq_true rfl) dX10_pathLine_214 ⟨Nat.le_of_ble_eq_true rfl, Nat.le_of_ble_eq_true rfl⟩) hS (fun r_229 G_229 H locs hF_229 hr_229 hT hS => ?_)
          have hF := hF.tr hF_229 rfl
          have k_230 : p4 = G_229.1 paa 4 := k_223.trans (hF_229.i h_paa (by decide) rfl _).symm
          obtain ⟨hr_229_p0, hr_229_p1, hr_229_p2, hr_229_s0⟩ := hr_229
          have k_233 : tp = G_229.1 a 6 := k_224.trans hr_229_s0.symm
          obtain ⟨z_234, ez_234, hr_229_p0, hr_229_p1, hr_229_p2⟩ : ∃ z_234 : Int32, z_234 = G_229.1 a 7 ∧ (z_221.toInt ≤ z_234.toInt) ∧ (z_234.toInt ≤ tp.toInt) ∧ (r_229.toInt = (1 : Int) ∨ ((1 : Int) ≤ r_229.toInt ∧ r_229.toInt ≤ (30 : Int))) := ⟨_, rfl, hr_229_p0, hr_229_p1, hr_229_p2⟩
          have rz_234 : 0 ≤ z_234.toInt ∧ z_234.toInt ≤ 1600 := by rw [ez_234]; exact hT.rgi h_a (by decide) 7
          refine t_iast (n := 120) (i := z_228) (x := r_229) rfl (by decide) hx hb hK hT hS hq_198 (hT.len hq_198 (by decide)) ⟨by omega, by omega⟩ trivial dX10_pathLine_217 (fun H locs G_235 eG_235 hT hS => ?_)
          have hF := hF.wI eG_235 hq_198 rfl
          have k_236 : p4 = G_235.1 paa 4 := by rw [eG_235, wI_ne (Or.inl (tag_ne hq_198 h_paa (by decide)))]; exact k_230
          have k_237 : tp = G_235.1 a 6 := by rw [eG_235, wI_ne (Or.inl (tag_ne hq_198 h_a (by decide)))]; exact k_233
          have k_238 : z_234 = G_235.1 a 7 := by rw [eG_235, wI_ne (Or.inl (tag_ne hq_198 h_a (by decide)))]; exact ez_234
          refine lv_aload_n hx hb dX10_pathLine_218 rfl (lv_at hl 4 rfl) ?_
          refine t_getr cf_11 hx hb hts hown hK hT h_a (k := 22) (P := fun q => τ q = 72) rfl (fun _ h9 => h9) fl_X10_49 (fun _ h9 => h9) dX10_pathLine_219 (fun q_239 eq_239 hq_239 => ?_)
          have w_240 : paa = q_239 := Option.some.inj (e_paa.symm.trans ((hF.r h_a (by decide) rfl _).symm.trans eq_239))
          subst w_240
          refine lv_iconst (v := 4) hx hb dX10_pathLine_222 (by decide) ?_
          refine lv_dup2_11 hx hb dX10_pathLine_223 rfl rfl ?_
          refine t_iald (n := 5) (i := 4) rfl (by decide) hx hb hK hT h_paa (hT.len h_paa (by decide)) ⟨by decide, by decide⟩ dX10_pathLine_224 (fun z_241 ez_241 rz_241 => ?_)
          have w_242 : p4 = z_241 := k_236.trans ez_241.symm
          subst w_242
          refine lv_iconst (v := 1) hx hb dX10_pathLine_225 (by decide) ?_
          refine lv_iadd hx hb dX10_pathLine_226 ?_
          refine lv_topi (fun z_243 ez_243 => ?_)
          have tz_243 : z_243.toInt = p4.toInt + 1 := add_t ez_243 (show -2147483648 ≤ p4.toInt + 1 by omega) (show p4.toInt + 1 < 2147483648 by omega)
          refine t_iast (n := 5) (i := 4) (x := z_243) rfl (by decide) hx hb hK hT hS h_paa (hT.len h_paa (by decide)) ⟨by decide, by decide⟩ (show 0 ≤ z_243.toInt ∧ z_243.toInt ≤ 8 from ⟨by omega, by omega⟩) dX10_pathLine_227 (fun H locs G_244 eG_244 hT hS => ?_)
          have hF := hF.wI eG_244 h_paa rfl
          have eG_244 : G_244 = wI G_235 paa 4 z_243 := eG_244
          have k_246 : tp = G_244.1 a 6 := by rw [eG_244, wI_ne (Or.inl (tag_ne h_paa h_a (by decide)))]; exact k_237
          have k_247 : z_234 = G_244.1 a 7 := by rw [eG_244, wI_ne (Or.inl (tag_ne h_paa h_a (by decide)))]; exact k_238
          have k_248 : z_243 = G_244.1 paa 4 := by rw [eG_244, wI_at]
          exact ret_v hx hb hr hlocks ⟨⟨hS.1, hS.2.1⟩, G_244, hF, ⟨rfl, ⟨(by first | (show a0.toInt ≤ (G_244.1 a 7).toInt; rw [← k_247]; done) | (show a0.toInt ≤ (G_244.1 a 7).toInt; rw [← k_247]; show a0.toInt ≤ z_234.toInt; first | omega | assumption)), (by first | (show (G_244.1 a 7).toInt ≤ tp.toInt; rw [← k_247]; done) | (show (G_244.1 a 7).toInt ≤ tp.toInt; rw [← k_247]; show z_234.toInt ≤ tp.toInt; first | omega | assumption)), (k_246.symm.trans e_tp)⟩⟩, hT⟩ hS.2.2 (Nat.le_of_ble_eq_true rfl) (Nat.le_of_ble_eq_true rfl) dX10_pathLine_228
      · skip
        have tc_136 : z_135.toInt = 0 := (fa_eq _ _).mp c_136
        refine lv_aload_n hx hb dX10_pathLine_76 rfl (lv_at hl 4 rfl) ?_
        refine t_geti cf_11 hx hb hts hown hK hT h_a (k := 8) rfl fl_X10_152 (fun _ h9 => h9) dX10_pathLine_77 (fun z_249 ez_249 rz_249 => ?_)
        have ez_249 : z_249 = G_18.1 a 8 := ez_249
        refine lv_iconst (v := 2) hx hb dX10_pathLine_80 (by decide) ?_
        refine lv_icmp_ne (tgt := 163) hx hb dX10_pathLine_81 (by decide) (fun c_250 => ?_) (fun c_250 => ?_)
        · skip
          have tc_250 : ¬ z_249.toInt = 2 := fun h => c_250 ((fa_eq _ _).mpr h)
          refine lv_iload_n hx hb dX10_pathLine_163 rfl (lv_at hl 0 rfl) ?_
          refine lv_if_eq (tgt := 172) hx hb dX10_pathLine_164 (by decide) (fun c_251 => ?_) (fun c_251 => ?_)
          · skip
            have tc_251 : x18_3.toInt = 0 := (fa_eq _ _).mp c_251
            refine lv_aload_n hx hb dX10_pathLine_172 rfl (lv_at hl 4 rfl) ?_
            refine t_getr cf_11 hx hb hts hown hK hT h_a (k := 23) (P := fun q => τ q = 73) rfl (fun _ h9 => h9) fl_X10_52 (fun _ h9 => h9) dX10_pathLine_173 (fun q_252 eq_252 hq_252 => ?_)
            have eq_252 := (hF.r h_a (by decide) rfl _).symm.trans eq_252
            refine lv_iload_n hx hb dX10_pathLine_176 rfl (lv_at hl 3 rfl) ?_
            refine lv_iload_n hx hb dX10_pathLine_177 rfl (lv_at hl 2 rfl) ?_
            refine t_iast (n := 120) (i := z_6) (x := r_10) rfl (by decide) hx hb hK hT hS hq_252 (hT.len hq_252 (by decide)) ⟨by omega, by omega⟩ trivial dX10_pathLine_178 (fun H locs G_253 eG_253 hT hS => ?_)
            have hF := hF.wI eG_253 hq_252 rfl
            have k_254 : tp = G_253.1 a 6 := by rw [eG_253, wI_ne (Or.inl (tag_ne hq_252 h_a (by decide)))]; exact i18_6
            have k_255 : p4 = G_253.1 paa 4 := by rw [eG_253, wI_ne (Or.inl (tag_ne hq_252 h_paa (by decide)))]; exact i18_7
            have k_256 : x18_at = G_253.1 a 7 := by rw [eG_253, wI_ne (Or.inl (tag_ne hq_252 h_a (by decide)))]; exact i18_8
            have k_257 : z_135 = G_253.1 a 12 := by rw [eG_253, wI_ne (Or.inl (tag_ne hq_252 h_a (by decide)))]; exact ez_135
            have k_258 : z_249 = G_253.1 a 8 := by rw [eG_253, wI_ne (Or.inl (tag_ne hq_252 h_a (by decide)))]; exact ez_249
            refine lv_aload_n hx hb dX10_pathLine_179 rfl (lv_at hl 4 rfl) ?_
            refine t_getr cf_11 hx hb hts hown hK hT h_a (k := 23) (P := fun q => τ q = 73) rfl (fun _ h9 => h9) fl_X10_52 (fun _ h9 => h9) dX10_pathLine_180 (fun q_259 eq_259 hq_259 => ?_)
            have w_260 : q_252 = q_259 := Option.some.inj (eq_252.symm.trans ((hF.r h_a (by decide) rfl _).symm.trans eq_259))
            subst w_260
            refine lv_iload_n hx hb dX10_pathLine_183 rfl (lv_at hl 3 rfl) ?_
            refine lv_iconst (v := 1) hx hb dX10_pathLine_184 (by decide) ?_
            refine lv_iadd hx hb dX10_pathLine_185 ?_
            refine lv_topi (fun z_261 ez_261 => ?_)
            have tz_261 : z_261.toInt = z_6.toInt + 1 := add_t ez_261 (show -2147483648 ≤ z_6.toInt + 1 by omega) (show z_6.toInt + 1 < 2147483648 by omega)
            refine lv_aload_n hx hb dX10_pathLine_186 rfl (lv_at hl 4 rfl) ?_
            refine lv_iconst (v := 0) hx hb dX10_pathLine_187 (by decide) ?_
            refine lv_aload_n hx hb dX10_pathLine_188 rfl (lv_at hl 4 rfl) ?_
            refine t_getr cf_11 hx hb hts hown hK hT h_a (k := 20) (P := fun q => τ q = 70) rfl (fun _ h9 => h9) fl_X10_43 (fun _ h9 => h9) dX10_pathLine_189 (fun q_262 eq_262 hq_262 => ?_)
            have w_263 : q_7 = q_262 := Option.some.inj (eq_7.symm.trans ((hF.r h_a (by decide) rfl _).symm.trans eq_262))
            subst w_263
            refine lv_iconst (v := 4) hx hb dX10_pathLine_192 (by decide) ?_
            refine t_iald (n := 5) (i := 4) rfl (by decide) hx hb hK hT hq_7 (hT.len hq_7 (by decide)) ⟨by decide, by decide⟩ dX10_pathLine_193 (fun z_264 ez_264 rz_264 => ?_)
            have w_265 : z_8 = z_264 := ez_8.trans (ez_264.trans (hF.i hq_7 (by decide) rfl _)).symm
            subst w_265
            refine lv_iconst (v := 1) hx hb dX10_pathLine_194 (by decide) ?_
            refine lv_isub hx hb dX10_pathLine_195 ?_
            refine lv_topi (fun z_266 ez_266 => ?_)
            have w_267 : z_9 = z_266 := ez_9.trans ez_266.symm
            subst w_267
            refine t_calli (runV (As := [.int 0, .int z_9]) (rest := [.int z_261, .ref q_252]) ⟨hx, hb, hml, hown, hts⟩ (t_X10_number l D cy base τ G_253 a h_a 0 z_9 tp k_254 ⟨by omega, by omega⟩ x18_at k_256 ⟨by omega, by omega⟩ (by show x18_at.toInt ≤ tp.toInt; first | assumption | omega | decide)) sV_X10_186 hK (t_recv cf_11 hK hT h_a) ⟨Nat.le_trans hZ hS.1, hT⟩ ⟨Nat.le_of_ble_eq_true rfl, Nat.le_of_ble_eq_true rfl⟩ rfl hl.1 rfl (Nat.le_of_ble_eq_true rfl) dX10_pathLine_196 ⟨Nat.le_of_ble_eq_true rfl, Nat.le_of_ble_eq_true rfl⟩) hS (fun r_268 G_268 H locs hF_268 hr_268 hT hS => ?_)
            have hF := hF.tr hF_268 rfl
            have k_270 : p4 = G_268.1 paa 4 := k_255.trans (hF_268.i h_paa (by decide) rfl _).symm
            obtain ⟨hr_268_p0, hr_268_p1, hr_268_p2, hr_268_s0⟩ := hr_268
            have k_274 : tp = G_268.1 a 6 := k_254.trans hr_268_s0.symm
            obtain ⟨z_275, ez_275, hr_268_p0, hr_268_p1, hr_268_p2⟩ : ∃ z_275 : Int32, z_275 = G_268.1 a 7 ∧ (x18_at.toInt ≤ z_275.toInt) ∧ (z_275.toInt ≤ tp.toInt) ∧ (r_268.toInt = (0 : Int) ∨ ((0 : Int) ≤ r_268.toInt ∧ r_268.toInt ≤ z_9.toInt)) := ⟨_, rfl, hr_268_p0, hr_268_p1, hr_268_p2⟩
            have rz_275 : 0 ≤ z_275.toInt ∧ z_275.toInt ≤ 1600 := by rw [ez_275]; exact hT.rgi h_a (by decide) 7
            refine t_iast (n := 120) (i := z_261) (x := r_268) rfl (by decide) hx hb hK hT hS hq_252 (hT.len hq_252 (by decide)) ⟨by omega, by omega⟩ trivial dX10_pathLine_199 (fun H locs G_276 eG_276 hT hS => ?_)
            have hF := hF.wI eG_276 hq_252 rfl
            have k_277 : p4 = G_276.1 paa 4 := by rw [eG_276, wI_ne (Or.inl (tag_ne hq_252 h_paa (by decide)))]; exact k_270
            have k_278 : tp = G_276.1 a 6 := by rw [eG_276, wI_ne (Or.inl (tag_ne hq_252 h_a (by decide)))]; exact k_274
            have k_279 : z_275 = G_276.1 a 7 := by rw [eG_276, wI_ne (Or.inl (tag_ne hq_252 h_a (by decide)))]; exact ez_275
            refine lv_aload_n hx hb dX10_pathLine_200 rfl (lv_at hl 4 rfl) ?_
            refine t_getr cf_11 hx hb hts hown hK hT h_a (k := 23) (P := fun q => τ q = 73) rfl (fun _ h9 => h9) fl_X10_52 (fun _ h9 => h9) dX10_pathLine_201 (fun q_280 eq_280 hq_280 => ?_)
            have w_281 : q_252 = q_280 := Option.some.inj (eq_252.symm.trans ((hF.r h_a (by decide) rfl _).symm.trans eq_280))
            subst w_281
            refine lv_iload_n hx hb dX10_pathLine_204 rfl (lv_at hl 3 rfl) ?_
            refine lv_iconst (v := 2) hx hb dX10_pathLine_205 (by decide) ?_
            refine lv_iadd hx hb dX10_pathLine_206 ?_
            refine lv_topi (fun z_282 ez_282 => ?_)
            have tz_282 : z_282.toInt = z_6.toInt + 2 := add_t ez_282 (show -2147483648 ≤ z_6.toInt + 2 by omega) (show z_6.toInt + 2 < 2147483648 by omega)
            refine lv_aload_n hx hb dX10_pathLine_207 rfl (lv_at hl 4 rfl) ?_
            refine lv_ldc2 (v := 80155) hx hb hown (hts _ kl_X10_195) dX10_pathLine_208 ?_
            refine lv_iconst (v := 1) hx hb dX10_pathLine_211 (by decide) ?_
            refine lv_bipush (v := 30) hx hb dX10_pathLine_212 (by decide) ?_
            refine t_calli (runV (As := [.long 80155, .int 1, .int 30]) (rest := [.int z_282, .ref q_252]) ⟨hx, hb, hml, hown, hts⟩ (t_X10_number_ l D cy base τ G_276 a h_a 80155 1 30 tp k_278 ⟨by omega, by omega⟩ z_275 k_279 ⟨by omega, by omega⟩ (by show z_275.toInt ≤ tp.toInt; first | assumption | omega | decide)) sV_X10_197 hK (t_recv cf_11 hK hT h_a) ⟨Nat.le_trans hZ hS.1, hT⟩ ⟨Nat.le_of_ble_eq_true rfl, Nat.le_of_ble_eq_true rfl⟩ rfl hl.1 rfl (Nat.le_of_ble_eq_true rfl) dX10_pathLine_214 ⟨Nat.le_of_ble_eq_true rfl, Nat.le_of_ble_eq_true rfl⟩) hS (fun r_283 G_283 H locs hF_283 hr_283 hT hS => ?_)
            have hF := hF.tr hF_283 rfl
            have k_284 : p4 = G_283.1 paa 4 := k_277.trans (hF_283.i h_paa (by decide) rfl _).symm
            obtain ⟨hr_283_p0, hr_283_p1, hr_283_p2, hr_283_s0⟩ := hr_283
            have k_287 : tp = G_283.1 a 6 := k_278.trans hr_283_s0.symm
            obtain ⟨z_288, ez_288, hr_283_p0, hr_283_p1, hr_283_p2⟩ : ∃ z_288 : Int32, z_288 = G_283.1 a 7 ∧ (z_275.toInt ≤ z_288.toInt) ∧ (z_288.toInt ≤ tp.toInt) ∧ (r_283.toInt = (1 : Int) ∨ ((1 : Int) ≤ r_283.toInt ∧ r_283.toInt ≤ (30 : Int))) := ⟨_, rfl, hr_283_p0, hr_283_p1, hr_283_p2⟩
            have rz_288 : 0 ≤ z_288.toInt ∧ z_288.toInt ≤ 1600 := by rw [ez_288]; exact hT.rgi h_a (by decide) 7
            refine t_iast (n := 120) (i := z_282) (x := r_283) rfl (by decide) hx hb hK hT hS hq_252 (hT.len hq_252 (by decide)) ⟨by omega, by omega⟩ trivial dX10_pathLine_217 (fun H locs G_289 eG_289 hT hS => ?_)
            have hF := hF.wI eG_289 hq_252 rfl
            have k_290 : p4 = G_289.1 paa 4 := by rw [eG_289, wI_ne (Or.inl (tag_ne hq_252 h_paa (by decide)))]; exact k_284
            have k_291 : tp = G_289.1 a 6 := by rw [eG_289, wI_ne (Or.inl (tag_ne hq_252 h_a (by decide)))]; exact k_287
            have k_292 : z_288 = G_289.1 a 7 := by rw [eG_289, wI_ne (Or.inl (tag_ne hq_252 h_a (by decide)))]; exact ez_288
            refine lv_aload_n hx hb dX10_pathLine_218 rfl (lv_at hl 4 rfl) ?_
            refine t_getr cf_11 hx hb hts hown hK hT h_a (k := 22) (P := fun q => τ q = 72) rfl (fun _ h9 => h9) fl_X10_49 (fun _ h9 => h9) dX10_pathLine_219 (fun q_293 eq_293 hq_293 => ?_)
            have w_294 : paa = q_293 := Option.some.inj (e_paa.symm.trans ((hF.r h_a (by decide) rfl _).symm.trans eq_293))
            subst w_294
            refine lv_iconst (v := 4) hx hb dX10_pathLine_222 (by decide) ?_
            refine lv_dup2_11 hx hb dX10_pathLine_223 rfl rfl ?_
            refine t_iald (n := 5) (i := 4) rfl (by decide) hx hb hK hT h_paa (hT.len h_paa (by decide)) ⟨by decide, by decide⟩ dX10_pathLine_224 (fun z_295 ez_295 rz_295 => ?_)
            have w_296 : p4 = z_295 := k_290.trans ez_295.symm
            subst w_296
            refine lv_iconst (v := 1) hx hb dX10_pathLine_225 (by decide) ?_
            refine lv_iadd hx hb dX10_pathLine_226 ?_
            refine lv_topi (fun z_297 ez_297 => ?_)
            have tz_297 : z_297.toInt = p4.toInt + 1 := add_t ez_297 (show -2147483648 ≤ p4.toInt + 1 by omega) (show p4.toInt + 1 < 2147483648 by omega)
            refine t_iast (n := 5) (i := 4) (x := z_297) rfl (by decide) hx hb hK hT hS h_paa (hT.len h_paa (by decide)) ⟨by decide, by decide⟩ (show 0 ≤ z_297.toInt ∧ z_297.toInt ≤ 8 from ⟨by omega, by omega⟩) dX10_pathLine_227 (fun H locs G_298 eG_298 hT hS => ?_)
            have hF := hF.wI eG_298 h_paa rfl
            have eG_298 : G_298 = wI G_289 paa 4 z_297 := eG_298
            have k_300 : tp = G_298.1 a 6 := by rw [eG_298, wI_ne (Or.inl (tag_ne h_paa h_a (by decide)))]; exact k_291
            have k_301 : z_288 = G_298.1 a 7 := by rw [eG_298, wI_ne (Or.inl (tag_ne h_paa h_a (by decide)))]; exact k_292
            have k_302 : z_297 = G_298.1 paa 4 := by rw [eG_298, wI_at]
            exact ret_v hx hb hr hlocks ⟨⟨hS.1, hS.2.1⟩, G_298, hF, ⟨rfl, ⟨(by first | (show a0.toInt ≤ (G_298.1 a 7).toInt; rw [← k_301]; done) | (show a0.toInt ≤ (G_298.1 a 7).toInt; rw [← k_301]; show a0.toInt ≤ z_288.toInt; first | omega | assumption)), (by first | (show (G_298.1 a 7).toInt ≤ tp.toInt; rw [← k_301]; done) | (show (G_298.1 a 7).toInt ≤ tp.toInt; rw [← k_301]; show z_288.toInt ≤ tp.toInt; first | omega | assumption)), (k_300.symm.trans e_tp)⟩⟩, hT⟩ hS.2.2 (Nat.le_of_ble_eq_true rfl) (Nat.le_of_ble_eq_true rfl) dX10_pathLine_228
          · skip
            have tc_251 : ¬ x18_3.toInt = 0 := fun h => c_251 ((fa_eq _ _).mpr h)
            refine lv_aload_n hx hb dX10_pathLine_167 rfl (lv_at hl 4 rfl) ?_
            refine lv_iconst (v := 2) hx hb dX10_pathLine_168 (by decide) ?_
            refine t_callv (runV (As := [.int 2]) (rest := []) ⟨hx, hb, hml, hown, hts⟩ (t_X10_fails l D cy base τ G_18 a h_a 2 (by decide) tp i18_6 ⟨by omega, by omega⟩ x18_at i18_8 ⟨by omega, by omega⟩ z_249 ez_249 z_135 ez_135) sV_X10_179 hK (t_recv cf_11 hK hT h_a) ⟨Nat.le_trans hZ hS.1, hT⟩ ⟨Nat.le_of_ble_eq_true rfl, Nat.le_of_ble_eq_true rfl⟩ rfl hl.1 rfl (Nat.le_of_ble_eq_true rfl) dX10_pathLine_169 ⟨Nat.le_of_ble_eq_true rfl, Nat.le_of_ble_eq_true rfl⟩) hS (fun G_303 H locs hF_303 hr_303 hT hS => ?_)
            have hF := hF.tr hF_303 rfl
            have k_305 : p4 = G_303.1 paa 4 := i18_7.trans (hF_303.i h_paa (by decide) rfl _).symm
            obtain ⟨hr_303_p0, hr_303_s0, hr_303_s1, hr_303_s2⟩ := hr_303
            have k_309 : tp = G_303.1 a 6 := i18_6.trans hr_303_s0.symm
            have k_310 : x18_at = G_303.1 a 7 := i18_8.trans hr_303_s1.symm
            have k_311 : z_249 = G_303.1 a 8 := ez_249.trans hr_303_s2.symm
            obtain ⟨z_312, ez_312, hr_303_p0⟩ : ∃ z_312 : Int32, z_312 = G_303.1 a 12 ∧ (z_312.toInt ≠ 0) := ⟨_, rfl, hr_303_p0⟩
            refine lv_aload_n hx hb dX10_pathLine_172 rfl (lv_at hl 4 rfl) ?_
            refine t_getr cf_11 hx hb hts hown hK hT h_a (k := 23) (P := fun q => τ q = 73) rfl (fun _ h9 => h9) fl_X10_52 (fun _ h9 => h9) dX10_pathLine_173 (fun q_313 eq_313 hq_313 => ?_)
            have eq_313 := (hF.r h_a (by decide) rfl _).symm.trans eq_313
            refine lv_iload_n hx hb dX10_pathLine_176 rfl (lv_at hl 3 rfl) ?_
            refine lv_iload_n hx hb dX10_pathLine_177 rfl (lv_at hl 2 rfl) ?_
            refine t_iast (n := 120) (i := z_6) (x := r_10) rfl (by decide) hx hb hK hT hS hq_313 (hT.len hq_313 (by decide)) ⟨by omega, by omega⟩ trivial dX10_pathLine_178 (fun H locs G_314 eG_314 hT hS => ?_)
            have hF := hF.wI eG_314 hq_313 rfl
            have k_315 : p4 = G_314.1 paa 4 := by rw [eG_314, wI_ne (Or.inl (tag_ne hq_313 h_paa (by decide)))]; exact k_305
            have k_316 : tp = G_314.1 a 6 := by rw [eG_314, wI_ne (Or.inl (tag_ne hq_313 h_a (by decide)))]; exact k_309
            have k_317 : x18_at = G_314.1 a 7 := by rw [eG_314, wI_ne (Or.inl (tag_ne hq_313 h_a (by decide)))]; exact k_310
            have k_318 : z_249 = G_314.1 a 8 := by rw [eG_314, wI_ne (Or.inl (tag_ne hq_313 h_a (by decide)))]; exact k_311
            have k_319 : z_312 = G_314.1 a 12 := by rw [eG_314, wI_ne (Or.inl (tag_ne hq_313 h_a (by decide)))]; exact ez_312
            refine lv_aload_n hx hb dX10_pathLine_179 rfl (lv_at hl 4 rfl) ?_
            refine t_getr cf_11 hx hb hts hown hK hT h_a (k := 23) (P := fun q => τ q = 73) rfl (fun _ h9 => h9) fl_X10_52 (fun _ h9 => h9) dX10_pathLine_180 (fun q_320 eq_320 hq_320 => ?_)
            have w_321 : q_313 = q_320 := Option.some.inj (eq_313.symm.trans ((hF.r h_a (by decide) rfl _).symm.trans eq_320))
            subst w_321
            refine lv_iload_n hx hb dX10_pathLine_183 rfl (lv_at hl 3 rfl) ?_
            refine lv_iconst (v := 1) hx hb dX10_pathLine_184 (by decide) ?_
            refine lv_iadd hx hb dX10_pathLine_185 ?_
            refine lv_topi (fun z_322 ez_322 => ?_)
            have tz_322 : z_322.toInt = z_6.toInt + 1 := add_t ez_322 (show -2147483648 ≤ z_6.toInt + 1 by omega) (show z_6.toInt + 1 < 2147483648 by omega)
            refine lv_aload_n hx hb dX10_pathLine_186 rfl (lv_at hl 4 rfl) ?_
            refine lv_iconst (v := 0) hx hb dX10_pathLine_187 (by decide) ?_
            refine lv_aload_n hx hb dX10_pathLine_188 rfl (lv_at hl 4 rfl) ?_
            refine t_getr cf_11 hx hb hts hown hK hT h_a (k := 20) (P := fun q => τ q = 70) rfl (fun _ h9 => h9) fl_X10_43 (fun _ h9 => h9) dX10_pathLine_189 (fun q_323 eq_323 hq_323 => ?_)
            have w_324 : q_7 = q_323 := Option.some.inj (eq_7.symm.trans ((hF.r h_a (by decide) rfl _).symm.trans eq_323))
            subst w_324
            refine lv_iconst (v := 4) hx hb dX10_pathLine_192 (by decide) ?_
            refine t_iald (n := 5) (i := 4) rfl (by decide) hx hb hK hT hq_7 (hT.len hq_7 (by decide)) ⟨by decide, by decide⟩ dX10_pathLine_193 (fun z_325 ez_325 rz_325 => ?_)
            have w_326 : z_8 = z_325 := ez_8.trans (ez_325.trans (hF.i hq_7 (by decide) rfl _)).symm
            subst w_326
            refine lv_iconst (v := 1) hx hb dX10_pathLine_194 (by decide) ?_
            refine lv_isub hx hb dX10_pathLine_195 ?_
            refine lv_topi (fun z_327 ez_327 => ?_)
            have w_328 : z_9 = z_327 := ez_9.trans ez_327.symm
            subst w_328
            refine t_calli (runV (As := [.int 0, .int z_9]) (rest := [.int z_322, .ref q_313]) ⟨hx, hb, hml, hown, hts⟩ (t_X10_number l D cy base τ G_314 a h_a 0 z_9 tp k_316 ⟨by omega, by omega⟩ x18_at k_317 ⟨by omega, by omega⟩ (by show x18_at.toInt ≤ tp.toInt; first | assumption | omega | decide)) sV_X10_186 hK (t_recv cf_11 hK hT h_a) ⟨Nat.le_trans hZ hS.1, hT⟩ ⟨Nat.le_of_ble_eq_true rfl, Nat.le_of_ble_eq_true rfl⟩ rfl hl.1 rfl (Nat.le_of_ble_eq_true rfl) dX10_pathLine_196 ⟨Nat.le_of_ble_eq_true rfl, Nat.le_of_ble_eq_true rfl⟩) hS (fun r_329 G_329 H locs hF_329 hr_329 hT hS => ?_)
            have hF := hF.tr hF_329 rfl
            have k_330 : p4 = G_329.1 paa 4 := k_315.trans (hF_329.i h_paa (by decide) rfl _).symm
            obtain ⟨hr_329_p0, hr_329_p1, hr_329_p2, hr_329_s0⟩ := hr_329
            have k_335 : tp = G_329.1 a 6 := k_316.trans hr_329_s0.symm
            obtain ⟨z_336, ez_336, hr_329_p0, hr_329_p1, hr_329_p2⟩ : ∃ z_336 : Int32, z_336 = G_329.1 a 7 ∧ (x18_at.toInt ≤ z_336.toInt) ∧ (z_336.toInt ≤ tp.toInt) ∧ (r_329.toInt = (0 : Int) ∨ ((0 : Int) ≤ r_329.toInt ∧ r_329.toInt ≤ z_9.toInt)) := ⟨_, rfl, hr_329_p0, hr_329_p1, hr_329_p2⟩
            have rz_336 : 0 ≤ z_336.toInt ∧ z_336.toInt ≤ 1600 := by rw [ez_336]; exact hT.rgi h_a (by decide) 7
            refine t_iast (n := 120) (i := z_322) (x := r_329) rfl (by decide) hx hb hK hT hS hq_313 (hT.len hq_313 (by decide)) ⟨by omega, by omega⟩ trivial dX10_pathLine_199 (fun H locs G_337 eG_337 hT hS => ?_)
            have hF := hF.wI eG_337 hq_313 rfl
            have k_338 : p4 = G_337.1 paa 4 := by rw [eG_337, wI_ne (Or.inl (tag_ne hq_313 h_paa (by decide)))]; exact k_330
            have k_339 : tp = G_337.1 a 6 := by rw [eG_337, wI_ne (Or.inl (tag_ne hq_313 h_a (by decide)))]; exact k_335
            have k_340 : z_336 = G_337.1 a 7 := by rw [eG_337, wI_ne (Or.inl (tag_ne hq_313 h_a (by decide)))]; exact ez_336
            refine lv_aload_n hx hb dX10_pathLine_200 rfl (lv_at hl 4 rfl) ?_
            refine t_getr cf_11 hx hb hts hown hK hT h_a (k := 23) (P := fun q => τ q = 73) rfl (fun _ h9 => h9) fl_X10_52 (fun _ h9 => h9) dX10_pathLine_201 (fun q_341 eq_341 hq_341 => ?_)
            have w_342 : q_313 = q_341 := Option.some.inj (eq_313.symm.trans ((hF.r h_a (by decide) rfl _).symm.trans eq_341))
            subst w_342
            refine lv_iload_n hx hb dX10_pathLine_204 rfl (lv_at hl 3 rfl) ?_
            refine lv_iconst (v := 2) hx hb dX10_pathLine_205 (by decide) ?_
            refine lv_iadd hx hb dX10_pathLine_206 ?_
            refine lv_topi (fun z_343 ez_343 => ?_)
            have tz_343 : z_343.toInt = z_6.toInt + 2 := add_t ez_343 (show -2147483648 ≤ z_6.toInt + 2 by omega) (show z_6.toInt + 2 < 2147483648 by omega)
            refine lv_aload_n hx hb dX10_pathLine_207 rfl (lv_at hl 4 rfl) ?_
            refine lv_ldc2 (v := 80155) hx hb hown (hts _ kl_X10_195) dX10_pathLine_208 ?_
            refine lv_iconst (v := 1) hx hb dX10_pathLine_211 (by decide) ?_
            refine lv_bipush (v := 30) hx hb dX10_pathLine_212 (by decide) ?_
            refine t_calli (runV (As := [.long 80155, .int 1, .int 30]) (rest := [.int z_343, .ref q_313]) ⟨hx, hb, hml, hown, hts⟩ (t_X10_number_ l D cy base τ G_337 a h_a 80155 1 30 tp k_339 ⟨by omega, by omega⟩ z_336 k_340 ⟨by omega, by omega⟩ (by show z_336.toInt ≤ tp.toInt; first | assumption | omega | decide)) sV_X10_197 hK (t_recv cf_11 hK hT h_a) ⟨Nat.le_trans hZ hS.1, hT⟩ ⟨Nat.le_of_ble_eq_true rfl, Nat.le_of_ble_eq_true rfl⟩ rfl hl.1 rfl (Nat.le_of_ble_eq_true rfl) dX10_pathLine_214 ⟨Nat.le_of_ble_eq_true rfl, Nat.le_of_ble_eq_true rfl⟩) hS (fun r_344 G_344 H locs hF_344 hr_344 hT hS => ?_)
            have hF := hF.tr hF_344 rfl
            have k_345 : p4 = G_344.1 paa 4 := k_338.trans (hF_344.i h_paa (by decide) rfl _).symm
            obtain ⟨hr_344_p0, hr_344_p1, hr_344_p2, hr_344_s0⟩ := hr_344
            have k_348 : tp = G_344.1 a 6 := k_339.trans hr_344_s0.symm
            obtain ⟨z_349, ez_349, hr_344_p0, hr_344_p1, hr_344_p2⟩ : ∃ z_349 : Int32, z_349 = G_344.1 a 7 ∧ (z_336.toInt ≤ z_349.toInt) ∧ (z_349.toInt ≤ tp.toInt) ∧ (r_344.toInt = (1 : Int) ∨ ((1 : Int) ≤ r_344.toInt ∧ r_344.toInt ≤ (30 : Int))) := ⟨_, rfl, hr_344_p0, hr_344_p1, hr_344_p2⟩
            have rz_349 : 0 ≤ z_349.toInt ∧ z_349.toInt ≤ 1600 := by rw [ez_349]; exact hT.rgi h_a (by decide) 7
            refine t_iast (n := 120) (i := z_343) (x := r_344) rfl (by decide) hx hb hK hT hS hq_313 (hT.len hq_313 (by decide)) ⟨by omega, by omega⟩ trivial dX10_pathLine_217 (fun H locs G_350 eG_350 hT hS => ?_)
            have hF := hF.wI eG_350 hq_313 rfl
            have k_351 : p4 = G_350.1 paa 4 := by rw [eG_350, wI_ne (Or.inl (tag_ne hq_313 h_paa (by decide)))]; exact k_345
            have k_352 : tp = G_350.1 a 6 := by rw [eG_350, wI_ne (Or.inl (tag_ne hq_313 h_a (by decide)))]; exact k_348
            have k_353 : z_349 = G_350.1 a 7 := by rw [eG_350, wI_ne (Or.inl (tag_ne hq_313 h_a (by decide)))]; exact ez_349
            refine lv_aload_n hx hb dX10_pathLine_218 rfl (lv_at hl 4 rfl) ?_
            refine t_getr cf_11 hx hb hts hown hK hT h_a (k := 22) (P := fun q => τ q = 72) rfl (fun _ h9 => h9) fl_X10_49 (fun _ h9 => h9) dX10_pathLine_219 (fun q_354 eq_354 hq_354 => ?_)
            have w_355 : paa = q_354 := Option.some.inj (e_paa.symm.trans ((hF.r h_a (by decide) rfl _).symm.trans eq_354))
            subst w_355
            refine lv_iconst (v := 4) hx hb dX10_pathLine_222 (by decide) ?_
            refine lv_dup2_11 hx hb dX10_pathLine_223 rfl rfl ?_
            refine t_iald (n := 5) (i := 4) rfl (by decide) hx hb hK hT h_paa (hT.len h_paa (by decide)) ⟨by decide, by decide⟩ dX10_pathLine_224 (fun z_356 ez_356 rz_356 => ?_)
            have w_357 : p4 = z_356 := k_351.trans ez_356.symm
            subst w_357
            refine lv_iconst (v := 1) hx hb dX10_pathLine_225 (by decide) ?_
            refine lv_iadd hx hb dX10_pathLine_226 ?_
            refine lv_topi (fun z_358 ez_358 => ?_)
            have tz_358 : z_358.toInt = p4.toInt + 1 := add_t ez_358 (show -2147483648 ≤ p4.toInt + 1 by omega) (show p4.toInt + 1 < 2147483648 by omega)
            refine t_iast (n := 5) (i := 4) (x := z_358) rfl (by decide) hx hb hK hT hS h_paa (hT.len h_paa (by decide)) ⟨by decide, by decide⟩ (show 0 ≤ z_358.toInt ∧ z_358.toInt ≤ 8 from ⟨by omega, by omega⟩) dX10_pathLine_227 (fun H locs G_359 eG_359 hT hS => ?_)
            have hF := hF.wI eG_359 h_paa rfl
            have eG_359 : G_359 = wI G_350 paa 4 z_358 := eG_359
            have k_361 : tp = G_359.1 a 6 := by rw [eG_359, wI_ne (Or.inl (tag_ne h_paa h_a (by decide)))]; exact k_352
            have k_362 : z_349 = G_359.1 a 7 := by rw [eG_359, wI_ne (Or.inl (tag_ne h_paa h_a (by decide)))]; exact k_353
            have k_363 : z_358 = G_359.1 paa 4 := by rw [eG_359, wI_at]
            exact ret_v hx hb hr hlocks ⟨⟨hS.1, hS.2.1⟩, G_359, hF, ⟨rfl, ⟨(by first | (show a0.toInt ≤ (G_359.1 a 7).toInt; rw [← k_362]; done) | (show a0.toInt ≤ (G_359.1 a 7).toInt; rw [← k_362]; show a0.toInt ≤ z_349.toInt; first | omega | assumption)), (by first | (show (G_359.1 a 7).toInt ≤ tp.toInt; rw [← k_362]; done) | (show (G_359.1 a 7).toInt ≤ tp.toInt; rw [← k_362]; show z_349.toInt ≤ tp.toInt; first | omega | assumption)), (k_361.symm.trans e_tp)⟩⟩, hT⟩ hS.2.2 (Nat.le_of_ble_eq_true rfl) (Nat.le_of_ble_eq_true rfl) dX10_pathLine_228
        · skip
          have tc_250 : z_249.toInt = 2 := (fa_eq _ _).mp c_250
          refine lv_iconst (v := 3) hx hb dX10_pathLine_84 (by decide) ?_
          refine lv_bipush (v := 32) hx hb dX10_pathLine_85 (by decide) ?_
          refine lv_iload hx hb dX10_pathLine_87 (lv_at hl 1 rfl) ?_
          refine lv_iadd hx hb dX10_pathLine_89 ?_
          refine lv_topi (fun z_364 ez_364 => ?_)
          have tz_364 : z_364.toInt = 32 + x18_4.toInt := add_t ez_364 (show -2147483648 ≤ 32 + x18_4.toInt by omega) (show 32 + x18_4.toInt < 2147483648 by omega)
          refine lv_imul hx hb dX10_pathLine_90 ?_
          refine lv_topi (fun z_365 ez_365 => ?_)
          have tz_365 : z_365.toInt = 3 * z_364.toInt := mul_t ez_365 (show -2147483648 ≤ 3 * z_364.toInt by omega) (show 3 * z_364.toInt < 2147483648 by omega)
          refine lv_istore (lv' := [(5, .int z_365), (3, .int x18_3), (4, .int x18_4), (2, .int r_10), (1, .int z_6), (0, .ref a)]) hx hb dX10_pathLine_91 hl (by decide) rfl (fun ls hl => ?_)
          refine lv_iload_n hx hb dX10_pathLine_93 rfl (lv_at hl 1 rfl) ?_
          refine lv_if_ne (tgt := 151) hx hb dX10_pathLine_94 (by decide) (fun c_366 => ?_) (fun c_366 => ?_)
          · skip
            have tc_366 : ¬ x18_3.toInt = 0 := fun h => c_366 ((fa_eq _ _).mpr h)
            refine lv_iconst (v := 1) hx hb dX10_pathLine_151 (by decide) ?_
            refine lv_goto (tgt := 156) hx hb dX10_pathLine_152 (by decide) ?_
            refine lv_istore_n (lv' := [(3, .int 1), (5, .int z_365), (4, .int x18_4), (2, .int r_10), (1, .int z_6), (0, .ref a)]) hx hb dX10_pathLine_156 rfl hl (by decide) rfl (fun ls hl => ?_)
            obtain ⟨z_367, ez_367⟩ : ∃ y : Int32, y = x18_4 + 1 := ⟨_, rfl⟩
            have tz_367 : z_367.toInt = x18_4.toInt + 1 := add_t ez_367 (show -2147483648 ≤ x18_4.toInt + 1 by omega) (show x18_4.toInt + 1 < 2147483648 by omega)
            refine lv_iinc (v := z_367) (lv' := [(4, .int z_367), (3, .int 1), (5, .int z_365), (2, .int r_10), (1, .int z_6), (0, .ref a)]) hx hb dX10_pathLine_157 hl (k := 2) rfl (by rw [ez_367]; rfl) (by decide) rfl (fun ls hl => ?_)
            refine lv_goto (tgt := 58) hx hb dX10_pathLine_160 (by decide) ?_
            exact ih18 ((1 : Int32), z_367, x18_at, G_18) _ _ _ (by show (8 - z_367.toInt).toNat < (8 - x18_4.toInt).toNat; omega) ⟨(by show 0 ≤ z_367.toInt; omega), (by show z_367.toInt ≤ 8; omega), (by show 0 ≤ x18_at.toInt; omega), (by show x18_at.toInt ≤ 1600; omega), by show a0.toInt ≤ x18_at.toInt; first | omega | assumption, by show x18_at.toInt ≤ tp.toInt; first | omega | assumption, (show tp = G_18.1 a 6 from by first | exact i18_6 | omega), (show p4 = G_18.1 paa 4 from by first | exact i18_7 | omega), i18_8, hF, hT, hS, lv_sub hl [1, 0, 3, 4, 5] rfl⟩
          · skip
            have tc_366 : x18_3.toInt = 0 := (fa_eq _ _).mp c_366
            refine lv_aload_n hx hb dX10_pathLine_97 rfl (lv_at hl 5 rfl) ?_
            refine t_getr cf_11 hx hb hts hown hK hT h_a (k := 23) (P := fun q => τ q = 73) rfl (fun _ h9 => h9) fl_X10_52 (fun _ h9 => h9) dX10_pathLine_98 (fun q_368 eq_368 hq_368 => ?_)
            have eq_368 := (hF.r h_a (by decide) rfl _).symm.trans eq_368
            refine lv_iload hx hb dX10_pathLine_101 (lv_at hl 0 rfl) ?_
            refine t_iald (n := 120) (i := z_365) rfl (by decide) hx hb hK hT hq_368 (hT.len hq_368 (by decide)) ⟨by omega, by omega⟩ dX10_pathLine_103 (fun z_369 ez_369 rz_369 => ?_)
            refine lv_iload_n hx hb dX10_pathLine_104 rfl (lv_at hl 3 rfl) ?_
            refine lv_icmp_ne (tgt := 124) hx hb dX10_pathLine_105 (by decide) (fun c_370 => ?_) (fun c_370 => ?_)
            · skip
              have tc_370 : ¬ z_369.toInt = r_10.toInt := fun h => c_370 ((fa_eq _ _).mpr h)
              refine lv_aload_n hx hb dX10_pathLine_124 rfl (lv_at hl 5 rfl) ?_
              refine t_getr cf_11 hx hb hts hown hK hT h_a (k := 23) (P := fun q => τ q = 73) rfl (fun _ h9 => h9) fl_X10_52 (fun _ h9 => h9) dX10_pathLine_125 (fun q_371 eq_371 hq_371 => ?_)
              have w_372 : q_368 = q_371 := Option.some.inj (eq_368.symm.trans ((hF.r h_a (by decide) rfl _).symm.trans eq_371))
              subst w_372
              refine lv_iload hx hb dX10_pathLine_128 (lv_at hl 0 rfl) ?_
              refine t_iald (n := 120) (i := z_365) rfl (by decide) hx hb hK hT hq_368 (hT.len hq_368 (by decide)) ⟨by omega, by omega⟩ dX10_pathLine_130 (fun z_373 ez_373 rz_373 => ?_)
              refine lv_aload_n hx hb dX10_pathLine_131 rfl (lv_at hl 5 rfl) ?_
              refine t_geti cf_11 hx hb hts hown hK hT h_a (k := 10) rfl fl_X10_145 (fun _ h9 => h9) dX10_pathLine_132 (fun z_374 ez_374 rz_374 => ?_)
              have ez_374 : z_374 = G_18.1 a 10 := ez_374
              refine lv_icmp_ne (tgt := 155) hx hb dX10_pathLine_135 (by decide) (fun c_375 => ?_) (fun c_375 => ?_)
              · skip
                have tc_375 : ¬ z_373.toInt = z_374.toInt := fun h => c_375 ((fa_eq _ _).mpr h)
                refine lv_iconst (v := 0) hx hb dX10_pathLine_155 (by decide) ?_
                refine lv_istore_n (lv' := [(3, .int 0), (5, .int z_365), (4, .int x18_4), (2, .int r_10), (1, .int z_6), (0, .ref a)]) hx hb dX10_pathLine_156 rfl hl (by decide) rfl (fun ls hl => ?_)
                obtain ⟨z_376, ez_376⟩ : ∃ y : Int32, y = x18_4 + 1 := ⟨_, rfl⟩
                have tz_376 : z_376.toInt = x18_4.toInt + 1 := add_t ez_376 (show -2147483648 ≤ x18_4.toInt + 1 by omega) (show x18_4.toInt + 1 < 2147483648 by omega)
                refine lv_iinc (v := z_376) (lv' := [(4, .int z_376), (3, .int 0), (5, .int z_365), (2, .int r_10), (1, .int z_6), (0, .ref a)]) hx hb dX10_pathLine_157 hl (k := 2) rfl (by rw [ez_376]; rfl) (by decide) rfl (fun ls hl => ?_)
                refine lv_goto (tgt := 58) hx hb dX10_pathLine_160 (by decide) ?_
                exact ih18 ((0 : Int32), z_376, x18_at, G_18) _ _ _ (by show (8 - z_376.toInt).toNat < (8 - x18_4.toInt).toNat; omega) ⟨(by show 0 ≤ z_376.toInt; omega), (by show z_376.toInt ≤ 8; omega), (by show 0 ≤ x18_at.toInt; omega), (by show x18_at.toInt ≤ 1600; omega), by show a0.toInt ≤ x18_at.toInt; first | omega | assumption, by show x18_at.toInt ≤ tp.toInt; first | omega | assumption, (show tp = G_18.1 a 6 from by first | exact i18_6 | omega), (show p4 = G_18.1 paa 4 from by first | exact i18_7 | omega), i18_8, hF, hT, hS, lv_sub hl [1, 0, 3, 4, 5] rfl⟩
              · skip
                have tc_375 : z_373.toInt = z_374.toInt := (fa_eq _ _).mp c_375
                refine lv_aload_n hx hb dX10_pathLine_138 rfl (lv_at hl 5 rfl) ?_
                refine t_getr cf_11 hx hb hts hown hK hT h_a (k := 23) (P := fun q => τ q = 73) rfl (fun _ h9 => h9) fl_X10_52 (fun _ h9 => h9) dX10_pathLine_139 (fun q_377 eq_377 hq_377 => ?_)
                have w_378 : q_368 = q_377 := Option.some.inj (eq_368.symm.trans ((hF.r h_a (by decide) rfl _).symm.trans eq_377))
                subst w_378
                refine lv_iload hx hb dX10_pathLine_142 (lv_at hl 0 rfl) ?_
                refine lv_iconst (v := 1) hx hb dX10_pathLine_144 (by decide) ?_
                refine lv_iadd hx hb dX10_pathLine_145 ?_
                refine lv_topi (fun z_379 ez_379 => ?_)
                have tz_379 : z_379.toInt = z_365.toInt + 1 := add_t ez_379 (show -2147483648 ≤ z_365.toInt + 1 by omega) (show z_365.toInt + 1 < 2147483648 by omega)
                refine t_iald (n := 120) (i := z_379) rfl (by decide) hx hb hK hT hq_368 (hT.len hq_368 (by decide)) ⟨by omega, by omega⟩ dX10_pathLine_146 (fun z_380 ez_380 rz_380 => ?_)
                refine lv_iload_n hx hb dX10_pathLine_147 rfl (lv_at hl 3 rfl) ?_
                refine lv_icmp_ne (tgt := 155) hx hb dX10_pathLine_148 (by decide) (fun c_381 => ?_) (fun c_381 => ?_)
                · skip
                  have tc_381 : ¬ z_380.toInt = r_10.toInt := fun h => c_381 ((fa_eq _ _).mpr h)
                  refine lv_iconst (v := 0) hx hb dX10_pathLine_155 (by decide) ?_
                  refine lv_istore_n (lv' := [(3, .int 0), (5, .int z_365), (4, .int x18_4), (2, .int r_10), (1, .int z_6), (0, .ref a)]) hx hb dX10_pathLine_156 rfl hl (by decide) rfl (fun ls hl => ?_)
                  obtain ⟨z_382, ez_382⟩ : ∃ y : Int32, y = x18_4 + 1 := ⟨_, rfl⟩
                  have tz_382 : z_382.toInt = x18_4.toInt + 1 := add_t ez_382 (show -2147483648 ≤ x18_4.toInt + 1 by omega) (show x18_4.toInt + 1 < 2147483648 by omega)
                  refine lv_iinc (v := z_382) (lv' := [(4, .int z_382), (3, .int 0), (5, .int z_365), (2, .int r_10), (1, .int z_6), (0, .ref a)]) hx hb dX10_pathLine_157 hl (k := 2) rfl (by rw [ez_382]; rfl) (by decide) rfl (fun ls hl => ?_)
                  refine lv_goto (tgt := 58) hx hb dX10_pathLine_160 (by decide) ?_
                  exact ih18 ((0 : Int32), z_382, x18_at, G_18) _ _ _ (by show (8 - z_382.toInt).toNat < (8 - x18_4.toInt).toNat; omega) ⟨(by show 0 ≤ z_382.toInt; omega), (by show z_382.toInt ≤ 8; omega), (by show 0 ≤ x18_at.toInt; omega), (by show x18_at.toInt ≤ 1600; omega), by show a0.toInt ≤ x18_at.toInt; first | omega | assumption, by show x18_at.toInt ≤ tp.toInt; first | omega | assumption, (show tp = G_18.1 a 6 from by first | exact i18_6 | omega), (show p4 = G_18.1 paa 4 from by first | exact i18_7 | omega), i18_8, hF, hT, hS, lv_sub hl [1, 0, 3, 4, 5] rfl⟩
                · skip
                  have tc_381 : z_380.toInt = r_10.toInt := (fa_eq _ _).mp c_381
                  refine lv_iconst (v := 1) hx hb dX10_pathLine_151 (by decide) ?_
                  refine lv_goto (tgt := 156) hx hb dX10_pathLine_152 (by decide) ?_
                  refine lv_istore_n (lv' := [(3, .int 1), (5, .int z_365), (4, .int x18_4), (2, .int r_10), (1, .int z_6), (0, .ref a)]) hx hb dX10_pathLine_156 rfl hl (by decide) rfl (fun ls hl => ?_)
                  obtain ⟨z_383, ez_383⟩ : ∃ y : Int32, y = x18_4 + 1 := ⟨_, rfl⟩
                  have tz_383 : z_383.toInt = x18_4.toInt + 1 := add_t ez_383 (show -2147483648 ≤ x18_4.toInt + 1 by omega) (show x18_4.toInt + 1 < 2147483648 by omega)
                  refine lv_iinc (v := z_383) (lv' := [(4, .int z_383), (3, .int 1), (5, .int z_365), (2, .int r_10), (1, .int z_6), (0, .ref a)]) hx hb dX10_pathLine_157 hl (k := 2) rfl (by rw [ez_383]; rfl) (by decide) rfl (fun ls hl => ?_)
                  refine lv_goto (tgt := 58) hx hb dX10_pathLine_160 (by decide) ?_
                  exact ih18 ((1 : Int32), z_383, x18_at, G_18) _ _ _ (by show (8 - z_383.toInt).toNat < (8 - x18_4.toInt).toNat; omega) ⟨(by show 0 ≤ z_383.toInt; omega), (by show z_383.toInt ≤ 8; omega), (by show 0 ≤ x18_at.toInt; omega), (by show x18_at.toInt ≤ 1600; omega), by show a0.toInt ≤ x18_at.toInt; first | omega | assumption, by show x18_at.toInt ≤ tp.toInt; first | omega | assumption, (show tp = G_18.1 a 6 from by first | exact i18_6 | omega), (show p4 = G_18.1 paa 4 from by first | exact i18_7 | omega), i18_8, hF, hT, hS, lv_sub hl [1, 0, 3, 4, 5] rfl⟩
            · skip
              have tc_370 : z_369.toInt = r_10.toInt := (fa_eq _ _).mp c_370
              refine lv_aload_n hx hb dX10_pathLine_108 rfl (lv_at hl 5 rfl) ?_
              refine t_getr cf_11 hx hb hts hown hK hT h_a (k := 23) (P := fun q => τ q = 73) rfl (fun _ h9 => h9) fl_X10_52 (fun _ h9 => h9) dX10_pathLine_109 (fun q_384 eq_384 hq_384 => ?_)
              have w_385 : q_368 = q_384 := Option.some.inj (eq_368.symm.trans ((hF.r h_a (by decide) rfl _).symm.trans eq_384))
              subst w_385
              refine lv_iload hx hb dX10_pathLine_112 (lv_at hl 0 rfl) ?_
              refine lv_iconst (v := 1) hx hb dX10_pathLine_114 (by decide) ?_
              refine lv_iadd hx hb dX10_pathLine_115 ?_
              refine lv_topi (fun z_386 ez_386 => ?_)
              have tz_386 : z_386.toInt = z_365.toInt + 1 := add_t ez_386 (show -2147483648 ≤ z_365.toInt + 1 by omega) (show z_365.toInt + 1 < 2147483648 by omega)
              refine t_iald (n := 120) (i := z_386) rfl (by decide) hx hb hK hT hq_368 (hT.len hq_368 (by decide)) ⟨by omega, by omega⟩ dX10_pathLine_116 (fun z_387 ez_387 rz_387 => ?_)
              refine lv_aload_n hx hb dX10_pathLine_117 rfl (lv_at hl 5 rfl) ?_
              refine t_geti cf_11 hx hb hts hown hK hT h_a (k := 10) rfl fl_X10_145 (fun _ h9 => h9) dX10_pathLine_118 (fun z_388 ez_388 rz_388 => ?_)
              have ez_388 : z_388 = G_18.1 a 10 := ez_388
              refine lv_icmp_eq (tgt := 151) hx hb dX10_pathLine_121 (by decide) (fun c_389 => ?_) (fun c_389 => ?_)
              · skip
                have tc_389 : z_387.toInt = z_388.toInt := (fa_eq _ _).mp c_389
                refine lv_iconst (v := 1) hx hb dX10_pathLine_151 (by decide) ?_
                refine lv_goto (tgt := 156) hx hb dX10_pathLine_152 (by decide) ?_
                refine lv_istore_n (lv' := [(3, .int 1), (5, .int z_365), (4, .int x18_4), (2, .int r_10), (1, .int z_6), (0, .ref a)]) hx hb dX10_pathLine_156 rfl hl (by decide) rfl (fun ls hl => ?_)
                obtain ⟨z_390, ez_390⟩ : ∃ y : Int32, y = x18_4 + 1 := ⟨_, rfl⟩
                have tz_390 : z_390.toInt = x18_4.toInt + 1 := add_t ez_390 (show -2147483648 ≤ x18_4.toInt + 1 by omega) (show x18_4.toInt + 1 < 2147483648 by omega)
                refine lv_iinc (v := z_390) (lv' := [(4, .int z_390), (3, .int 1), (5, .int z_365), (2, .int r_10), (1, .int z_6), (0, .ref a)]) hx hb dX10_pathLine_157 hl (k := 2) rfl (by rw [ez_390]; rfl) (by decide) rfl (fun ls hl => ?_)
                refine lv_goto (tgt := 58) hx hb dX10_pathLine_160 (by decide) ?_
                exact ih18 ((1 : Int32), z_390, x18_at, G_18) _ _ _ (by show (8 - z_390.toInt).toNat < (8 - x18_4.toInt).toNat; omega) ⟨(by show 0 ≤ z_390.toInt; omega), (by show z_390.toInt ≤ 8; omega), (by show 0 ≤ x18_at.toInt; omega), (by show x18_at.toInt ≤ 1600; omega), by show a0.toInt ≤ x18_at.toInt; first | omega | assumption, by show x18_at.toInt ≤ tp.toInt; first | omega | assumption, (show tp = G_18.1 a 6 from by first | exact i18_6 | omega), (show p4 = G_18.1 paa 4 from by first | exact i18_7 | omega), i18_8, hF, hT, hS, lv_sub hl [1, 0, 3, 4, 5] rfl⟩
              · skip
                have tc_389 : ¬ z_387.toInt = z_388.toInt := fun h => c_389 ((fa_eq _ _).mpr h)
                refine lv_aload_n hx hb dX10_pathLine_124 rfl (lv_at hl 5 rfl) ?_
                refine t_getr cf_11 hx hb hts hown hK hT h_a (k := 23) (P := fun q => τ q = 73) rfl (fun _ h9 => h9) fl_X10_52 (fun _ h9 => h9) dX10_pathLine_125 (fun q_391 eq_391 hq_391 => ?_)
                have w_392 : q_368 = q_391 := Option.some.inj (eq_368.symm.trans ((hF.r h_a (by decide) rfl _).symm.trans eq_391))
                subst w_392
                refine lv_iload hx hb dX10_pathLine_128 (lv_at hl 0 rfl) ?_
                refine t_iald (n := 120) (i := z_365) rfl (by decide) hx hb hK hT hq_368 (hT.len hq_368 (by decide)) ⟨by omega, by omega⟩ dX10_pathLine_130 (fun z_393 ez_393 rz_393 => ?_)
                refine lv_aload_n hx hb dX10_pathLine_131 rfl (lv_at hl 5 rfl) ?_
                refine t_geti cf_11 hx hb hts hown hK hT h_a (k := 10) rfl fl_X10_145 (fun _ h9 => h9) dX10_pathLine_132 (fun z_394 ez_394 rz_394 => ?_)
                have w_395 : z_388 = z_394 := ez_388.trans ez_394.symm
                subst w_395
                refine lv_icmp_ne (tgt := 155) hx hb dX10_pathLine_135 (by decide) (fun c_396 => ?_) (fun c_396 => ?_)
                · skip
                  have tc_396 : ¬ z_393.toInt = z_388.toInt := fun h => c_396 ((fa_eq _ _).mpr h)
                  refine lv_iconst (v := 0) hx hb dX10_pathLine_155 (by decide) ?_
                  refine lv_istore_n (lv' := [(3, .int 0), (5, .int z_365), (4, .int x18_4), (2, .int r_10), (1, .int z_6), (0, .ref a)]) hx hb dX10_pathLine_156 rfl hl (by decide) rfl (fun ls hl => ?_)
                  obtain ⟨z_397, ez_397⟩ : ∃ y : Int32, y = x18_4 + 1 := ⟨_, rfl⟩
                  have tz_397 : z_397.toInt = x18_4.toInt + 1 := add_t ez_397 (show -2147483648 ≤ x18_4.toInt + 1 by omega) (show x18_4.toInt + 1 < 2147483648 by omega)
                  refine lv_iinc (v := z_397) (lv' := [(4, .int z_397), (3, .int 0), (5, .int z_365), (2, .int r_10), (1, .int z_6), (0, .ref a)]) hx hb dX10_pathLine_157 hl (k := 2) rfl (by rw [ez_397]; rfl) (by decide) rfl (fun ls hl => ?_)
                  refine lv_goto (tgt := 58) hx hb dX10_pathLine_160 (by decide) ?_
                  exact ih18 ((0 : Int32), z_397, x18_at, G_18) _ _ _ (by show (8 - z_397.toInt).toNat < (8 - x18_4.toInt).toNat; omega) ⟨(by show 0 ≤ z_397.toInt; omega), (by show z_397.toInt ≤ 8; omega), (by show 0 ≤ x18_at.toInt; omega), (by show x18_at.toInt ≤ 1600; omega), by show a0.toInt ≤ x18_at.toInt; first | omega | assumption, by show x18_at.toInt ≤ tp.toInt; first | omega | assumption, (show tp = G_18.1 a 6 from by first | exact i18_6 | omega), (show p4 = G_18.1 paa 4 from by first | exact i18_7 | omega), i18_8, hF, hT, hS, lv_sub hl [1, 0, 3, 4, 5] rfl⟩
                · skip
                  have tc_396 : z_393.toInt = z_388.toInt := (fa_eq _ _).mp c_396
                  refine lv_aload_n hx hb dX10_pathLine_138 rfl (lv_at hl 5 rfl) ?_
                  refine t_getr cf_11 hx hb hts hown hK hT h_a (k := 23) (P := fun q => τ q = 73) rfl (fun _ h9 => h9) fl_X10_52 (fun _ h9 => h9) dX10_pathLine_139 (fun q_398 eq_398 hq_398 => ?_)
                  have w_399 : q_368 = q_398 := Option.some.inj (eq_368.symm.trans ((hF.r h_a (by decide) rfl _).symm.trans eq_398))
                  subst w_399
                  refine lv_iload hx hb dX10_pathLine_142 (lv_at hl 0 rfl) ?_
                  refine lv_iconst (v := 1) hx hb dX10_pathLine_144 (by decide) ?_
                  refine lv_iadd hx hb dX10_pathLine_145 ?_
                  refine lv_topi (fun z_400 ez_400 => ?_)
                  have w_401 : z_386 = z_400 := ez_386.trans ez_400.symm
                  subst w_401
                  refine t_iald (n := 120) (i := z_386) rfl (by decide) hx hb hK hT hq_368 (hT.len hq_368 (by decide)) ⟨by omega, by omega⟩ dX10_pathLine_146 (fun z_402 ez_402 rz_402 => ?_)
                  refine lv_iload_n hx hb dX10_pathLine_147 rfl (lv_at hl 3 rfl) ?_
                  refine lv_icmp_ne (tgt := 155) hx hb dX10_pathLine_148 (by decide) (fun c_403 => ?_) (fun c_403 => ?_)
                  · skip
                    have tc_403 : ¬ z_402.toInt = r_10.toInt := fun h => c_403 ((fa_eq _ _).mpr h)
                    refine lv_iconst (v := 0) hx hb dX10_pathLine_155 (by decide) ?_
                    refine lv_istore_n (lv' := [(3, .int 0), (5, .int z_365), (4, .int x18_4), (2, .int r_10), (1, .int z_6), (0, .ref a)]) hx hb dX10_pathLine_156 rfl hl (by decide) rfl (fun ls hl => ?_)
                    obtain ⟨z_404, ez_404⟩ : ∃ y : Int32, y = x18_4 + 1 := ⟨_, rfl⟩
                    have tz_404 : z_404.toInt = x18_4.toInt + 1 := add_t ez_404 (show -2147483648 ≤ x18_4.toInt + 1 by omega) (show x18_4.toInt + 1 < 2147483648 by omega)
                    refine lv_iinc (v := z_404) (lv' := [(4, .int z_404), (3, .int 0), (5, .int z_365), (2, .int r_10), (1, .int z_6), (0, .ref a)]) hx hb dX10_pathLine_157 hl (k := 2) rfl (by rw [ez_404]; rfl) (by decide) rfl (fun ls hl => ?_)
                    refine lv_goto (tgt := 58) hx hb dX10_pathLine_160 (by decide) ?_
                    exact ih18 ((0 : Int32), z_404, x18_at, G_18) _ _ _ (by show (8 - z_404.toInt).toNat < (8 - x18_4.toInt).toNat; omega) ⟨(by show 0 ≤ z_404.toInt; omega), (by show z_404.toInt ≤ 8; omega), (by show 0 ≤ x18_at.toInt; omega), (by show x18_at.toInt ≤ 1600; omega), by show a0.toInt ≤ x18_at.toInt; first | omega | assumption, by show x18_at.toInt ≤ tp.toInt; first | omega | assumption, (show tp = G_18.1 a 6 from by first | exact i18_6 | omega), (show p4 = G_18.1 paa 4 from by first | exact i18_7 | omega), i18_8, hF, hT, hS, lv_sub hl [1, 0, 3, 4, 5] rfl⟩
                  · skip
                    have tc_403 : z_402.toInt = r_10.toInt := (fa_eq _ _).mp c_403
                    refine lv_iconst (v := 1) hx hb dX10_pathLine_151 (by decide) ?_
                    refine lv_goto (tgt := 156) hx hb dX10_pathLine_152 (by decide) ?_
                    refine lv_istore_n (lv' := [(3, .int 1), (5, .int z_365), (4, .int x18_4), (2, .int r_10), (1, .int z_6), (0, .ref a)]) hx hb dX10_pathLine_156 rfl hl (by decide) rfl (fun ls hl => ?_)
                    obtain ⟨z_405, ez_405⟩ : ∃ y : Int32, y = x18_4 + 1 := ⟨_, rfl⟩
                    have tz_405 : z_405.toInt = x18_4.toInt + 1 := add_t ez_405 (show -2147483648 ≤ x18_4.toInt + 1 by omega) (show x18_4.toInt + 1 < 2147483648 by omega)
                    refine lv_iinc (v := z_405) (lv' := [(4, .int z_405), (3, .int 1), (5, .int z_365), (2, .int r_10), (1, .int z_6), (0, .ref a)]) hx hb dX10_pathLine_157 hl (k := 2) rfl (by rw [ez_405]; rfl) (by decide) rfl (fun ls hl => ?_)
                    refine lv_goto (tgt := 58) hx hb dX10_pathLine_160 (by decide) ?_
                    exact ih18 ((1 : Int32), z_405, x18_at, G_18) _ _ _ (by show (8 - z_405.toInt).toNat < (8 - x18_4.toInt).toNat; omega) ⟨(by show 0 ≤ z_405.toInt; omega), (by show z_405.toInt ≤ 8; omega), (by show 0 ≤ x18_at.toInt; omega), (by show x18_at.toInt ≤ 1600; omega), by show a0.toInt ≤ x18_at.toInt; first | omega | assumption, by show x18_at.toInt ≤ tp.toInt; first | omega | assumption, (show tp = G_18.1 a 6 from by first | exact i18_6 | omega), (show p4 = G_18.1 paa 4 from by first | exact i18_7 | omega), i18_8, hF, hT, hS, lv_sub hl [1, 0, 3, 4, 5] rfl⟩
  · skip
    have tc_17 : z_16.toInt = 0 := (fa_eq _ _).mp c_17
    refine lv_aload_n hx hb dX10_pathLine_33 rfl (lv_at hl 2 rfl) ?_
    refine t_geti cf_11 hx hb hts hown hK hT h_a (k := 8) rfl fl_X10_152 (fun _ h9 => h9) dX10_pathLine_34 (fun z_406 ez_406 rz_406 => ?_)
    have ez_406 : z_406 = G_10.1 a 8 := ez_406
    refine lv_iconst (v := 2) hx hb dX10_pathLine_37 (by decide) ?_
    refine lv_icmp_ne (tgt := 53) hx hb dX10_pathLine_38 (by decide) (fun c_407 => ?_) (fun c_407 => ?_)
    · skip
      have tc_407 : ¬ z_406.toInt = 2 := fun h => c_407 ((fa_eq _ _).mpr h)
      refine lv_iconst (v := 0) hx hb dX10_pathLine_53 (by decide) ?_
      refine lv_istore_n (lv' := [(3, .int 0), (2, .int r_10), (1, .int z_6), (0, .ref a)]) hx hb dX10_pathLine_54 rfl hl (by decide) rfl (fun ls hl => ?_)
      refine lv_iconst (v := 0) hx hb dX10_pathLine_55 (by decide) ?_
      refine lv_istore (lv' := [(4, .int 0), (3, .int 0), (2, .int r_10), (1, .int z_6), (0, .ref a)]) hx hb dX10_pathLine_56 hl (by decide) rfl (fun ls hl => ?_)
      refine W.loop (σ := Int32 × Int32 × Int32 × Gh) (fun w408 H locs ls => 0 ≤ w408.2.1.toInt ∧ w408.2.1.toInt ≤ 8 ∧ 0 ≤ w408.2.2.1.toInt ∧ w408.2.2.1.toInt ≤ 1600 ∧ (a0.toInt ≤ w408.2.2.1.toInt) ∧ (w408.2.2.1.toInt ≤ tp.toInt) ∧ tp = w408.2.2.2.1 a 6 ∧ p4 = w408.2.2.2.1 paa 4 ∧ w408.2.2.1 = w408.2.2.2.1 a 7 ∧ Fr τ [11, 72, 73] G w408.2.2.2 ∧ TY D cy base τ w408.2.2.2 H ∧ va_S (RA base) s.heap H locs ∧ lv_has ls 6 [(3, .int w408.1), (4, .int w408.2.1), (2, .int r_10), (1, .int z_6), (0, .ref a)]) (fun w408 => (8 - w408.2.1.toInt).toNat) ?_ ((0 : Int32), (0 : Int32), z_15, G_10) _ _ _ ⟨(by show 0 ≤ (0 : Int32).toInt; decide), (by show (0 : Int32).toInt ≤ 8; decide), (by show 0 ≤ z_15.toInt; omega), (by show z_15.toInt ≤ 1600; omega), (by show a0.toInt ≤ z_15.toInt; first | omega | assumption | exact rfl), (by show z_15.toInt ≤ tp.toInt; first | omega | assumption | exact rfl), (by show tp = G_10.1 a 6; exact k_14), (by show p4 = G_10.1 paa 4; exact k_13), ez_15, hF, hT, hS, lv_sub hl [1, 0, 2, 3, 4] rfl⟩
      intro w408 H locs ls hI ih408
      obtain ⟨x408_3, x408_4, x408_at, G_408⟩ := w408
      obtain ⟨i408_0, i408_1, i408_2, i408_3, i408_4, i408_5, i408_6, i408_7, i408_8, hF, hT, hS, hl⟩ := hI
      have i408_0 : 0 ≤ x408_4.toInt := i408_0
      have i408_1 : x408_4.toInt ≤ 8 := i408_1
      have i408_2 : 0 ≤ x408_at.toInt := i408_2
      have i408_3 : x408_at.toInt ≤ 1600 := i408_3
      have i408_4 : (a0.toInt ≤ x408_at.toInt) := i408_4
      have i408_5 : (x408_at.toInt ≤ tp.toInt) := i408_5
      have i408_6 : tp = G_408.1 a 6 := i408_6
      have i408_7 : p4 = G_408.1 paa 4 := i408_7
      have i408_8 : x408_at = G_408.1 a 7 := i408_8
      have hF : Fr τ [11, 72, 73] G G_408 := hF
      have hT : TY D cy base τ G_408 H := hT
      have hS : va_S (RA base) s.heap H locs := hS
      have hl : lv_has ls 6 [(3, .int x408_3), (4, .int x408_4), (2, .int r_10), (1, .int z_6), (0, .ref a)] := hl
      refine lv_iload hx hb dX10_pathLine_58 (lv_at hl 1 rfl) ?_
      refine lv_aload_n hx hb dX10_pathLine_60 rfl (lv_at hl 4 rfl) ?_
      refine t_getr cf_11 hx hb hts hown hK hT h_a (k := 22) (P := fun q => τ q = 72) rfl (fun _ h9 => h9) fl_X10_49 (fun _ h9 => h9) dX10_pathLine_61 (fun q_409 eq_409 hq_409 => ?_)
      have w_410 : paa = q_409 := Option.some.inj (e_paa.symm.trans ((hF.r h_a (by decide) rfl _).symm.trans eq_409))
      subst w_410
      refine lv_iconst (v := 4) hx hb dX10_pathLine_64 (by decide) ?_
      refine t_iald (n := 5) (i := 4) rfl (by decide) hx hb hK hT h_paa (hT.len h_paa (by decide)) ⟨by decide, by decide⟩ dX10_pathLine_65 (fun z_411 ez_411 rz_411 => ?_)
      have w_412 : p4 = z_411 := i408_7.trans ez_411.symm
      subst w_412
      refine lv_icmp_ge (tgt := 163) hx hb dX10_pathLine_66 (by decide) (fun c_413 => ?_) (fun c_413 => ?_)
      · skip
        have tc_413 : p4.toInt ≤ x408_4.toInt := (fa_le _ _).mp c_413
        refine lv_iload_n hx hb dX10_pathLine_163 rfl (lv_at hl 0 rfl) ?_
        refine lv_if_eq (tgt := 172) hx hb dX10_pathLine_164 (by decide) (fun c_414 => ?_) (fun c_414 => ?_)
        · skip
          have tc_414 : x408_3.toInt = 0 := (fa_eq _ _).mp c_414
          refine lv_aload_n hx hb dX10_pathLine_172 rfl (lv_at hl 4 rfl) ?_
          refine t_getr cf_11 hx hb hts hown hK hT h_a (k := 23) (P := fun q => τ q = 73) rfl (fun _ h9 => h9) fl_X10_52 (fun _ h9 => h9) dX10_pathLine_173 (fun q_415 eq_415 hq_415 => ?_)
          have eq_415 := (hF.r h_a (by decide) rfl _).symm.trans eq_415
          refine lv_iload_n hx hb dX10_pathLine_176 rfl (lv_at hl 3 rfl) ?_
          refine lv_iload_n hx hb dX10_pathLine_177 rfl (lv_at hl 2 rfl) ?_
          refine t_iast (n := 120) (i := z_6) (x := r_10) rfl (by decide) hx hb hK hT hS hq_415 (hT.len hq_415 (by decide)) ⟨by omega, by omega⟩ trivial dX10_pathLine_178 (fun H locs G_416 eG_416 hT hS => ?_)
          have hF := hF.wI eG_416 hq_415 rfl
          have k_417 : tp = G_416.1 a 6 := by rw [eG_416, wI_ne (Or.inl (tag_ne hq_415 h_a (by decide)))]; exact i408_6
          have k_418 : p4 = G_416.1 paa 4 := by rw [eG_416, wI_ne (Or.inl (tag_ne hq_415 h_paa (by decide)))]; exact i408_7
          have k_419 : x408_at = G_416.1 a 7 := by rw [eG_416, wI_ne (Or.inl (tag_ne hq_415 h_a (by decide)))]; exact i408_8
          refine lv_aload_n hx hb dX10_pathLine_179 rfl (lv_at hl 4 rfl) ?_
          refine t_getr cf_11 hx hb hts hown hK hT h_a (k := 23) (P := fun q => τ q = 73) rfl (fun _ h9 => h9) fl_X10_52 (fun _ h9 => h9) dX10_pathLine_180 (fun q_420 eq_420 hq_420 => ?_)
          have w_421 : q_415 = q_420 := Option.some.inj (eq_415.symm.trans ((hF.r h_a (by decide) rfl _).symm.trans eq_420))
          subst w_421
          refine lv_iload_n hx hb dX10_pathLine_183 rfl (lv_at hl 3 rfl) ?_
          refine lv_iconst (v := 1) hx hb dX10_pathLine_184 (by decide) ?_
          refine lv_iadd hx hb dX10_pathLine_185 ?_
          refine lv_topi (fun z_422 ez_422 => ?_)
          have tz_422 : z_422.toInt = z_6.toInt + 1 := add_t ez_422 (show -2147483648 ≤ z_6.toInt + 1 by omega) (show z_6.toInt + 1 < 2147483648 by omega)
          refine lv_aload_n hx hb dX10_pathLine_186 rfl (lv_at hl 4 rfl) ?_
          refine lv_iconst (v := 0) hx hb dX10_pathLine_187 (by decide) ?_
          refine lv_aload_n hx hb dX10_pathLine_188 rfl (lv_at hl 4 rfl) ?_
          refine t_getr cf_11 hx hb hts hown hK hT h_a (k := 20) (P := fun q => τ q = 70) rfl (fun _ h9 => h9) fl_X10_43 (fun _ h9 => h9) dX10_pathLine_189 (fun q_423 eq_423 hq_423 => ?_)
          have w_424 : q_7 = q_423 := Option.some.inj (eq_7.symm.trans ((hF.r h_a (by decide) rfl _).symm.trans eq_423))
          subst w_424
          refine lv_iconst (v := 4) hx hb dX10_pathLine_192 (by decide) ?_
          refine t_iald (n := 5) (i := 4) rfl (by decide) hx hb hK hT hq_7 (hT.len hq_7 (by decide)) ⟨by decide, by decide⟩ dX10_pathLine_193 (fun z_425 ez_425 rz_425 => ?_)
          have w_426 : z_8 = z_425 := ez_8.trans (ez_425.trans (hF.i hq_7 (by decide) rfl _)).symm
          subst w_426
          refine lv_iconst (v := 1) hx hb dX10_pathLine_194 (by decide) ?_
          refine lv_isub hx hb dX10_pathLine_195 ?_
          refine lv_topi (fun z_427 ez_427 => ?_)
          have w_428 : z_9 = z_427 := ez_9.trans ez_427.symm
          subst w_428
          refine t_calli (runV (As := [.int 0, .int z_9]) (rest := [.int z_422, .ref q_415]) ⟨hx, hb, hml, hown, hts⟩ (t_X10_number l D cy base τ G_416 a h_a 0 z_9 tp k_417 ⟨by omega, by omega⟩ x408_at k_419 ⟨by omega, by omega⟩ (by show x408_at.toInt ≤ tp.toInt; first | assumption | omega | decide)) sV_X10_186 hK (t_recv cf_11 hK hT h_a) ⟨Nat.le_trans hZ hS.1, hT⟩ ⟨Nat.le_of_ble_eq_true rfl, Nat.le_of_ble_eq_true rfl⟩ rfl hl.1 rfl (Nat.le_of_ble_eq_true rfl) dX10_pathLine_196 ⟨Nat.le_of_ble_eq_true rfl, Nat.le_of_ble_eq_true rfl⟩) hS (fun r_429 G_429 H locs hF_429 hr_429 hT hS => ?_)
          have hF := hF.tr hF_429 rfl
          have k_431 : p4 = G_429.1 paa 4 := k_418.trans (hF_429.i h_paa (by decide) rfl _).symm
          obtain ⟨hr_429_p0, hr_429_p1, hr_429_p2, hr_429_s0⟩ := hr_429
          have k_433 : tp = G_429.1 a 6 := k_417.trans hr_429_s0.symm
          obtain ⟨z_434, ez_434, hr_429_p0, hr_429_p1, hr_429_p2⟩ : ∃ z_434 : Int32, z_434 = G_429.1 a 7 ∧ (x408_at.toInt ≤ z_434.toInt) ∧ (z_434.toInt ≤ tp.toInt) ∧ (r_429.toInt = (0 : Int) ∨ ((0 : Int) ≤ r_429.toInt ∧ r_429.toInt ≤ z_9.toInt)) := ⟨_, rfl, hr_429_p0, hr_429_p1, hr_429_p2⟩
          have rz_434 : 0 ≤ z_434.toInt ∧ z_434.toInt ≤ 1600 := by rw [ez_434]; exact hT.rgi h_a (by decide) 7
          refine t_iast (n := 120) (i := z_422) (x := r_429) rfl (by decide) hx hb hK hT hS hq_415 (hT.len hq_415 (by decide)) ⟨by omega, by omega⟩ trivial dX10_pathLine_199 (fun H locs G_435 eG_435 hT hS => ?_)
          have hF := hF.wI eG_435 hq_415 rfl
          have k_436 : p4 = G_435.1 paa 4 := by rw [eG_435, wI_ne (Or.inl (tag_ne hq_415 h_paa (by decide)))]; exact k_431
          have k_437 : tp = G_435.1 a 6 := by rw [eG_435, wI_ne (Or.inl (tag_ne hq_415 h_a (by decide)))]; exact k_433
          have k_438 : z_434 = G_435.1 a 7 := by rw [eG_435, wI_ne (Or.inl (tag_ne hq_415 h_a (by decide)))]; exact ez_434
          refine lv_aload_n hx hb dX10_pathLine_200 rfl (lv_at hl 4 rfl) ?_
          refine t_getr cf_11 hx hb hts hown hK hT h_a (k := 23) (P := fun q => τ q = 73) rfl (fun _ h9 => h9) fl_X10_52 (fun _ h9 => h9) dX10_pathLine_201 (fun q_439 eq_439 hq_439 => ?_)
          have w_440 : q_415 = q_439 := Option.some.inj (eq_415.symm.trans ((hF.r h_a (by decide) rfl _).symm.trans eq_439))
          subst w_440
          refine lv_iload_n hx hb dX10_pathLine_204 rfl (lv_at hl 3 rfl) ?_
          refine lv_iconst (v := 2) hx hb dX10_pathLine_205 (by decide) ?_
          refine lv_iadd hx hb dX10_pathLine_206 ?_
          refine lv_topi (fun z_441 ez_441 => ?_)
          have tz_441 : z_441.toInt = z_6.toInt + 2 := add_t ez_441 (show -2147483648 ≤ z_6.toInt + 2 by omega) (show z_6.toInt + 2 < 2147483648 by omega)
          refine lv_aload_n hx hb dX10_pathLine_207 rfl (lv_at hl 4 rfl) ?_
          refine lv_ldc2 (v := 80155) hx hb hown (hts _ kl_X10_195) dX10_pathLine_208 ?_
          refine lv_iconst (v := 1) hx hb dX10_pathLine_211 (by decide) ?_
          refine lv_bipush (v := 30) hx hb dX10_pathLine_212 (by decide) ?_
          refine t_calli (runV (As := [.long 80155, .int 1, .int 30]) (rest := [.int z_441, .ref q_415]) ⟨hx, hb, hml, hown, hts⟩ (t_X10_number_ l D cy base τ G_435 a h_a 80155 1 30 tp k_437 ⟨by omega, by omega⟩ z_434 k_438 ⟨by omega, by omega⟩ (by show z_434.toInt ≤ tp.toInt; first | assumption | omega | decide)) sV_X10_197 hK (t_recv cf_11 hK hT h_a) ⟨Nat.le_trans hZ hS.1, hT⟩ ⟨Nat.le_of_ble_eq_true rfl, Nat.le_of_ble_eq_true rfl⟩ rfl hl.1 rfl (Nat.le_of_ble_eq_true rfl) dX10_pathLine_214 ⟨Nat.le_of_ble_eq_true rfl, Nat.le_of_ble_eq_true rfl⟩) hS (fun r_442 G_442 H locs hF_442 hr_442 hT hS => ?_)
          have hF := hF.tr hF_442 rfl
          have k_443 : p4 = G_442.1 paa 4 := k_436.trans (hF_442.i h_paa (by decide) rfl _).symm
          obtain ⟨hr_442_p0, hr_442_p1, hr_442_p2, hr_442_s0⟩ := hr_442
          have k_446 : tp = G_442.1 a 6 := k_437.trans hr_442_s0.symm
          obtain ⟨z_447, ez_447, hr_442_p0, hr_442_p1, hr_442_p2⟩ : ∃ z_447 : Int32, z_447 = G_442.1 a 7 ∧ (z_434.toInt ≤ z_447.toInt) ∧ (z_447.toInt ≤ tp.toInt) ∧ (r_442.toInt = (1 : Int) ∨ ((1 : Int) ≤ r_442.toInt ∧ r_442.toInt ≤ (30 : Int))) := ⟨_, rfl, hr_442_p0, hr_442_p1, hr_442_p2⟩
          have rz_447 : 0 ≤ z_447.toInt ∧ z_447.toInt ≤ 1600 := by rw [ez_447]; exact hT.rgi h_a (by decide) 7
          refine t_iast (n := 120) (i := z_441) (x := r_442) rfl (by decide) hx hb hK hT hS hq_415 (hT.len hq_415 (by decide)) ⟨by omega, by omega⟩ trivial dX10_pathLine_217 (fun H locs G_448 eG_448 hT hS => ?_)
          have hF := hF.wI eG_448 hq_415 rfl
          have k_449 : p4 = G_448.1 paa 4 := by rw [eG_448, wI_ne (Or.inl (tag_ne hq_415 h_paa (by decide)))]; exact k_443
          have k_450 : tp = G_448.1 a 6 := by rw [eG_448, wI_ne (Or.inl (tag_ne hq_415 h_a (by decide)))]; exact k_446
          have k_451 : z_447 = G_448.1 a 7 := by rw [eG_448, wI_ne (Or.inl (tag_ne hq_415 h_a (by decide)))]; exact ez_447
          refine lv_aload_n hx hb dX10_pathLine_218 rfl (lv_at hl 4 rfl) ?_
          refine t_getr cf_11 hx hb hts hown hK hT h_a (k := 22) (P := fun q => τ q = 72) rfl (fun _ h9 => h9) fl_X10_49 (fun _ h9 => h9) dX10_pathLine_219 (fun q_452 eq_452 hq_452 => ?_)
          have w_453 : paa = q_452 := Option.some.inj (e_paa.symm.trans ((hF.r h_a (by decide) rfl _).symm.trans eq_452))
          subst w_453
          refine lv_iconst (v := 4) hx hb dX10_pathLine_222 (by decide) ?_
          refine lv_dup2_11 hx hb dX10_pathLine_223 rfl rfl ?_
          refine t_iald (n := 5) (i := 4) rfl (by decide) hx hb hK hT h_paa (hT.len h_paa (by decide)) ⟨by decide, by decide⟩ dX10_pathLine_224 (fun z_454 ez_454 rz_454 => ?_)
          have w_455 : p4 = z_454 := k_449.trans ez_454.symm
          subst w_455
          refine lv_iconst (v := 1) hx hb dX10_pathLine_225 (by decide) ?_
          refine lv_iadd hx hb dX10_pathLine_226 ?_
          refine lv_topi (fun z_456 ez_456 => ?_)
          have tz_456 : z_456.toInt = p4.toInt + 1 := add_t ez_456 (show -2147483648 ≤ p4.toInt + 1 by omega) (show p4.toInt + 1 < 2147483648 by omega)
          refine t_iast (n := 5) (i := 4) (x := z_456) rfl (by decide) hx hb hK hT hS h_paa (hT.len h_paa (by decide)) ⟨by decide, by decide⟩ (show 0 ≤ z_456.toInt ∧ z_456.toInt ≤ 8 from ⟨by omega, by omega⟩) dX10_pathLine_227 (fun H locs G_457 eG_457 hT hS => ?_)
          have hF := hF.wI eG_457 h_paa rfl
          have eG_457 : G_457 = wI G_448 paa 4 z_456 := eG_457
          have k_459 : tp = G_457.1 a 6 := by rw [eG_457, wI_ne (Or.inl (tag_ne h_paa h_a (by decide)))]; exact k_450
          have k_460 : z_447 = G_457.1 a 7 := by rw [eG_457, wI_ne (Or.inl (tag_ne h_paa h_a (by decide)))]; exact k_451
          have k_461 : z_456 = G_457.1 paa 4 := by rw [eG_457, wI_at]
          exact ret_v hx hb hr hlocks ⟨⟨hS.1, hS.2.1⟩, G_457, hF, ⟨rfl, ⟨(by first | (show a0.toInt ≤ (G_457.1 a 7).toInt; rw [← k_460]; done) | (show a0.toInt ≤ (G_457.1 a 7).toInt; rw [← k_460]; show a0.toInt ≤ z_447.toInt; first | omega | assumption)), (by first | (show (G_457.1 a 7).toInt ≤ tp.toInt; rw [← k_460]; done) | (show (G_457.1 a 7).toInt ≤ tp.toInt; rw [← k_460]; show z_447.toInt ≤ tp.toInt; first | omega | assumption)), (k_459.symm.trans e_tp)⟩⟩, hT⟩ hS.2.2 (Nat.le_of_ble_eq_true rfl) (Nat.le_of_ble_eq_true rfl) dX10_pathLine_228
        · skip
          have tc_414 : ¬ x408_3.toInt = 0 := fun h => c_414 ((fa_eq _ _).mpr h)
          refine lv_aload_n hx hb dX10_pathLine_167 rfl (lv_at hl 4 rfl) ?_
          refine lv_iconst (v := 2) hx hb dX10_pathLine_168 (by decide) ?_
          obtain ⟨z_462, ez_462⟩ : ∃ y : Int32, y = G_408.1 a 8 := ⟨_, rfl⟩
          obtain ⟨z_463, ez_463⟩ : ∃ y : Int32, y = G_408.1 a 12 := ⟨_, rfl⟩
          refine t_callv (runV (As := [.int 2]) (rest := []) ⟨hx, hb, hml, hown, hts⟩ (t_X10_fails l D cy base τ G_408 a h_a 2 (by decide) tp i408_6 ⟨by omega, by omega⟩ x408_at i408_8 ⟨by omega, by omega⟩ z_462 ez_462 z_463 ez_463) sV_X10_179 hK (t_recv cf_11 hK hT h_a) ⟨Nat.le_trans hZ hS.1, hT⟩ ⟨Nat.le_of_ble_eq_true rfl, Nat.le_of_ble_eq_true rfl⟩ rfl hl.1 rfl (Nat.le_of_ble_eq_true rfl) dX10_pathLine_169 ⟨Nat.le_of_ble_eq_true rfl, Nat.le_of_ble_eq_true rfl⟩) hS (fun G_464 H locs hF_464 hr_464 hT hS => ?_)
          have hF := hF.tr hF_464 rfl
          have k_466 : p4 = G_464.1 paa 4 := i408_7.trans (hF_464.i h_paa (by decide) rfl _).symm
          obtain ⟨hr_464_p0, hr_464_s0, hr_464_s1, hr_464_s2⟩ := hr_464
          have k_470 : tp = G_464.1 a 6 := i408_6.trans hr_464_s0.symm
          have k_471 : x408_at = G_464.1 a 7 := i408_8.trans hr_464_s1.symm
          have k_472 : z_462 = G_464.1 a 8 := ez_462.trans hr_464_s2.symm
          obtain ⟨z_473, ez_473, hr_464_p0⟩ : ∃ z_473 : Int32, z_473 = G_464.1 a 12 ∧ (z_473.toInt ≠ 0) := ⟨_, rfl, hr_464_p0⟩
          refine lv_aload_n hx hb dX10_pathLine_172 rfl (lv_at hl 4 rfl) ?_
          refine t_getr cf_11 hx hb hts hown hK hT h_a (k := 23) (P := fun q => τ q = 73) rfl (fun _ h9 => h9) fl_X10_52 (fun _ h9 => h9) dX10_pathLine_173 (fun q_474 eq_474 hq_474 => ?_)
          have eq_474 := (hF.r h_a (by decide) rfl _).symm.trans eq_474
          refine lv_iload_n hx hb dX10_pathLine_176 rfl (lv_at hl 3 rfl) ?_
          refine lv_iload_n hx hb dX10_pathLine_177 rfl (lv_at hl 2 rfl) ?_
          refine t_iast (n := 120) (i := z_6) (x := r_10) rfl (by decide) hx hb hK hT hS hq_474 (hT.len hq_474 (by decide)) ⟨by omega, by omega⟩ trivial dX10_pathLine_178 (fun H locs G_475 eG_475 hT hS => ?_)
          have hF := hF.wI eG_475 hq_474 rfl
          have k_476 : p4 = G_475.1 paa 4 := by rw [eG_475, wI_ne (Or.inl (tag_ne hq_474 h_paa (by decide)))]; exact k_466
          have k_477 : tp = G_475.1 a 6 := by rw [eG_475, wI_ne (Or.inl (tag_ne hq_474 h_a (by decide)))]; exact k_470
          have k_478 : x408_at = G_475.1 a 7 := by rw [eG_475, wI_ne (Or.inl (tag_ne hq_474 h_a (by decide)))]; exact k_471
          have k_479 : z_462 = G_475.1 a 8 := by rw [eG_475, wI_ne (Or.inl (tag_ne hq_474 h_a (by decide)))]; exact k_472
          have k_480 : z_473 = G_475.1 a 12 := by rw [eG_475, wI_ne (Or.inl (tag_ne hq_474 h_a (by decide)))]; exact ez_473
          refine lv_aload_n hx hb dX10_pathLine_179 rfl (lv_at hl 4 rfl) ?_
          refine t_getr cf_11 hx hb hts hown hK hT h_a (k := 23) (P := fun q => τ q = 73) rfl (fun _ h9 => h9) fl_X10_52 (fun _ h9 => h9) dX10_pathLine_180 (fun q_481 eq_481 hq_481 => ?_)
          have w_482 : q_474 = q_481 := Option.some.inj (eq_474.symm.trans ((hF.r h_a (by decide) rfl _).symm.trans eq_481))
          subst w_482
          refine lv_iload_n hx hb dX10_pathLine_183 rfl (lv_at hl 3 rfl) ?_
          refine lv_iconst (v := 1) hx hb dX10_pathLine_184 (by decide) ?_
          refine lv_iadd hx hb dX10_pathLine_185 ?_
          refine lv_topi (fun z_483 ez_483 => ?_)
          have tz_483 : z_483.toInt = z_6.toInt + 1 := add_t ez_483 (show -2147483648 ≤ z_6.toInt + 1 by omega) (show z_6.toInt + 1 < 2147483648 by omega)
          refine lv_aload_n hx hb dX10_pathLine_186 rfl (lv_at hl 4 rfl) ?_
          refine lv_iconst (v := 0) hx hb dX10_pathLine_187 (by decide) ?_
          refine lv_aload_n hx hb dX10_pathLine_188 rfl (lv_at hl 4 rfl) ?_
          refine t_getr cf_11 hx hb hts hown hK hT h_a (k := 20) (P := fun q => τ q = 70) rfl (fun _ h9 => h9) fl_X10_43 (fun _ h9 => h9) dX10_pathLine_189 (fun q_484 eq_484 hq_484 => ?_)
          have w_485 : q_7 = q_484 := Option.some.inj (eq_7.symm.trans ((hF.r h_a (by decide) rfl _).symm.trans eq_484))
          subst w_485
          refine lv_iconst (v := 4) hx hb dX10_pathLine_192 (by decide) ?_
          refine t_iald (n := 5) (i := 4) rfl (by decide) hx hb hK hT hq_7 (hT.len hq_7 (by decide)) ⟨by decide, by decide⟩ dX10_pathLine_193 (fun z_486 ez_486 rz_486 => ?_)
          have w_487 : z_8 = z_486 := ez_8.trans (ez_486.trans (hF.i hq_7 (by decide) rfl _)).symm
          subst w_487
          refine lv_iconst (v := 1) hx hb dX10_pathLine_194 (by decide) ?_
          refine lv_isub hx hb dX10_pathLine_195 ?_
          refine lv_topi (fun z_488 ez_488 => ?_)
          have w_489 : z_9 = z_488 := ez_9.trans ez_488.symm
          subst w_489
          refine t_calli (runV (As := [.int 0, .int z_9]) (rest := [.int z_483, .ref q_474]) ⟨hx, hb, hml, hown, hts⟩ (t_X10_number l D cy base τ G_475 a h_a 0 z_9 tp k_477 ⟨by omega, by omega⟩ x408_at k_478 ⟨by omega, by omega⟩ (by show x408_at.toInt ≤ tp.toInt; first | assumption | omega | decide)) sV_X10_186 hK (t_recv cf_11 hK hT h_a) ⟨Nat.le_trans hZ hS.1, hT⟩ ⟨Nat.le_of_ble_eq_true rfl, Nat.le_of_ble_eq_true rfl⟩ rfl hl.1 rfl (Nat.le_of_ble_eq_true rfl) dX10_pathLine_196 ⟨Nat.le_of_ble_eq_true rfl, Nat.le_of_ble_eq_true rfl⟩) hS (fun r_490 G_490 H locs hF_490 hr_490 hT hS => ?_)
          have hF := hF.tr hF_490 rfl
          have k_491 : p4 = G_490.1 paa 4 := k_476.trans (hF_490.i h_paa (by decide) rfl _).symm
          obtain ⟨hr_490_p0, hr_490_p1, hr_490_p2, hr_490_s0⟩ := hr_490
          have k_496 : tp = G_490.1 a 6 := k_477.trans hr_490_s0.symm
          obtain ⟨z_497, ez_497, hr_490_p0, hr_490_p1, hr_490_p2⟩ : ∃ z_497 : Int32, z_497 = G_490.1 a 7 ∧ (x408_at.toInt ≤ z_497.toInt) ∧ (z_497.toInt ≤ tp.toInt) ∧ (r_490.toInt = (0 : Int) ∨ ((0 : Int) ≤ r_490.toInt ∧ r_490.toInt ≤ z_9.toInt)) := ⟨_, rfl, hr_490_p0, hr_490_p1, hr_490_p2⟩
          have rz_497 : 0 ≤ z_497.toInt ∧ z_497.toInt ≤ 1600 := by rw [ez_497]; exact hT.rgi h_a (by decide) 7
          refine t_iast (n := 120) (i := z_483) (x := r_490) rfl (by decide) hx hb hK hT hS hq_474 (hT.len hq_474 (by decide)) ⟨by omega, by omega⟩ trivial dX10_pathLine_199 (fun H locs G_498 eG_498 hT hS => ?_)
          have hF := hF.wI eG_498 hq_474 rfl
          have k_499 : p4 = G_498.1 paa 4 := by rw [eG_498, wI_ne (Or.inl (tag_ne hq_474 h_paa (by decide)))]; exact k_491
          have k_500 : tp = G_498.1 a 6 := by rw [eG_498, wI_ne (Or.inl (tag_ne hq_474 h_a (by decide)))]; exact k_496
          have k_501 : z_497 = G_498.1 a 7 := by rw [eG_498, wI_ne (Or.inl (tag_ne hq_474 h_a (by decide)))]; exact ez_497
          refine lv_aload_n hx hb dX10_pathLine_200 rfl (lv_at hl 4 rfl) ?_
          refine t_getr cf_11 hx hb hts hown hK hT h_a (k := 23) (P := fun q => τ q = 73) rfl (fun _ h9 => h9) fl_X10_52 (fun _ h9 => h9) dX10_pathLine_201 (fun q_502 eq_502 hq_502 => ?_)
          have w_503 : q_474 = q_502 := Option.some.inj (eq_474.symm.trans ((hF.r h_a (by decide) rfl _).symm.trans eq_502))
          subst w_503
          refine lv_iload_n hx hb dX10_pathLine_204 rfl (lv_at hl 3 rfl) ?_
          refine lv_iconst (v := 2) hx hb dX10_pathLine_205 (by decide) ?_
          refine lv_iadd hx hb dX10_pathLine_206 ?_
          refine lv_topi (fun z_504 ez_504 => ?_)
          have tz_504 : z_504.toInt = z_6.toInt + 2 := add_t ez_504 (show -2147483648 ≤ z_6.toInt + 2 by omega) (show z_6.toInt + 2 < 2147483648 by omega)
          refine lv_aload_n hx hb dX10_pathLine_207 rfl (lv_at hl 4 rfl) ?_
          refine lv_ldc2 (v := 80155) hx hb hown (hts _ kl_X10_195) dX10_pathLine_208 ?_
          refine lv_iconst (v := 1) hx hb dX10_pathLine_211 (by decide) ?_
          refine lv_bipush (v := 30) hx hb dX10_pathLine_212 (by decide) ?_
          refine t_calli (runV (As := [.long 80155, .int 1, .int 30]) (rest := [.int z_504, .ref q_474]) ⟨hx, hb, hml, hown, hts⟩ (t_X10_number_ l D cy base τ G_498 a h_a 80155 1 30 tp k_500 ⟨by omega, by omega⟩ z_497 k_501 ⟨by omega, by omega⟩ (by show z_497.toInt ≤ tp.toInt; first | assumption | omega | decide)) sV_X10_197 hK (t_recv cf_11 hK hT h_a) ⟨Nat.le_trans hZ hS.1, hT⟩ ⟨Nat.le_of_ble_eq_true rfl, Nat.le_of_ble_eq_true rfl⟩ rfl hl.1 rfl (Nat.le_of_ble_eq_true rfl) dX10_pathLine_214 ⟨Nat.le_of_ble_eq_true rfl, Nat.le_of_ble_eq_true rfl⟩) hS (fun r_505 G_505 H locs hF_505 hr_505 hT hS => ?_)
          have hF := hF.tr hF_505 rfl
          have k_506 : p4 = G_505.1 paa 4 := k_499.trans (hF_505.i h_paa (by decide) rfl _).symm
          obtain ⟨hr_505_p0, hr_505_p1, hr_505_p2, hr_505_s0⟩ := hr_505
          have k_509 : tp = G_505.1 a 6 := k_500.trans hr_505_s0.symm
          obtain ⟨z_510, ez_510, hr_505_p0, hr_505_p1, hr_505_p2⟩ : ∃ z_510 : Int32, z_510 = G_505.1 a 7 ∧ (z_497.toInt ≤ z_510.toInt) ∧ (z_510.toInt ≤ tp.toInt) ∧ (r_505.toInt = (1 : Int) ∨ ((1 : Int) ≤ r_505.toInt ∧ r_505.toInt ≤ (30 : Int))) := ⟨_, rfl, hr_505_p0, hr_505_p1, hr_505_p2⟩
          have rz_510 : 0 ≤ z_510.toInt ∧ z_510.toInt ≤ 1600 := by rw [ez_510]; exact hT.rgi h_a (by decide) 7
          refine t_iast (n := 120) (i := z_504) (x := r_505) rfl (by decide) hx hb hK hT hS hq_474 (hT.len hq_474 (by decide)) ⟨by omega, by omega⟩ trivial dX10_pathLine_217 (fun H locs G_511 eG_511 hT hS => ?_)
          have hF := hF.wI eG_511 hq_474 rfl
          have k_512 : p4 = G_511.1 paa 4 := by rw [eG_511, wI_ne (Or.inl (tag_ne hq_474 h_paa (by decide)))]; exact k_506
          have k_513 : tp = G_511.1 a 6 := by rw [eG_511, wI_ne (Or.inl (tag_ne hq_474 h_a (by decide)))]; exact k_509
          have k_514 : z_510 = G_511.1 a 7 := by rw [eG_511, wI_ne (Or.inl (tag_ne hq_474 h_a (by decide)))]; exact ez_510
          refine lv_aload_n hx hb dX10_pathLine_218 rfl (lv_at hl 4 rfl) ?_
          refine t_getr cf_11 hx hb hts hown hK hT h_a (k := 22) (P := fun q => τ q = 72) rfl (fun _ h9 => h9) fl_X10_49 (fun _ h9 => h9) dX10_pathLine_219 (fun q_515 eq_515 hq_515 => ?_)
          have w_516 : paa = q_515 := Option.some.inj (e_paa.symm.trans ((hF.r h_a (by decide) rfl _).symm.trans eq_515))
          subst w_516
          refine lv_iconst (v := 4) hx hb dX10_pathLine_222 (by decide) ?_
          refine lv_dup2_11 hx hb dX10_pathLine_223 rfl rfl ?_
          refine t_iald (n := 5) (i := 4) rfl (by decide) hx hb hK hT h_paa (hT.len h_paa (by decide)) ⟨by decide, by decide⟩ dX10_pathLine_224 (fun z_517 ez_517 rz_517 => ?_)
          have w_518 : p4 = z_517 := k_512.trans ez_517.symm
          subst w_518
          refine lv_iconst (v := 1) hx hb dX10_pathLine_225 (by decide) ?_
          refine lv_iadd hx hb dX10_pathLine_226 ?_
          refine lv_topi (fun z_519 ez_519 => ?_)
          have tz_519 : z_519.toInt = p4.toInt + 1 := add_t ez_519 (show -2147483648 ≤ p4.toInt + 1 by omega) (show p4.toInt + 1 < 2147483648 by omega)
          refine t_iast (n := 5) (i := 4) (x := z_519) rfl (by decide) hx hb hK hT hS h_paa (hT.len h_paa (by decide)) ⟨by decide, by decide⟩ (show 0 ≤ z_519.toInt ∧ z_519.toInt ≤ 8 from ⟨by omega, by omega⟩) dX10_pathLine_227 (fun H locs G_520 eG_520 hT hS => ?_)
          have hF := hF.wI eG_520 h_paa rfl
          have eG_520 : G_520 = wI G_511 paa 4 z_519 := eG_520
          have k_522 : tp = G_520.1 a 6 := by rw [eG_520, wI_ne (Or.inl (tag_ne h_paa h_a (by decide)))]; exact k_513
          have k_523 : z_510 = G_520.1 a 7 := by rw [eG_520, wI_ne (Or.inl (tag_ne h_paa h_a (by decide)))]; exact k_514
          have k_524 : z_519 = G_520.1 paa 4 := by rw [eG_520, wI_at]
          exact ret_v hx hb hr hlocks ⟨⟨hS.1, hS.2.1⟩, G_520, hF, ⟨rfl, ⟨(by first | (show a0.toInt ≤ (G_520.1 a 7).toInt; rw [← k_523]; done) | (show a0.toInt ≤ (G_520.1 a 7).toInt; rw [← k_523]; show a0.toInt ≤ z_510.toInt; first | omega | assumption)), (by first | (show (G_520.1 a 7).toInt ≤ tp.toInt; rw [← k_523]; done) | (show (G_520.1 a 7).toInt ≤ tp.toInt; rw [← k_523]; show z_510.toInt ≤ tp.toInt; first | omega | assumption)), (k_522.symm.trans e_tp)⟩⟩, hT⟩ hS.2.2 (Nat.le_of_ble_eq_true rfl) (Nat.le_of_ble_eq_true rfl) dX10_pathLine_228
      · skip
        have tc_413 : ¬ p4.toInt ≤ x408_4.toInt := fun h => c_413 ((fa_le _ _).mpr h)
        refine lv_aload_n hx hb dX10_pathLine_69 rfl (lv_at hl 4 rfl) ?_
        refine t_geti cf_11 hx hb hts hown hK hT h_a (k := 12) rfl fl_X10_163 (fun _ h9 => h9) dX10_pathLine_70 (fun z_525 ez_525 rz_525 => ?_)
        have ez_525 : z_525 = G_408.1 a 12 := ez_525
        refine lv_if_ne (tgt := 163) hx hb dX10_pathLine_73 (by decide) (fun c_526 => ?_) (fun c_526 => ?_)
        · skip
          have tc_526 : ¬ z_525.toInt = 0 := fun h => c_526 ((fa_eq _ _).mpr h)
          refine lv_iload_n hx hb dX10_pathLine_163 rfl (lv_at hl 0 rfl) ?_
          refine lv_if_eq (tgt := 172) hx hb dX10_pathLine_164 (by decide) (fun c_527 => ?_) (fun c_527 => ?_)
          · skip
            have tc_527 : x408_3.toInt = 0 := (fa_eq _ _).mp c_527
            refine lv_aload_n hx hb dX10_pathLine_172 rfl (lv_at hl 4 rfl) ?_
            refine t_getr cf_11 hx hb hts hown hK hT h_a (k := 23) (P := fun q => τ q = 73) rfl (fun _ h9 => h9) fl_X10_52 (fun _ h9 => h9) dX10_pathLine_173 (fun q_528 eq_528 hq_528 => ?_)
            have eq_528 := (hF.r h_a (by decide) rfl _).symm.trans eq_528
            refine lv_iload_n hx hb dX10_pathLine_176 rfl (lv_at hl 3 rfl) ?_
            refine lv_iload_n hx hb dX10_pathLine_177 rfl (lv_at hl 2 rfl) ?_
            refine t_iast (n := 120) (i := z_6) (x := r_10) rfl (by decide) hx hb hK hT hS hq_528 (hT.len hq_528 (by decide)) ⟨by omega, by omega⟩ trivial dX10_pathLine_178 (fun H locs G_529 eG_529 hT hS => ?_)
            have hF := hF.wI eG_529 hq_528 rfl
            have k_530 : tp = G_529.1 a 6 := by rw [eG_529, wI_ne (Or.inl (tag_ne hq_528 h_a (by decide)))]; exact i408_6
            have k_531 : p4 = G_529.1 paa 4 := by rw [eG_529, wI_ne (Or.inl (tag_ne hq_528 h_paa (by decide)))]; exact i408_7
            have k_532 : x408_at = G_529.1 a 7 := by rw [eG_529, wI_ne (Or.inl (tag_ne hq_528 h_a (by decide)))]; exact i408_8
            have k_533 : z_525 = G_529.1 a 12 := by rw [eG_529, wI_ne (Or.inl (tag_ne hq_528 h_a (by decide)))]; exact ez_525
            refine lv_aload_n hx hb dX10_pathLine_179 rfl (lv_at hl 4 rfl) ?_
            refine t_getr cf_11 hx hb hts hown hK hT h_a (k := 23) (P := fun q => τ q = 73) rfl (fun _ h9 => h9) fl_X10_52 (fun _ h9 => h9) dX10_pathLine_180 (fun q_534 eq_534 hq_534 => ?_)
            have w_535 : q_528 = q_534 := Option.some.inj (eq_528.symm.trans ((hF.r h_a (by decide) rfl _).symm.trans eq_534))
            subst w_535
            refine lv_iload_n hx hb dX10_pathLine_183 rfl (lv_at hl 3 rfl) ?_
            refine lv_iconst (v := 1) hx hb dX10_pathLine_184 (by decide) ?_
            refine lv_iadd hx hb dX10_pathLine_185 ?_
            refine lv_topi (fun z_536 ez_536 => ?_)
            have tz_536 : z_536.toInt = z_6.toInt + 1 := add_t ez_536 (show -2147483648 ≤ z_6.toInt + 1 by omega) (show z_6.toInt + 1 < 2147483648 by omega)
            refine lv_aload_n hx hb dX10_pathLine_186 rfl (lv_at hl 4 rfl) ?_
            refine lv_iconst (v := 0) hx hb dX10_pathLine_187 (by decide) ?_
            refine lv_aload_n hx hb dX10_pathLine_188 rfl (lv_at hl 4 rfl) ?_
            refine t_getr cf_11 hx hb hts hown hK hT h_a (k := 20) (P := fun q => τ q = 70) rfl (fun _ h9 => h9) fl_X10_43 (fun _ h9 => h9) dX10_pathLine_189 (fun q_537 eq_537 hq_537 => ?_)
            have w_538 : q_7 = q_537 := Option.some.inj (eq_7.symm.trans ((hF.r h_a (by decide) rfl _).symm.trans eq_537))
            subst w_538
            refine lv_iconst (v := 4) hx hb dX10_pathLine_192 (by decide) ?_
            refine t_iald (n := 5) (i := 4) rfl (by decide) hx hb hK hT hq_7 (hT.len hq_7 (by decide)) ⟨by decide, by decide⟩ dX10_pathLine_193 (fun z_539 ez_539 rz_539 => ?_)
            have w_540 : z_8 = z_539 := ez_8.trans (ez_539.trans (hF.i hq_7 (by decide) rfl _)).symm
            subst w_540
            refine lv_iconst (v := 1) hx hb dX10_pathLine_194 (by decide) ?_
            refine lv_isub hx hb dX10_pathLine_195 ?_
            refine lv_topi (fun z_541 ez_541 => ?_)
            have w_542 : z_9 = z_541 := ez_9.trans ez_541.symm
            subst w_542
            refine t_calli (runV (As := [.int 0, .int z_9]) (rest := [.int z_536, .ref q_528]) ⟨hx, hb, hml, hown, hts⟩ (t_X10_number l D cy base τ G_529 a h_a 0 z_9 tp k_530 ⟨by omega, by omega⟩ x408_at k_532 ⟨by omega, by omega⟩ (by show x408_at.toInt ≤ tp.toInt; first | assumption | omega | decide)) sV_X10_186 hK (t_recv cf_11 hK hT h_a) ⟨Nat.le_trans hZ hS.1, hT⟩ ⟨Nat.le_of_ble_eq_true rfl, Nat.le_of_ble_eq_true rfl⟩ rfl hl.1 rfl (Nat.le_of_ble_eq_true rfl) dX10_pathLine_196 ⟨Nat.le_of_ble_eq_true rfl, Nat.le_of_ble_eq_true rfl⟩) hS (fun r_543 G_543 H locs hF_543 hr_543 hT hS => ?_)
            have hF := hF.tr hF_543 rfl
            have k_545 : p4 = G_543.1 paa 4 := k_531.trans (hF_543.i h_paa (by decide) rfl _).symm
            obtain ⟨hr_543_p0, hr_543_p1, hr_543_p2, hr_543_s0⟩ := hr_543
            have k_548 : tp = G_543.1 a 6 := k_530.trans hr_543_s0.symm
            obtain ⟨z_549, ez_549, hr_543_p0, hr_543_p1, hr_543_p2⟩ : ∃ z_549 : Int32, z_549 = G_543.1 a 7 ∧ (x408_at.toInt ≤ z_549.toInt) ∧ (z_549.toInt ≤ tp.toInt) ∧ (r_543.toInt = (0 : Int) ∨ ((0 : Int) ≤ r_543.toInt ∧ r_543.toInt ≤ z_9.toInt)) := ⟨_, rfl, hr_543_p0, hr_543_p1, hr_543_p2⟩
            have rz_549 : 0 ≤ z_549.toInt ∧ z_549.toInt ≤ 1600 := by rw [ez_549]; exact hT.rgi h_a (by decide) 7
            refine t_iast (n := 120) (i := z_536) (x := r_543) rfl (by decide) hx hb hK hT hS hq_528 (hT.len hq_528 (by decide)) ⟨by omega, by omega⟩ trivial dX10_pathLine_199 (fun H locs G_550 eG_550 hT hS => ?_)
            have hF := hF.wI eG_550 hq_528 rfl
            have k_551 : p4 = G_550.1 paa 4 := by rw [eG_550, wI_ne (Or.inl (tag_ne hq_528 h_paa (by decide)))]; exact k_545
            have k_552 : tp = G_550.1 a 6 := by rw [eG_550, wI_ne (Or.inl (tag_ne hq_528 h_a (by decide)))]; exact k_548
            have k_553 : z_549 = G_550.1 a 7 := by rw [eG_550, wI_ne (Or.inl (tag_ne hq_528 h_a (by decide)))]; exact ez_549
            refine lv_aload_n hx hb dX10_pathLine_200 rfl (lv_at hl 4 rfl) ?_
            refine t_getr cf_11 hx hb hts hown hK hT h_a (k := 23) (P := fun q => τ q = 73) rfl (fun _ h9 => h9) fl_X10_52 (fun _ h9 => h9) dX10_pathLine_201 (fun q_554 eq_554 hq_554 => ?_)
            have w_555 : q_528 = q_554 := Option.some.inj (eq_528.symm.trans ((hF.r h_a (by decide) rfl _).symm.trans eq_554))
            subst w_555
            refine lv_iload_n hx hb dX10_pathLine_204 rfl (lv_at hl 3 rfl) ?_
            refine lv_iconst (v := 2) hx hb dX10_pathLine_205 (by decide) ?_
            refine lv_iadd hx hb dX10_pathLine_206 ?_
            refine lv_topi (fun z_556 ez_556 => ?_)
            have tz_556 : z_556.toInt = z_6.toInt + 2 := add_t ez_556 (show -2147483648 ≤ z_6.toInt + 2 by omega) (show z_6.toInt + 2 < 2147483648 by omega)
            refine lv_aload_n hx hb dX10_pathLine_207 rfl (lv_at hl 4 rfl) ?_
            refine lv_ldc2 (v := 80155) hx hb hown (hts _ kl_X10_195) dX10_pathLine_208 ?_
            refine lv_iconst (v := 1) hx hb dX10_pathLine_211 (by decide) ?_
            refine lv_bipush (v := 30) hx hb dX10_pathLine_212 (by decide) ?_
            refine t_calli (runV (As := [.long 80155, .int 1, .int 30]) (rest := [.int z_556, .ref q_528]) ⟨hx, hb, hml, hown, hts⟩ (t_X10_number_ l D cy base τ G_550 a h_a 80155 1 30 tp k_552 ⟨by omega, by omega⟩ z_549 k_553 ⟨by omega, by omega⟩ (by show z_549.toInt ≤ tp.toInt; first | assumption | omega | decide)) sV_X10_197 hK (t_recv cf_11 hK hT h_a) ⟨Nat.le_trans hZ hS.1, hT⟩ ⟨Nat.le_of_ble_eq_true rfl, Nat.le_of_ble_eq_true rfl⟩ rfl hl.1 rfl (Nat.le_of_ble_eq_true rfl) dX10_pathLine_214 ⟨Nat.le_of_ble_eq_true rfl, Nat.le_of_ble_eq_true rfl⟩) hS (fun r_557 G_557 H locs hF_557 hr_557 hT hS => ?_)
            have hF := hF.tr hF_557 rfl
            have k_558 : p4 = G_557.1 paa 4 := k_551.trans (hF_557.i h_paa (by decide) rfl _).symm
            obtain ⟨hr_557_p0, hr_557_p1, hr_557_p2, hr_557_s0⟩ := hr_557
            have k_561 : tp = G_557.1 a 6 := k_552.trans hr_557_s0.symm
            obtain ⟨z_562, ez_562, hr_557_p0, hr_557_p1, hr_557_p2⟩ : ∃ z_562 : Int32, z_562 = G_557.1 a 7 ∧ (z_549.toInt ≤ z_562.toInt) ∧ (z_562.toInt ≤ tp.toInt) ∧ (r_557.toInt = (1 : Int) ∨ ((1 : Int) ≤ r_557.toInt ∧ r_557.toInt ≤ (30 : Int))) := ⟨_, rfl, hr_557_p0, hr_557_p1, hr_557_p2⟩
            have rz_562 : 0 ≤ z_562.toInt ∧ z_562.toInt ≤ 1600 := by rw [ez_562]; exact hT.rgi h_a (by decide) 7
            refine t_iast (n := 120) (i := z_556) (x := r_557) rfl (by decide) hx hb hK hT hS hq_528 (hT.len hq_528 (by decide)) ⟨by omega, by omega⟩ trivial dX10_pathLine_217 (fun H locs G_563 eG_563 hT hS => ?_)
            have hF := hF.wI eG_563 hq_528 rfl
            have k_564 : p4 = G_563.1 paa 4 := by rw [eG_563, wI_ne (Or.inl (tag_ne hq_528 h_paa (by decide)))]; exact k_558
            have k_565 : tp = G_563.1 a 6 := by rw [eG_563, wI_ne (Or.inl (tag_ne hq_528 h_a (by decide)))]; exact k_561
            have k_566 : z_562 = G_563.1 a 7 := by rw [eG_563, wI_ne (Or.inl (tag_ne hq_528 h_a (by decide)))]; exact ez_562
            refine lv_aload_n hx hb dX10_pathLine_218 rfl (lv_at hl 4 rfl) ?_
            refine t_getr cf_11 hx hb hts hown hK hT h_a (k := 22) (P := fun q => τ q = 72) rfl (fun _ h9 => h9) fl_X10_49 (fun _ h9 => h9) dX10_pathLine_219 (fun q_567 eq_567 hq_567 => ?_)
            have w_568 : paa = q_567 := Option.some.inj (e_paa.symm.trans ((hF.r h_a (by decide) rfl _).symm.trans eq_567))
            subst w_568
            refine lv_iconst (v := 4) hx hb dX10_pathLine_222 (by decide) ?_
            refine lv_dup2_11 hx hb dX10_pathLine_223 rfl rfl ?_
            refine t_iald (n := 5) (i := 4) rfl (by decide) hx hb hK hT h_paa (hT.len h_paa (by decide)) ⟨by decide, by decide⟩ dX10_pathLine_224 (fun z_569 ez_569 rz_569 => ?_)
            have w_570 : p4 = z_569 := k_564.trans ez_569.symm
            subst w_570
            refine lv_iconst (v := 1) hx hb dX10_pathLine_225 (by decide) ?_
            refine lv_iadd hx hb dX10_pathLine_226 ?_
            refine lv_topi (fun z_571 ez_571 => ?_)
            have tz_571 : z_571.toInt = p4.toInt + 1 := add_t ez_571 (show -2147483648 ≤ p4.toInt + 1 by omega) (show p4.toInt + 1 < 2147483648 by omega)
            refine t_iast (n := 5) (i := 4) (x := z_571) rfl (by decide) hx hb hK hT hS h_paa (hT.len h_paa (by decide)) ⟨by decide, by decide⟩ (show 0 ≤ z_571.toInt ∧ z_571.toInt ≤ 8 from ⟨by omega, by omega⟩) dX10_pathLine_227 (fun H locs G_572 eG_572 hT hS => ?_)
            have hF := hF.wI eG_572 h_paa rfl
            have eG_572 : G_572 = wI G_563 paa 4 z_571 := eG_572
            have k_574 : tp = G_572.1 a 6 := by rw [eG_572, wI_ne (Or.inl (tag_ne h_paa h_a (by decide)))]; exact k_565
            have k_575 : z_562 = G_572.1 a 7 := by rw [eG_572, wI_ne (Or.inl (tag_ne h_paa h_a (by decide)))]; exact k_566
            have k_576 : z_571 = G_572.1 paa 4 := by rw [eG_572, wI_at]
            exact ret_v hx hb hr hlocks ⟨⟨hS.1, hS.2.1⟩, G_572, hF, ⟨rfl, ⟨(by first | (show a0.toInt ≤ (G_572.1 a 7).toInt; rw [← k_575]; done) | (show a0.toInt ≤ (G_572.1 a 7).toInt; rw [← k_575]; show a0.toInt ≤ z_562.toInt; first | omega | assumption)), (by first | (show (G_572.1 a 7).toInt ≤ tp.toInt; rw [← k_575]; done) | (show (G_572.1 a 7).toInt ≤ tp.toInt; rw [← k_575]; show z_562.toInt ≤ tp.toInt; first | omega | assumption)), (k_574.symm.trans e_tp)⟩⟩, hT⟩ hS.2.2 (Nat.le_of_ble_eq_true rfl) (Nat.le_of_ble_eq_true rfl) dX10_pathLine_228
          · skip
            have tc_527 : ¬ x408_3.toInt = 0 := fun h => c_527 ((fa_eq _ _).mpr h)
            refine lv_aload_n hx hb dX10_pathLine_167 rfl (lv_at hl 4 rfl) ?_
            refine lv_iconst (v := 2) hx hb dX10_pathLine_168 (by decide) ?_
            obtain ⟨z_577, ez_577⟩ : ∃ y : Int32, y = G_408.1 a 8 := ⟨_, rfl⟩
            refine t_callv (runV (As := [.int 2]) (rest := []) ⟨hx, hb, hml, hown, hts⟩ (t_X10_fails l D cy base τ G_408 a h_a 2 (by decide) tp i408_6 ⟨by omega, by omega⟩ x408_at i408_8 ⟨by omega, by omega⟩ z_577 ez_577 z_525 ez_525) sV_X10_179 hK (t_recv cf_11 hK hT h_a) ⟨Nat.le_trans hZ hS.1, hT⟩ ⟨Nat.le_of_ble_eq_true rfl, Nat.le_of_ble_eq_true rfl⟩ rfl hl.1 rfl (Nat.le_of_ble_eq_true rfl) dX10_pathLine_169 ⟨Nat.le_of_ble_eq_true rfl, Nat.le_of_ble_eq_true rfl⟩) hS (fun G_578 H locs hF_578 hr_578 hT hS => ?_)
            have hF := hF.tr hF_578 rfl
            have k_580 : p4 = G_578.1 paa 4 := i408_7.trans (hF_578.i h_paa (by decide) rfl _).symm
            obtain ⟨hr_578_p0, hr_578_s0, hr_578_s1, hr_578_s2⟩ := hr_578
            have k_584 : tp = G_578.1 a 6 := i408_6.trans hr_578_s0.symm
            have k_585 : x408_at = G_578.1 a 7 := i408_8.trans hr_578_s1.symm
            have k_586 : z_577 = G_578.1 a 8 := ez_577.trans hr_578_s2.symm
            obtain ⟨z_587, ez_587, hr_578_p0⟩ : ∃ z_587 : Int32, z_587 = G_578.1 a 12 ∧ (z_587.toInt ≠ 0) := ⟨_, rfl, hr_578_p0⟩
            refine lv_aload_n hx hb dX10_pathLine_172 rfl (lv_at hl 4 rfl) ?_
            refine t_getr cf_11 hx hb hts hown hK hT h_a (k := 23) (P := fun q => τ q = 73) rfl (fun _ h9 => h9) fl_X10_52 (fun _ h9 => h9) dX10_pathLine_173 (fun q_588 eq_588 hq_588 => ?_)
            have eq_588 := (hF.r h_a (by decide) rfl _).symm.trans eq_588
            refine lv_iload_n hx hb dX10_pathLine_176 rfl (lv_at hl 3 rfl) ?_
            refine lv_iload_n hx hb dX10_pathLine_177 rfl (lv_at hl 2 rfl) ?_
            refine t_iast (n := 120) (i := z_6) (x := r_10) rfl (by decide) hx hb hK hT hS hq_588 (hT.len hq_588 (by decide)) ⟨by omega, by omega⟩ trivial dX10_pathLine_178 (fun H locs G_589 eG_589 hT hS => ?_)
            have hF := hF.wI eG_589 hq_588 rfl
            have k_590 : p4 = G_589.1 paa 4 := by rw [eG_589, wI_ne (Or.inl (tag_ne hq_588 h_paa (by decide)))]; exact k_580
            have k_591 : tp = G_589.1 a 6 := by rw [eG_589, wI_ne (Or.inl (tag_ne hq_588 h_a (by decide)))]; exact k_584
            have k_592 : x408_at = G_589.1 a 7 := by rw [eG_589, wI_ne (Or.inl (tag_ne hq_588 h_a (by decide)))]; exact k_585
            have k_593 : z_577 = G_589.1 a 8 := by rw [eG_589, wI_ne (Or.inl (tag_ne hq_588 h_a (by decide)))]; exact k_586
            have k_594 : z_587 = G_589.1 a 12 := by rw [eG_589, wI_ne (Or.inl (tag_ne hq_588 h_a (by decide)))]; exact ez_587
            refine lv_aload_n hx hb dX10_pathLine_179 rfl (lv_at hl 4 rfl) ?_
            refine t_getr cf_11 hx hb hts hown hK hT h_a (k := 23) (P := fun q => τ q = 73) rfl (fun _ h9 => h9) fl_X10_52 (fun _ h9 => h9) dX10_pathLine_180 (fun q_595 eq_595 hq_595 => ?_)
            have w_596 : q_588 = q_595 := Option.some.inj (eq_588.symm.trans ((hF.r h_a (by decide) rfl _).symm.trans eq_595))
            subst w_596
            refine lv_iload_n hx hb dX10_pathLine_183 rfl (lv_at hl 3 rfl) ?_
            refine lv_iconst (v := 1) hx hb dX10_pathLine_184 (by decide) ?_
            refine lv_iadd hx hb dX10_pathLine_185 ?_
            refine lv_topi (fun z_597 ez_597 => ?_)
            have tz_597 : z_597.toInt = z_6.toInt + 1 := add_t ez_597 (show -2147483648 ≤ z_6.toInt + 1 by omega) (show z_6.toInt + 1 < 2147483648 by omega)
            refine lv_aload_n hx hb dX10_pathLine_186 rfl (lv_at hl 4 rfl) ?_
            refine lv_iconst (v := 0) hx hb dX10_pathLine_187 (by decide) ?_
            refine lv_aload_n hx hb dX10_pathLine_188 rfl (lv_at hl 4 rfl) ?_
            refine t_getr cf_11 hx hb hts hown hK hT h_a (k := 20) (P := fun q => τ q = 70) rfl (fun _ h9 => h9) fl_X10_43 (fun _ h9 => h9) dX10_pathLine_189 (fun q_598 eq_598 hq_598 => ?_)
            have w_599 : q_7 = q_598 := Option.some.inj (eq_7.symm.trans ((hF.r h_a (by decide) rfl _).symm.trans eq_598))
            subst w_599
            refine lv_iconst (v := 4) hx hb dX10_pathLine_192 (by decide) ?_
            refine t_iald (n := 5) (i := 4) rfl (by decide) hx hb hK hT hq_7 (hT.len hq_7 (by decide)) ⟨by decide, by decide⟩ dX10_pathLine_193 (fun z_600 ez_600 rz_600 => ?_)
            have w_601 : z_8 = z_600 := ez_8.trans (ez_600.trans (hF.i hq_7 (by decide) rfl _)).symm
            subst w_601
            refine lv_iconst (v := 1) hx hb dX10_pathLine_194 (by decide) ?_
            refine lv_isub hx hb dX10_pathLine_195 ?_
            refine lv_topi (fun z_602 ez_602 => ?_)
            have w_603 : z_9 = z_602 := ez_9.trans ez_602.symm
            subst w_603
            refine t_calli (runV (As := [.int 0, .int z_9]) (rest := [.int z_597, .ref q_588]) ⟨hx, hb, hml, hown, hts⟩ (t_X10_number l D cy base τ G_589 a h_a 0 z_9 tp k_591 ⟨by omega, by omega⟩ x408_at k_592 ⟨by omega, by omega⟩ (by show x408_at.toInt ≤ tp.toInt; first | assumption | omega | decide)) sV_X10_186 hK (t_recv cf_11 hK hT h_a) ⟨Nat.le_trans hZ hS.1, hT⟩ ⟨Nat.le_of_ble_eq_true rfl, Nat.le_of_ble_eq_true rfl⟩ rfl hl.1 rfl (Nat.le_of_ble_eq_true rfl) dX10_pathLine_196 ⟨Nat.le_of_ble_eq_true rfl, Nat.le_of_ble_eq_true rfl⟩) hS (fun r_604 G_604 H locs hF_604 hr_604 hT hS => ?_)
            have hF := hF.tr hF_604 rfl
            have k_605 : p4 = G_604.1 paa 4 := k_590.trans (hF_604.i h_paa (by decide) rfl _).symm
            obtain ⟨hr_604_p0, hr_604_p1, hr_604_p2, hr_604_s0⟩ := hr_604
            have k_610 : tp = G_604.1 a 6 := k_591.trans hr_604_s0.symm
            obtain ⟨z_611, ez_611, hr_604_p0, hr_604_p1, hr_604_p2⟩ : ∃ z_611 : Int32, z_611 = G_604.1 a 7 ∧ (x408_at.toInt ≤ z_611.toInt) ∧ (z_611.toInt ≤ tp.toInt) ∧ (r_604.toInt = (0 : Int) ∨ ((0 : Int) ≤ r_604.toInt ∧ r_604.toInt ≤ z_9.toInt)) := ⟨_, rfl, hr_604_p0, hr_604_p1, hr_604_p2⟩
            have rz_611 : 0 ≤ z_611.toInt ∧ z_611.toInt ≤ 1600 := by rw [ez_611]; exact hT.rgi h_a (by decide) 7
            refine t_iast (n := 120) (i := z_597) (x := r_604) rfl (by decide) hx hb hK hT hS hq_588 (hT.len hq_588 (by decide)) ⟨by omega, by omega⟩ trivial dX10_pathLine_199 (fun H locs G_612 eG_612 hT hS => ?_)
            have hF := hF.wI eG_612 hq_588 rfl
            have k_613 : p4 = G_612.1 paa 4 := by rw [eG_612, wI_ne (Or.inl (tag_ne hq_588 h_paa (by decide)))]; exact k_605
            have k_614 : tp = G_612.1 a 6 := by rw [eG_612, wI_ne (Or.inl (tag_ne hq_588 h_a (by decide)))]; exact k_610
            have k_615 : z_611 = G_612.1 a 7 := by rw [eG_612, wI_ne (Or.inl (tag_ne hq_588 h_a (by decide)))]; exact ez_611
            refine lv_aload_n hx hb dX10_pathLine_200 rfl (lv_at hl 4 rfl) ?_
            refine t_getr cf_11 hx hb hts hown hK hT h_a (k := 23) (P := fun q => τ q = 73) rfl (fun _ h9 => h9) fl_X10_52 (fun _ h9 => h9) dX10_pathLine_201 (fun q_616 eq_616 hq_616 => ?_)
            have w_617 : q_588 = q_616 := Option.some.inj (eq_588.symm.trans ((hF.r h_a (by decide) rfl _).symm.trans eq_616))
            subst w_617
            refine lv_iload_n hx hb dX10_pathLine_204 rfl (lv_at hl 3 rfl) ?_
            refine lv_iconst (v := 2) hx hb dX10_pathLine_205 (by decide) ?_
            refine lv_iadd hx hb dX10_pathLine_206 ?_
            refine lv_topi (fun z_618 ez_618 => ?_)
            have tz_618 : z_618.toInt = z_6.toInt + 2 := add_t ez_618 (show -2147483648 ≤ z_6.toInt + 2 by omega) (show z_6.toInt + 2 < 2147483648 by omega)
            refine lv_aload_n hx hb dX10_pathLine_207 rfl (lv_at hl 4 rfl) ?_
            refine lv_ldc2 (v := 80155) hx hb hown (hts _ kl_X10_195) dX10_pathLine_208 ?_
            refine lv_iconst (v := 1) hx hb dX10_pathLine_211 (by decide) ?_
            refine lv_bipush (v := 30) hx hb dX10_pathLine_212 (by decide) ?_
            refine t_calli (runV (As := [.long 80155, .int 1, .int 30]) (rest := [.int z_618, .ref q_588]) ⟨hx, hb, hml, hown, hts⟩ (t_X10_number_ l D cy base τ G_612 a h_a 80155 1 30 tp k_614 ⟨by omega, by omega⟩ z_611 k_615 ⟨by omega, by omega⟩ (by show z_611.toInt ≤ tp.toInt; first | assumption | omega | decide)) sV_X10_197 hK (t_recv cf_11 hK hT h_a) ⟨Nat.le_trans hZ hS.1, hT⟩ ⟨Nat.le_of_ble_eq_true rfl, Nat.le_of_ble_eq_true rfl⟩ rfl hl.1 rfl (Nat.le_of_ble_eq_true rfl) dX10_pathLine_214 ⟨Nat.le_of_ble_eq_true rfl, Nat.le_of_ble_eq_true rfl⟩) hS (fun r_619 G_619 H locs hF_619 hr_619 hT hS => ?_)
            have hF := hF.tr hF_619 rfl
            have k_620 : p4 = G_619.1 paa 4 := k_613.trans (hF_619.i h_paa (by decide) rfl _).symm
            obtain ⟨hr_619_p0, hr_619_p1, hr_619_p2, hr_619_s0⟩ := hr_619
            have k_623 : tp = G_619.1 a 6 := k_614.trans hr_619_s0.symm
            obtain ⟨z_624, ez_624, hr_619_p0, hr_619_p1, hr_619_p2⟩ : ∃ z_624 : Int32, z_624 = G_619.1 a 7 ∧ (z_611.toInt ≤ z_624.toInt) ∧ (z_624.toInt ≤ tp.toInt) ∧ (r_619.toInt = (1 : Int) ∨ ((1 : Int) ≤ r_619.toInt ∧ r_619.toInt ≤ (30 : Int))) := ⟨_, rfl, hr_619_p0, hr_619_p1, hr_619_p2⟩
            have rz_624 : 0 ≤ z_624.toInt ∧ z_624.toInt ≤ 1600 := by rw [ez_624]; exact hT.rgi h_a (by decide) 7
            refine t_iast (n := 120) (i := z_618) (x := r_619) rfl (by decide) hx hb hK hT hS hq_588 (hT.len hq_588 (by decide)) ⟨by omega, by omega⟩ trivial dX10_pathLine_217 (fun H locs G_625 eG_625 hT hS => ?_)
            have hF := hF.wI eG_625 hq_588 rfl
            have k_626 : p4 = G_625.1 paa 4 := by rw [eG_625, wI_ne (Or.inl (tag_ne hq_588 h_paa (by decide)))]; exact k_620
            have k_627 : tp = G_625.1 a 6 := by rw [eG_625, wI_ne (Or.inl (tag_ne hq_588 h_a (by decide)))]; exact k_623
            have k_628 : z_624 = G_625.1 a 7 := by rw [eG_625, wI_ne (Or.inl (tag_ne hq_588 h_a (by decide)))]; exact ez_624
            refine lv_aload_n hx hb dX10_pathLine_218 rfl (lv_at hl 4 rfl) ?_
            refine t_getr cf_11 hx hb hts hown hK hT h_a (k := 22) (P := fun q => τ q = 72) rfl (fun _ h9 => h9) fl_X10_49 (fun _ h9 => h9) dX10_pathLine_219 (fun q_629 eq_629 hq_629 => ?_)
            have w_630 : paa = q_629 := Option.some.inj (e_paa.symm.trans ((hF.r h_a (by decide) rfl _).symm.trans eq_629))
            subst w_630
            refine lv_iconst (v := 4) hx hb dX10_pathLine_222 (by decide) ?_
            refine lv_dup2_11 hx hb dX10_pathLine_223 rfl rfl ?_
            refine t_iald (n := 5) (i := 4) rfl (by decide) hx hb hK hT h_paa (hT.len h_paa (by decide)) ⟨by decide, by decide⟩ dX10_pathLine_224 (fun z_631 ez_631 rz_631 => ?_)
            have w_632 : p4 = z_631 := k_626.trans ez_631.symm
            subst w_632
            refine lv_iconst (v := 1) hx hb dX10_pathLine_225 (by decide) ?_
            refine lv_iadd hx hb dX10_pathLine_226 ?_
            refine lv_topi (fun z_633 ez_633 => ?_)
            have tz_633 : z_633.toInt = p4.toInt + 1 := add_t ez_633 (show -2147483648 ≤ p4.toInt + 1 by omega) (show p4.toInt + 1 < 2147483648 by omega)
            refine t_iast (n := 5) (i := 4) (x := z_633) rfl (by decide) hx hb hK hT hS h_paa (hT.len h_paa (by decide)) ⟨by decide, by decide⟩ (show 0 ≤ z_633.toInt ∧ z_633.toInt ≤ 8 from ⟨by omega, by omega⟩) dX10_pathLine_227 (fun H locs G_634 eG_634 hT hS => ?_)
            have hF := hF.wI eG_634 h_paa rfl
            have eG_634 : G_634 = wI G_625 paa 4 z_633 := eG_634
            have k_636 : tp = G_634.1 a 6 := by rw [eG_634, wI_ne (Or.inl (tag_ne h_paa h_a (by decide)))]; exact k_627
            have k_637 : z_624 = G_634.1 a 7 := by rw [eG_634, wI_ne (Or.inl (tag_ne h_paa h_a (by decide)))]; exact k_628
            have k_638 : z_633 = G_634.1 paa 4 := by rw [eG_634, wI_at]
            exact ret_v hx hb hr hlocks ⟨⟨hS.1, hS.2.1⟩, G_634, hF, ⟨rfl, ⟨(by first | (show a0.toInt ≤ (G_634.1 a 7).toInt; rw [← k_637]; done) | (show a0.toInt ≤ (G_634.1 a 7).toInt; rw [← k_637]; show a0.toInt ≤ z_624.toInt; first | omega | assumption)), (by first | (show (G_634.1 a 7).toInt ≤ tp.toInt; rw [← k_637]; done) | (show (G_634.1 a 7).toInt ≤ tp.toInt; rw [← k_637]; show z_624.toInt ≤ tp.toInt; first | omega | assumption)), (k_636.symm.trans e_tp)⟩⟩, hT⟩ hS.2.2 (Nat.le_of_ble_eq_true rfl) (Nat.le_of_ble_eq_true rfl) dX10_pathLine_228
        · skip
          have tc_526 : z_525.toInt = 0 := (fa_eq _ _).mp c_526
          refine lv_aload_n hx hb dX10_pathLine_76 rfl (lv_at hl 4 rfl) ?_
          refine t_geti cf_11 hx hb hts hown hK hT h_a (k := 8) rfl fl_X10_152 (fun _ h9 => h9) dX10_pathLine_77 (fun z_639 ez_639 rz_639 => ?_)
          have ez_639 : z_639 = G_408.1 a 8 := ez_639
          refine lv_iconst (v := 2) hx hb dX10_pathLine_80 (by decide) ?_
          refine lv_icmp_ne (tgt := 163) hx hb dX10_pathLine_81 (by decide) (fun c_640 => ?_) (fun c_640 => ?_)
          · skip
            have tc_640 : ¬ z_639.toInt = 2 := fun h => c_640 ((fa_eq _ _).mpr h)
            refine lv_iload_n hx hb dX10_pathLine_163 rfl (lv_at hl 0 rfl) ?_
            refine lv_if_eq (tgt := 172) hx hb dX10_pathLine_164 (by decide) (fun c_641 => ?_) (fun c_641 => ?_)
            · skip
              have tc_641 : x408_3.toInt = 0 := (fa_eq _ _).mp c_641
              refine lv_aload_n hx hb dX10_pathLine_172 rfl (lv_at hl 4 rfl) ?_
              refine t_getr cf_11 hx hb hts hown hK hT h_a (k := 23) (P := fun q => τ q = 73) rfl (fun _ h9 => h9) fl_X10_52 (fun _ h9 => h9) dX10_pathLine_173 (fun q_642 eq_642 hq_642 => ?_)
              have eq_642 := (hF.r h_a (by decide) rfl _).symm.trans eq_642
              refine lv_iload_n hx hb dX10_pathLine_176 rfl (lv_at hl 3 rfl) ?_
              refine lv_iload_n hx hb dX10_pathLine_177 rfl (lv_at hl 2 rfl) ?_
              refine t_iast (n := 120) (i := z_6) (x := r_10) rfl (by decide) hx hb hK hT hS hq_642 (hT.len hq_642 (by decide)) ⟨by omega, by omega⟩ trivial dX10_pathLine_178 (fun H locs G_643 eG_643 hT hS => ?_)
              have hF := hF.wI eG_643 hq_642 rfl
              have k_644 : tp = G_643.1 a 6 := by rw [eG_643, wI_ne (Or.inl (tag_ne hq_642 h_a (by decide)))]; exact i408_6
              have k_645 : p4 = G_643.1 paa 4 := by rw [eG_643, wI_ne (Or.inl (tag_ne hq_642 h_paa (by decide)))]; exact i408_7
              have k_646 : x408_at = G_643.1 a 7 := by rw [eG_643, wI_ne (Or.inl (tag_ne hq_642 h_a (by decide)))]; exact i408_8
              have k_647 : z_525 = G_643.1 a 12 := by rw [eG_643, wI_ne (Or.inl (tag_ne hq_642 h_a (by decide)))]; exact ez_525
              have k_648 : z_639 = G_643.1 a 8 := by rw [eG_643, wI_ne (Or.inl (tag_ne hq_642 h_a (by decide)))]; exact ez_639
              refine lv_aload_n hx hb dX10_pathLine_179 rfl (lv_at hl 4 rfl) ?_
              refine t_getr cf_11 hx hb hts hown hK hT h_a (k := 23) (P := fun q => τ q = 73) rfl (fun _ h9 => h9) fl_X10_52 (fun _ h9 => h9) dX10_pathLine_180 (fun q_649 eq_649 hq_649 => ?_)
              have w_650 : q_642 = q_649 := Option.some.inj (eq_642.symm.trans ((hF.r h_a (by decide) rfl _).symm.trans eq_649))
              subst w_650
              refine lv_iload_n hx hb dX10_pathLine_183 rfl (lv_at hl 3 rfl) ?_
              refine lv_iconst (v := 1) hx hb dX10_pathLine_184 (by decide) ?_
              refine lv_iadd hx hb dX10_pathLine_185 ?_
              refine lv_topi (fun z_651 ez_651 => ?_)
              have tz_651 : z_651.toInt = z_6.toInt + 1 := add_t ez_651 (show -2147483648 ≤ z_6.toInt + 1 by omega) (show z_6.toInt + 1 < 2147483648 by omega)
              refine lv_aload_n hx hb dX10_pathLine_186 rfl (lv_at hl 4 rfl) ?_
              refine lv_iconst (v := 0) hx hb dX10_pathLine_187 (by decide) ?_
              refine lv_aload_n hx hb dX10_pathLine_188 rfl (lv_at hl 4 rfl) ?_
              refine t_getr cf_11 hx hb hts hown hK hT h_a (k := 20) (P := fun q => τ q = 70) rfl (fun _ h9 => h9) fl_X10_43 (fun _ h9 => h9) dX10_pathLine_189 (fun q_652 eq_652 hq_652 => ?_)
              have w_653 : q_7 = q_652 := Option.some.inj (eq_7.symm.trans ((hF.r h_a (by decide) rfl _).symm.trans eq_652))
              subst w_653
              refine lv_iconst (v := 4) hx hb dX10_pathLine_192 (by decide) ?_
              refine t_iald (n := 5) (i := 4) rfl (by decide) hx hb hK hT hq_7 (hT.len hq_7 (by decide)) ⟨by decide, by decide⟩ dX10_pathLine_193 (fun z_654 ez_654 rz_654 => ?_)
              have w_655 : z_8 = z_654 := ez_8.trans (ez_654.trans (hF.i hq_7 (by decide) rfl _)).symm
              subst w_655
              refine lv_iconst (v := 1) hx hb dX10_pathLine_194 (by decide) ?_
              refine lv_isub hx hb dX10_pathLine_195 ?_
              refine lv_topi (fun z_656 ez_656 => ?_)
              have w_657 : z_9 = z_656 := ez_9.trans ez_656.symm
              subst w_657
              refine t_calli (runV (As := [.int 0, .int z_9]) (rest := [.int z_651, .ref q_642]) ⟨hx, hb, hml, hown, hts⟩ (t_X10_number l D cy base τ G_643 a h_a 0 z_9 tp k_644 ⟨by omega, by omega⟩ x408_at k_646 ⟨by omega, by omega⟩ (by show x408_at.toInt ≤ tp.toInt; first | assumption | omega | decide)) sV_X10_186 hK (t_recv cf_11 hK hT h_a) ⟨Nat.le_trans hZ hS.1, hT⟩ ⟨Nat.le_of_ble_eq_true rfl, Nat.le_of_ble_eq_true rfl⟩ rfl hl.1 rfl (Nat.le_of_ble_eq_true rfl) dX10_pathLine_196 ⟨Nat.le_of_ble_eq_true rfl, Nat.le_of_ble_eq_true rfl⟩) hS (fun r_658 G_658 H locs hF_658 hr_658 hT hS => ?_)
              have hF := hF.tr hF_658 rfl
              have k_660 : p4 = G_658.1 paa 4 := k_645.trans (hF_658.i h_paa (by decide) rfl _).symm
              obtain ⟨hr_658_p0, hr_658_p1, hr_658_p2, hr_658_s0⟩ := hr_658
              have k_664 : tp = G_658.1 a 6 := k_644.trans hr_658_s0.symm
              obtain ⟨z_665, ez_665, hr_658_p0, hr_658_p1, hr_658_p2⟩ : ∃ z_665 : Int32, z_665 = G_658.1 a 7 ∧ (x408_at.toInt ≤ z_665.toInt) ∧ (z_665.toInt ≤ tp.toInt) ∧ (r_658.toInt = (0 : Int) ∨ ((0 : Int) ≤ r_658.toInt ∧ r_658.toInt ≤ z_9.toInt)) := ⟨_, rfl, hr_658_p0, hr_658_p1, hr_658_p2⟩
              have rz_665 : 0 ≤ z_665.toInt ∧ z_665.toInt ≤ 1600 := by rw [ez_665]; exact hT.rgi h_a (by decide) 7
              refine t_iast (n := 120) (i := z_651) (x := r_658) rfl (by decide) hx hb hK hT hS hq_642 (hT.len hq_642 (by decide)) ⟨by omega, by omega⟩ trivial dX10_pathLine_199 (fun H locs G_666 eG_666 hT hS => ?_)
              have hF := hF.wI eG_666 hq_642 rfl
              have k_667 : p4 = G_666.1 paa 4 := by rw [eG_666, wI_ne (Or.inl (tag_ne hq_642 h_paa (by decide)))]; exact k_660
              have k_668 : tp = G_666.1 a 6 := by rw [eG_666, wI_ne (Or.inl (tag_ne hq_642 h_a (by decide)))]; exact k_664
              have k_669 : z_665 = G_666.1 a 7 := by rw [eG_666, wI_ne (Or.inl (tag_ne hq_642 h_a (by decide)))]; exact ez_665
              refine lv_aload_n hx hb dX10_pathLine_200 rfl (lv_at hl 4 rfl) ?_
              refine t_getr cf_11 hx hb hts hown hK hT h_a (k := 23) (P := fun q => τ q = 73) rfl (fun _ h9 => h9) fl_X10_52 (fun _ h9 => h9) dX10_pathLine_201 (fun q_670 eq_670 hq_670 => ?_)
              have w_671 : q_642 = q_670 := Option.some.inj (eq_642.symm.trans ((hF.r h_a (by decide) rfl _).symm.trans eq_670))
              subst w_671
              refine lv_iload_n hx hb dX10_pathLine_204 rfl (lv_at hl 3 rfl) ?_
              refine lv_iconst (v := 2) hx hb dX10_pathLine_205 (by decide) ?_
              refine lv_iadd hx hb dX10_pathLine_206 ?_
              refine lv_topi (fun z_672 ez_672 => ?_)
              have tz_672 : z_672.toInt = z_6.toInt + 2 := add_t ez_672 (show -2147483648 ≤ z_6.toInt + 2 by omega) (show z_6.toInt + 2 < 2147483648 by omega)
              refine lv_aload_n hx hb dX10_pathLine_207 rfl (lv_at hl 4 rfl) ?_
              refine lv_ldc2 (v := 80155) hx hb hown (hts _ kl_X10_195) dX10_pathLine_208 ?_
              refine lv_iconst (v := 1) hx hb dX10_pathLine_211 (by decide) ?_
              refine lv_bipush (v := 30) hx hb dX10_pathLine_212 (by decide) ?_
              refine t_calli (runV (As := [.long 80155, .int 1, .int 30]) (rest := [.int z_672, .ref q_642]) ⟨hx, hb, hml, hown, hts⟩ (t_X10_number_ l D cy base τ G_666 a h_a 80155 1 30 tp k_668 ⟨by omega, by omega⟩ z_665 k_669 ⟨by omega, by omega⟩ (by show z_665.toInt ≤ tp.toInt; first | assumption | omega | decide)) sV_X10_197 hK (t_recv cf_11 hK hT h_a) ⟨Nat.le_trans hZ hS.1, hT⟩ ⟨Nat.le_of_ble_eq_true rfl, Nat.le_of_ble_eq_true rfl⟩ rfl hl.1 rfl (Nat.le_of_ble_eq_true rfl) dX10_pathLine_214 ⟨Nat.le_of_ble_eq_true rfl, Nat.le_of_ble_eq_true rfl⟩) hS (fun r_673 G_673 H locs hF_673 hr_673 hT hS => ?_)
              have hF := hF.tr hF_673 rfl
              have k_674 : p4 = G_673.1 paa 4 := k_667.trans (hF_673.i h_paa (by decide) rfl _).symm
              obtain ⟨hr_673_p0, hr_673_p1, hr_673_p2, hr_673_s0⟩ := hr_673
              have k_677 : tp = G_673.1 a 6 := k_668.trans hr_673_s0.symm
              obtain ⟨z_678, ez_678, hr_673_p0, hr_673_p1, hr_673_p2⟩ : ∃ z_678 : Int32, z_678 = G_673.1 a 7 ∧ (z_665.toInt ≤ z_678.toInt) ∧ (z_678.toInt ≤ tp.toInt) ∧ (r_673.toInt = (1 : Int) ∨ ((1 : Int) ≤ r_673.toInt ∧ r_673.toInt ≤ (30 : Int))) := ⟨_, rfl, hr_673_p0, hr_673_p1, hr_673_p2⟩
              have rz_678 : 0 ≤ z_678.toInt ∧ z_678.toInt ≤ 1600 := by rw [ez_678]; exact hT.rgi h_a (by decide) 7
              refine t_iast (n := 120) (i := z_672) (x := r_673) rfl (by decide) hx hb hK hT hS hq_642 (hT.len hq_642 (by decide)) ⟨by omega, by omega⟩ trivial dX10_pathLine_217 (fun H locs G_679 eG_679 hT hS => ?_)
              have hF := hF.wI eG_679 hq_642 rfl
              have k_680 : p4 = G_679.1 paa 4 := by rw [eG_679, wI_ne (Or.inl (tag_ne hq_642 h_paa (by decide)))]; exact k_674
              have k_681 : tp = G_679.1 a 6 := by rw [eG_679, wI_ne (Or.inl (tag_ne hq_642 h_a (by decide)))]; exact k_677
              have k_682 : z_678 = G_679.1 a 7 := by rw [eG_679, wI_ne (Or.inl (tag_ne hq_642 h_a (by decide)))]; exact ez_678
              refine lv_aload_n hx hb dX10_pathLine_218 rfl (lv_at hl 4 rfl) ?_
              refine t_getr cf_11 hx hb hts hown hK hT h_a (k := 22) (P := fun q => τ q = 72) rfl (fun _ h9 => h9) fl_X10_49 (fun _ h9 => h9) dX10_pathLine_219 (fun q_683 eq_683 hq_683 => ?_)
              have w_684 : paa = q_683 := Option.some.inj (e_paa.symm.trans ((hF.r h_a (by decide) rfl _).symm.trans eq_683))
              subst w_684
              refine lv_iconst (v := 4) hx hb dX10_pathLine_222 (by decide) ?_
              refine lv_dup2_11 hx hb dX10_pathLine_223 rfl rfl ?_
              refine t_iald (n := 5) (i := 4) rfl (by decide) hx hb hK hT h_paa (hT.len h_paa (by decide)) ⟨by decide, by decide⟩ dX10_pathLine_224 (fun z_685 ez_685 rz_685 => ?_)
              have w_686 : p4 = z_685 := k_680.trans ez_685.symm
              subst w_686
              refine lv_iconst (v := 1) hx hb dX10_pathLine_225 (by decide) ?_
              refine lv_iadd hx hb dX10_pathLine_226 ?_
              refine lv_topi (fun z_687 ez_687 => ?_)
              have tz_687 : z_687.toInt = p4.toInt + 1 := add_t ez_687 (show -2147483648 ≤ p4.toInt + 1 by omega) (show p4.toInt + 1 < 2147483648 by omega)
              refine t_iast (n := 5) (i := 4) (x := z_687) rfl (by decide) hx hb hK hT hS h_paa (hT.len h_paa (by decide)) ⟨by decide, by decide⟩ (show 0 ≤ z_687.toInt ∧ z_687.toInt ≤ 8 from ⟨by omega, by omega⟩) dX10_pathLine_227 (fun H locs G_688 eG_688 hT hS => ?_)
              have hF := hF.wI eG_688 h_paa rfl
              have eG_688 : G_688 = wI G_679 paa 4 z_687 := eG_688
              have k_690 : tp = G_688.1 a 6 := by rw [eG_688, wI_ne (Or.inl (tag_ne h_paa h_a (by decide)))]; exact k_681
              have k_691 : z_678 = G_688.1 a 7 := by rw [eG_688, wI_ne (Or.inl (tag_ne h_paa h_a (by decide)))]; exact k_682
              have k_692 : z_687 = G_688.1 paa 4 := by rw [eG_688, wI_at]
              exact ret_v hx hb hr hlocks ⟨⟨hS.1, hS.2.1⟩, G_688, hF, ⟨rfl, ⟨(by first | (show a0.toInt ≤ (G_688.1 a 7).toInt; rw [← k_691]; done) | (show a0.toInt ≤ (G_688.1 a 7).toInt; rw [← k_691]; show a0.toInt ≤ z_678.toInt; first | omega | assumption)), (by first | (show (G_688.1 a 7).toInt ≤ tp.toInt; rw [← k_691]; done) | (show (G_688.1 a 7).toInt ≤ tp.toInt; rw [← k_691]; show z_678.toInt ≤ tp.toInt; first | omega | assumption)), (k_690.symm.trans e_tp)⟩⟩, hT⟩ hS.2.2 (Nat.le_of_ble_eq_true rfl) (Nat.le_of_ble_eq_true rfl) dX10_pathLine_228
            · skip
              have tc_641 : ¬ x408_3.toInt = 0 := fun h => c_641 ((fa_eq _ _).mpr h)
              refine lv_aload_n hx hb dX10_pathLine_167 rfl (lv_at hl 4 rfl) ?_
              refine lv_iconst (v := 2) hx hb dX10_pathLine_168 (by decide) ?_
              refine t_callv (runV (As := [.int 2]) (rest := []) ⟨hx, hb, hml, hown, hts⟩ (t_X10_fails l D cy base τ G_408 a h_a 2 (by decide) tp i408_6 ⟨by omega, by omega⟩ x408_at i408_8 ⟨by omega, by omega⟩ z_639 ez_639 z_525 ez_525) sV_X10_179 hK (t_recv cf_11 hK hT h_a) ⟨Nat.le_trans hZ hS.1, hT⟩ ⟨Nat.le_of_ble_eq_true rfl, Nat.le_of_ble_eq_true rfl⟩ rfl hl.1 rfl (Nat.le_of_ble_eq_true rfl) dX10_pathLine_169 ⟨Nat.le_of_ble_eq_true rfl, Nat.le_of_ble_eq_true rfl⟩) hS (fun G_693 H locs hF_693 hr_693 hT hS => ?_)
              have hF := hF.tr hF_693 rfl
              have k_695 : p4 = G_693.1 paa 4 := i408_7.trans (hF_693.i h_paa (by decide) rfl _).symm
              obtain ⟨hr_693_p0, hr_693_s0, hr_693_s1, hr_693_s2⟩ := hr_693
              have k_699 : tp = G_693.1 a 6 := i408_6.trans hr_693_s0.symm
              have k_700 : x408_at = G_693.1 a 7 := i408_8.trans hr_693_s1.symm
              have k_701 : z_639 = G_693.1 a 8 := ez_639.trans hr_693_s2.symm
              obtain ⟨z_702, ez_702, hr_693_p0⟩ : ∃ z_702 : Int32, z_702 = G_693.1 a 12 ∧ (z_702.toInt ≠ 0) := ⟨_, rfl, hr_693_p0⟩
              refine lv_aload_n hx hb dX10_pathLine_172 rfl (lv_at hl 4 rfl) ?_
              refine t_getr cf_11 hx hb hts hown hK hT h_a (k := 23) (P := fun q => τ q = 73) rfl (fun _ h9 => h9) fl_X10_52 (fun _ h9 => h9) dX10_pathLine_173 (fun q_703 eq_703 hq_703 => ?_)
              have eq_703 := (hF.r h_a (by decide) rfl _).symm.trans eq_703
              refine lv_iload_n hx hb dX10_pathLine_176 rfl (lv_at hl 3 rfl) ?_
              refine lv_iload_n hx hb dX10_pathLine_177 rfl (lv_at hl 2 rfl) ?_
              refine t_iast (n := 120) (i := z_6) (x := r_10) rfl (by decide) hx hb hK hT hS hq_703 (hT.len hq_703 (by decide)) ⟨by omega, by omega⟩ trivial dX10_pathLine_178 (fun H locs G_704 eG_704 hT hS => ?_)
              have hF := hF.wI eG_704 hq_703 rfl
              have k_705 : p4 = G_704.1 paa 4 := by rw [eG_704, wI_ne (Or.inl (tag_ne hq_703 h_paa (by decide)))]; exact k_695
              have k_706 : tp = G_704.1 a 6 := by rw [eG_704, wI_ne (Or.inl (tag_ne hq_703 h_a (by decide)))]; exact k_699
              have k_707 : x408_at = G_704.1 a 7 := by rw [eG_704, wI_ne (Or.inl (tag_ne hq_703 h_a (by decide)))]; exact k_700
              have k_708 : z_639 = G_704.1 a 8 := by rw [eG_704, wI_ne (Or.inl (tag_ne hq_703 h_a (by decide)))]; exact k_701
              have k_709 : z_702 = G_704.1 a 12 := by rw [eG_704, wI_ne (Or.inl (tag_ne hq_703 h_a (by decide)))]; exact ez_702
              refine lv_aload_n hx hb dX10_pathLine_179 rfl (lv_at hl 4 rfl) ?_
              refine t_getr cf_11 hx hb hts hown hK hT h_a (k := 23) (P := fun q => τ q = 73) rfl (fun _ h9 => h9) fl_X10_52 (fun _ h9 => h9) dX10_pathLine_180 (fun q_710 eq_710 hq_710 => ?_)
              have w_711 : q_703 = q_710 := Option.some.inj (eq_703.symm.trans ((hF.r h_a (by decide) rfl _).symm.trans eq_710))
              subst w_711
              refine lv_iload_n hx hb dX10_pathLine_183 rfl (lv_at hl 3 rfl) ?_
              refine lv_iconst (v := 1) hx hb dX10_pathLine_184 (by decide) ?_
              refine lv_iadd hx hb dX10_pathLine_185 ?_
              refine lv_topi (fun z_712 ez_712 => ?_)
              have tz_712 : z_712.toInt = z_6.toInt + 1 := add_t ez_712 (show -2147483648 ≤ z_6.toInt + 1 by omega) (show z_6.toInt + 1 < 2147483648 by omega)
              refine lv_aload_n hx hb dX10_pathLine_186 rfl (lv_at hl 4 rfl) ?_
              refine lv_iconst (v := 0) hx hb dX10_pathLine_187 (by decide) ?_
              refine lv_aload_n hx hb dX10_pathLine_188 rfl (lv_at hl 4 rfl) ?_
              refine t_getr cf_11 hx hb hts hown hK hT h_a (k := 20) (P := fun q => τ q = 70) rfl (fun _ h9 => h9) fl_X10_43 (fun _ h9 => h9) dX10_pathLine_189 (fun q_713 eq_713 hq_713 => ?_)
              have w_714 : q_7 = q_713 := Option.some.inj (eq_7.symm.trans ((hF.r h_a (by decide) rfl _).symm.trans eq_713))
              subst w_714
              refine lv_iconst (v := 4) hx hb dX10_pathLine_192 (by decide) ?_
              refine t_iald (n := 5) (i := 4) rfl (by decide) hx hb hK hT hq_7 (hT.len hq_7 (by decide)) ⟨by decide, by decide⟩ dX10_pathLine_193 (fun z_715 ez_715 rz_715 => ?_)
              have w_716 : z_8 = z_715 := ez_8.trans (ez_715.trans (hF.i hq_7 (by decide) rfl _)).symm
              subst w_716
              refine lv_iconst (v := 1) hx hb dX10_pathLine_194 (by decide) ?_
              refine lv_isub hx hb dX10_pathLine_195 ?_
              refine lv_topi (fun z_717 ez_717 => ?_)
              have w_718 : z_9 = z_717 := ez_9.trans ez_717.symm
              subst w_718
              refine t_calli (runV (As := [.int 0, .int z_9]) (rest := [.int z_712, .ref q_703]) ⟨hx, hb, hml, hown, hts⟩ (t_X10_number l D cy base τ G_704 a h_a 0 z_9 tp k_706 ⟨by omega, by omega⟩ x408_at k_707 ⟨by omega, by omega⟩ (by show x408_at.toInt ≤ tp.toInt; first | assumption | omega | decide)) sV_X10_186 hK (t_recv cf_11 hK hT h_a) ⟨Nat.le_trans hZ hS.1, hT⟩ ⟨Nat.le_of_ble_eq_true rfl, Nat.le_of_ble_eq_true rfl⟩ rfl hl.1 rfl (Nat.le_of_ble_eq_true rfl) dX10_pathLine_196 ⟨Nat.le_of_ble_eq_true rfl, Nat.le_of_ble_eq_true rfl⟩) hS (fun r_719 G_719 H locs hF_719 hr_719 hT hS => ?_)
              have hF := hF.tr hF_719 rfl
              have k_720 : p4 = G_719.1 paa 4 := k_705.trans (hF_719.i h_paa (by decide) rfl _).symm
              obtain ⟨hr_719_p0, hr_719_p1, hr_719_p2, hr_719_s0⟩ := hr_719
              have k_725 : tp = G_719.1 a 6 := k_706.trans hr_719_s0.symm
              obtain ⟨z_726, ez_726, hr_719_p0, hr_719_p1, hr_719_p2⟩ : ∃ z_726 : Int32, z_726 = G_719.1 a 7 ∧ (x408_at.toInt ≤ z_726.toInt) ∧ (z_726.toInt ≤ tp.toInt) ∧ (r_719.toInt = (0 : Int) ∨ ((0 : Int) ≤ r_719.toInt ∧ r_719.toInt ≤ z_9.toInt)) := ⟨_, rfl, hr_719_p0, hr_719_p1, hr_719_p2⟩
              have rz_726 : 0 ≤ z_726.toInt ∧ z_726.toInt ≤ 1600 := by rw [ez_726]; exact hT.rgi h_a (by decide) 7
              refine t_iast (n := 120) (i := z_712) (x := r_719) rfl (by decide) hx hb hK hT hS hq_703 (hT.len hq_703 (by decide)) ⟨by omega, by omega⟩ trivial dX10_pathLine_199 (fun H locs G_727 eG_727 hT hS => ?_)
              have hF := hF.wI eG_727 hq_703 rfl
              have k_728 : p4 = G_727.1 paa 4 := by rw [eG_727, wI_ne (Or.inl (tag_ne hq_703 h_paa (by decide)))]; exact k_720
              have k_729 : tp = G_727.1 a 6 := by rw [eG_727, wI_ne (Or.inl (tag_ne hq_703 h_a (by decide)))]; exact k_725
              have k_730 : z_726 = G_727.1 a 7 := by rw [eG_727, wI_ne (Or.inl (tag_ne hq_703 h_a (by decide)))]; exact ez_726
              refine lv_aload_n hx hb dX10_pathLine_200 rfl (lv_at hl 4 rfl) ?_
              refine t_getr cf_11 hx hb hts hown hK hT h_a (k := 23) (P := fun q => τ q = 73) rfl (fun _ h9 => h9) fl_X10_52 (fun _ h9 => h9) dX10_pathLine_201 (fun q_731 eq_731 hq_731 => ?_)
              have w_732 : q_703 = q_731 := Option.some.inj (eq_703.symm.trans ((hF.r h_a (by decide) rfl _).symm.trans eq_731))
              subst w_732
              refine lv_iload_n hx hb dX10_pathLine_204 rfl (lv_at hl 3 rfl) ?_
              refine lv_iconst (v := 2) hx hb dX10_pathLine_205 (by decide) ?_
              refine lv_iadd hx hb dX10_pathLine_206 ?_
              refine lv_topi (fun z_733 ez_733 => ?_)
              have tz_733 : z_733.toInt = z_6.toInt + 2 := add_t ez_733 (show -2147483648 ≤ z_6.toInt + 2 by omega) (show z_6.toInt + 2 < 2147483648 by omega)
              refine lv_aload_n hx hb dX10_pathLine_207 rfl (lv_at hl 4 rfl) ?_
              refine lv_ldc2 (v := 80155) hx hb hown (hts _ kl_X10_195) dX10_pathLine_208 ?_
              refine lv_iconst (v := 1) hx hb dX10_pathLine_211 (by decide) ?_
              refine lv_bipush (v := 30) hx hb dX10_pathLine_212 (by decide) ?_
              refine t_calli (runV (As := [.long 80155, .int 1, .int 30]) (rest := [.int z_733, .ref q_703]) ⟨hx, hb, hml, hown, hts⟩ (t_X10_number_ l D cy base τ G_727 a h_a 80155 1 30 tp k_729 ⟨by omega, by omega⟩ z_726 k_730 ⟨by omega, by omega⟩ (by show z_726.toInt ≤ tp.toInt; first | assumption | omega | decide)) sV_X10_197 hK (t_recv cf_11 hK hT h_a) ⟨Nat.le_trans hZ hS.1, hT⟩ ⟨Nat.le_of_ble_eq_true rfl, Nat.le_of_ble_eq_true rfl⟩ rfl hl.1 rfl (Nat.le_of_ble_eq_true rfl) dX10_pathLine_214 ⟨Nat.le_of_ble_eq_true rfl, Nat.le_of_ble_eq_true rfl⟩) hS (fun r_734 G_734 H locs hF_734 hr_734 hT hS => ?_)
              have hF := hF.tr hF_734 rfl
              have k_735 : p4 = G_734.1 paa 4 := k_728.trans (hF_734.i h_paa (by decide) rfl _).symm
              obtain ⟨hr_734_p0, hr_734_p1, hr_734_p2, hr_734_s0⟩ := hr_734
              have k_738 : tp = G_734.1 a 6 := k_729.trans hr_734_s0.symm
              obtain ⟨z_739, ez_739, hr_734_p0, hr_734_p1, hr_734_p2⟩ : ∃ z_739 : Int32, z_739 = G_734.1 a 7 ∧ (z_726.toInt ≤ z_739.toInt) ∧ (z_739.toInt ≤ tp.toInt) ∧ (r_734.toInt = (1 : Int) ∨ ((1 : Int) ≤ r_734.toInt ∧ r_734.toInt ≤ (30 : Int))) := ⟨_, rfl, hr_734_p0, hr_734_p1, hr_734_p2⟩
              have rz_739 : 0 ≤ z_739.toInt ∧ z_739.toInt ≤ 1600 := by rw [ez_739]; exact hT.rgi h_a (by decide) 7
              refine t_iast (n := 120) (i := z_733) (x := r_734) rfl (by decide) hx hb hK hT hS hq_703 (hT.len hq_703 (by decide)) ⟨by omega, by omega⟩ trivial dX10_pathLine_217 (fun H locs G_740 eG_740 hT hS => ?_)
              have hF := hF.wI eG_740 hq_703 rfl
              have k_741 : p4 = G_740.1 paa 4 := by rw [eG_740, wI_ne (Or.inl (tag_ne hq_703 h_paa (by decide)))]; exact k_735
              have k_742 : tp = G_740.1 a 6 := by rw [eG_740, wI_ne (Or.inl (tag_ne hq_703 h_a (by decide)))]; exact k_738
              have k_743 : z_739 = G_740.1 a 7 := by rw [eG_740, wI_ne (Or.inl (tag_ne hq_703 h_a (by decide)))]; exact ez_739
              refine lv_aload_n hx hb dX10_pathLine_218 rfl (lv_at hl 4 rfl) ?_
              refine t_getr cf_11 hx hb hts hown hK hT h_a (k := 22) (P := fun q => τ q = 72) rfl (fun _ h9 => h9) fl_X10_49 (fun _ h9 => h9) dX10_pathLine_219 (fun q_744 eq_744 hq_744 => ?_)
              have w_745 : paa = q_744 := Option.some.inj (e_paa.symm.trans ((hF.r h_a (by decide) rfl _).symm.trans eq_744))
              subst w_745
              refine lv_iconst (v := 4) hx hb dX10_pathLine_222 (by decide) ?_
              refine lv_dup2_11 hx hb dX10_pathLine_223 rfl rfl ?_
              refine t_iald (n := 5) (i := 4) rfl (by decide) hx hb hK hT h_paa (hT.len h_paa (by decide)) ⟨by decide, by decide⟩ dX10_pathLine_224 (fun z_746 ez_746 rz_746 => ?_)
              have w_747 : p4 = z_746 := k_741.trans ez_746.symm
              subst w_747
              refine lv_iconst (v := 1) hx hb dX10_pathLine_225 (by decide) ?_
              refine lv_iadd hx hb dX10_pathLine_226 ?_
              refine lv_topi (fun z_748 ez_748 => ?_)
              have tz_748 : z_748.toInt = p4.toInt + 1 := add_t ez_748 (show -2147483648 ≤ p4.toInt + 1 by omega) (show p4.toInt + 1 < 2147483648 by omega)
              refine t_iast (n := 5) (i := 4) (x := z_748) rfl (by decide) hx hb hK hT hS h_paa (hT.len h_paa (by decide)) ⟨by decide, by decide⟩ (show 0 ≤ z_748.toInt ∧ z_748.toInt ≤ 8 from ⟨by omega, by omega⟩) dX10_pathLine_227 (fun H locs G_749 eG_749 hT hS => ?_)
              have hF := hF.wI eG_749 h_paa rfl
              have eG_749 : G_749 = wI G_740 paa 4 z_748 := eG_749
              have k_751 : tp = G_749.1 a 6 := by rw [eG_749, wI_ne (Or.inl (tag_ne h_paa h_a (by decide)))]; exact k_742
              have k_752 : z_739 = G_749.1 a 7 := by rw [eG_749, wI_ne (Or.inl (tag_ne h_paa h_a (by decide)))]; exact k_743
              have k_753 : z_748 = G_749.1 paa 4 := by rw [eG_749, wI_at]
              exact ret_v hx hb hr hlocks ⟨⟨hS.1, hS.2.1⟩, G_749, hF, ⟨rfl, ⟨(by first | (show a0.toInt ≤ (G_749.1 a 7).toInt; rw [← k_752]; done) | (show a0.toInt ≤ (G_749.1 a 7).toInt; rw [← k_752]; show a0.toInt ≤ z_739.toInt; first | omega | assumption)), (by first | (show (G_749.1 a 7).toInt ≤ tp.toInt; rw [← k_752]; done) | (show (G_749.1 a 7).toInt ≤ tp.toInt; rw [← k_752]; show z_739.toInt ≤ tp.toInt; first | omega | assumption)), (k_751.symm.trans e_tp)⟩⟩, hT⟩ hS.2.2 (Nat.le_of_ble_eq_true rfl) (Nat.le_of_ble_eq_true rfl) dX10_pathLine_228
          · skip
            have tc_640 : z_639.toInt = 2 := (fa_eq _ _).mp c_640
            refine lv_iconst (v := 3) hx hb dX10_pathLine_84 (by decide) ?_
            refine lv_bipush (v := 32) hx hb dX10_pathLine_85 (by decide) ?_
            refine lv_iload hx hb dX10_pathLine_87 (lv_at hl 1 rfl) ?_
            refine lv_iadd hx hb dX10_pathLine_89 ?_
            refine lv_topi (fun z_754 ez_754 => ?_)
            have tz_754 : z_754.toInt = 32 + x408_4.toInt := add_t ez_754 (show -2147483648 ≤ 32 + x408_4.toInt by omega) (show 32 + x408_4.toInt < 2147483648 by omega)
            refine lv_imul hx hb dX10_pathLine_90 ?_
            refine lv_topi (fun z_755 ez_755 => ?_)
            have tz_755 : z_755.toInt = 3 * z_754.toInt := mul_t ez_755 (show -2147483648 ≤ 3 * z_754.toInt by omega) (show 3 * z_754.toInt < 2147483648 by omega)
            refine lv_istore (lv' := [(5, .int z_755), (3, .int x408_3), (4, .int x408_4), (2, .int r_10), (1, .int z_6), (0, .ref a)]) hx hb dX10_pathLine_91 hl (by decide) rfl (fun ls hl => ?_)
            refine lv_iload_n hx hb dX10_pathLine_93 rfl (lv_at hl 1 rfl) ?_
            refine lv_if_ne (tgt := 151) hx hb dX10_pathLine_94 (by decide) (fun c_756 => ?_) (fun c_756 => ?_)
            · skip
              have tc_756 : ¬ x408_3.toInt = 0 := fun h => c_756 ((fa_eq _ _).mpr h)
              refine lv_iconst (v := 1) hx hb dX10_pathLine_151 (by decide) ?_
              refine lv_goto (tgt := 156) hx hb dX10_pathLine_152 (by decide) ?_
              refine lv_istore_n (lv' := [(3, .int 1), (5, .int z_755), (4, .int x408_4), (2, .int r_10), (1, .int z_6), (0, .ref a)]) hx hb dX10_pathLine_156 rfl hl (by decide) rfl (fun ls hl => ?_)
              obtain ⟨z_757, ez_757⟩ : ∃ y : Int32, y = x408_4 + 1 := ⟨_, rfl⟩
              have tz_757 : z_757.toInt = x408_4.toInt + 1 := add_t ez_757 (show -2147483648 ≤ x408_4.toInt + 1 by omega) (show x408_4.toInt + 1 < 2147483648 by omega)
              refine lv_iinc (v := z_757) (lv' := [(4, .int z_757), (3, .int 1), (5, .int z_755), (2, .int r_10), (1, .int z_6), (0, .ref a)]) hx hb dX10_pathLine_157 hl (k := 2) rfl (by rw [ez_757]; rfl) (by decide) rfl (fun ls hl => ?_)
              refine lv_goto (tgt := 58) hx hb dX10_pathLine_160 (by decide) ?_
              exact ih408 ((1 : Int32), z_757, x408_at, G_408) _ _ _ (by show (8 - z_757.toInt).toNat < (8 - x408_4.toInt).toNat; omega) ⟨(by show 0 ≤ z_757.toInt; omega), (by show z_757.toInt ≤ 8; omega), (by show 0 ≤ x408_at.toInt; omega), (by show x408_at.toInt ≤ 1600; omega), by show a0.toInt ≤ x408_at.toInt; first | omega | assumption, by show x408_at.toInt ≤ tp.toInt; first | omega | assumption, (show tp = G_408.1 a 6 from by first | exact i408_6 | omega), (show p4 = G_408.1 paa 4 from by first | exact i408_7 | omega), i408_8, hF, hT, hS, lv_sub hl [1, 0, 3, 4, 5] rfl⟩
            · skip
              have tc_756 : x408_3.toInt = 0 := (fa_eq _ _).mp c_756
              refine lv_aload_n hx hb dX10_pathLine_97 rfl (lv_at hl 5 rfl) ?_
              refine t_getr cf_11 hx hb hts hown hK hT h_a (k := 23) (P := fun q => τ q = 73) rfl (fun _ h9 => h9) fl_X10_52 (fun _ h9 => h9) dX10_pathLine_98 (fun q_758 eq_758 hq_758 => ?_)
              have eq_758 := (hF.r h_a (by decide) rfl _).symm.trans eq_758
              refine lv_iload hx hb dX10_pathLine_101 (lv_at hl 0 rfl) ?_
              refine t_iald (n := 120) (i := z_755) rfl (by decide) hx hb hK hT hq_758 (hT.len hq_758 (by decide)) ⟨by omega, by omega⟩ dX10_pathLine_103 (fun z_759 ez_759 rz_759 => ?_)
              refine lv_iload_n hx hb dX10_pathLine_104 rfl (lv_at hl 3 rfl) ?_
              refine lv_icmp_ne (tgt := 124) hx hb dX10_pathLine_105 (by decide) (fun c_760 => ?_) (fun c_760 => ?_)
              · skip
                have tc_760 : ¬ z_759.toInt = r_10.toInt := fun h => c_760 ((fa_eq _ _).mpr h)
                refine lv_aload_n hx hb dX10_pathLine_124 rfl (lv_at hl 5 rfl) ?_
                refine t_getr cf_11 hx hb hts hown hK hT h_a (k := 23) (P := fun q => τ q = 73) rfl (fun _ h9 => h9) fl_X10_52 (fun _ h9 => h9) dX10_pathLine_125 (fun q_761 eq_761 hq_761 => ?_)
                have w_762 : q_758 = q_761 := Option.some.inj (eq_758.symm.trans ((hF.r h_a (by decide) rfl _).symm.trans eq_761))
                subst w_762
                refine lv_iload hx hb dX10_pathLine_128 (lv_at hl 0 rfl) ?_
                refine t_iald (n := 120) (i := z_755) rfl (by decide) hx hb hK hT hq_758 (hT.len hq_758 (by decide)) ⟨by omega, by omega⟩ dX10_pathLine_130 (fun z_763 ez_763 rz_763 => ?_)
                refine lv_aload_n hx hb dX10_pathLine_131 rfl (lv_at hl 5 rfl) ?_
                refine t_geti cf_11 hx hb hts hown hK hT h_a (k := 10) rfl fl_X10_145 (fun _ h9 => h9) dX10_pathLine_132 (fun z_764 ez_764 rz_764 => ?_)
                have ez_764 : z_764 = G_408.1 a 10 := ez_764
                refine lv_icmp_ne (tgt := 155) hx hb dX10_pathLine_135 (by decide) (fun c_765 => ?_) (fun c_765 => ?_)
                · skip
                  have tc_765 : ¬ z_763.toInt = z_764.toInt := fun h => c_765 ((fa_eq _ _).mpr h)
                  refine lv_iconst (v := 0) hx hb dX10_pathLine_155 (by decide) ?_
                  refine lv_istore_n (lv' := [(3, .int 0), (5, .int z_755), (4, .int x408_4), (2, .int r_10), (1, .int z_6), (0, .ref a)]) hx hb dX10_pathLine_156 rfl hl (by decide) rfl (fun ls hl => ?_)
                  obtain ⟨z_766, ez_766⟩ : ∃ y : Int32, y = x408_4 + 1 := ⟨_, rfl⟩
                  have tz_766 : z_766.toInt = x408_4.toInt + 1 := add_t ez_766 (show -2147483648 ≤ x408_4.toInt + 1 by omega) (show x408_4.toInt + 1 < 2147483648 by omega)
                  refine lv_iinc (v := z_766) (lv' := [(4, .int z_766), (3, .int 0), (5, .int z_755), (2, .int r_10), (1, .int z_6), (0, .ref a)]) hx hb dX10_pathLine_157 hl (k := 2) rfl (by rw [ez_766]; rfl) (by decide) rfl (fun ls hl => ?_)
                  refine lv_goto (tgt := 58) hx hb dX10_pathLine_160 (by decide) ?_
                  exact ih408 ((0 : Int32), z_766, x408_at, G_408) _ _ _ (by show (8 - z_766.toInt).toNat < (8 - x408_4.toInt).toNat; omega) ⟨(by show 0 ≤ z_766.toInt; omega), (by show z_766.toInt ≤ 8; omega), (by show 0 ≤ x408_at.toInt; omega), (by show x408_at.toInt ≤ 1600; omega), by show a0.toInt ≤ x408_at.toInt; first | omega | assumption, by show x408_at.toInt ≤ tp.toInt; first | omega | assumption, (show tp = G_408.1 a 6 from by first | exact i408_6 | omega), (show p4 = G_408.1 paa 4 from by first | exact i408_7 | omega), i408_8, hF, hT, hS, lv_sub hl [1, 0, 3, 4, 5] rfl⟩
                · skip
                  have tc_765 : z_763.toInt = z_764.toInt := (fa_eq _ _).mp c_765
                  refine lv_aload_n hx hb dX10_pathLine_138 rfl (lv_at hl 5 rfl) ?_
                  refine t_getr cf_11 hx hb hts hown hK hT h_a (k := 23) (P := fun q => τ q = 73) rfl (fun _ h9 => h9) fl_X10_52 (fun _ h9 => h9) dX10_pathLine_139 (fun q_767 eq_767 hq_767 => ?_)
                  have w_768 : q_758 = q_767 := Option.some.inj (eq_758.symm.trans ((hF.r h_a (by decide) rfl _).symm.trans eq_767))
                  subst w_768
                  refine lv_iload hx hb dX10_pathLine_142 (lv_at hl 0 rfl) ?_
                  refine lv_iconst (v := 1) hx hb dX10_pathLine_144 (by decide) ?_
                  refine lv_iadd hx hb dX10_pathLine_145 ?_
                  refine lv_topi (fun z_769 ez_769 => ?_)
                  have tz_769 : z_769.toInt = z_755.toInt + 1 := add_t ez_769 (show -2147483648 ≤ z_755.toInt + 1 by omega) (show z_755.toInt + 1 < 2147483648 by omega)
                  refine t_iald (n := 120) (i := z_769) rfl (by decide) hx hb hK hT hq_758 (hT.len hq_758 (by decide)) ⟨by omega, by omega⟩ dX10_pathLine_146 (fun z_770 ez_770 rz_770 => ?_)
                  refine lv_iload_n hx hb dX10_pathLine_147 rfl (lv_at hl 3 rfl) ?_
                  refine lv_icmp_ne (tgt := 155) hx hb dX10_pathLine_148 (by decide) (fun c_771 => ?_) (fun c_771 => ?_)
                  · skip
                    have tc_771 : ¬ z_770.toInt = r_10.toInt := fun h => c_771 ((fa_eq _ _).mpr h)
                    refine lv_iconst (v := 0) hx hb dX10_pathLine_155 (by decide) ?_
                    refine lv_istore_n (lv' := [(3, .int 0), (5, .int z_755), (4, .int x408_4), (2, .int r_10), (1, .int z_6), (0, .ref a)]) hx hb dX10_pathLine_156 rfl hl (by decide) rfl (fun ls hl => ?_)
                    obtain ⟨z_772, ez_772⟩ : ∃ y : Int32, y = x408_4 + 1 := ⟨_, rfl⟩
                    have tz_772 : z_772.toInt = x408_4.toInt + 1 := add_t ez_772 (show -2147483648 ≤ x408_4.toInt + 1 by omega) (show x408_4.toInt + 1 < 2147483648 by omega)
                    refine lv_iinc (v := z_772) (lv' := [(4, .int z_772), (3, .int 0), (5, .int z_755), (2, .int r_10), (1, .int z_6), (0, .ref a)]) hx hb dX10_pathLine_157 hl (k := 2) rfl (by rw [ez_772]; rfl) (by decide) rfl (fun ls hl => ?_)
                    refine lv_goto (tgt := 58) hx hb dX10_pathLine_160 (by decide) ?_
                    exact ih408 ((0 : Int32), z_772, x408_at, G_408) _ _ _ (by show (8 - z_772.toInt).toNat < (8 - x408_4.toInt).toNat; omega) ⟨(by show 0 ≤ z_772.toInt; omega), (by show z_772.toInt ≤ 8; omega), (by show 0 ≤ x408_at.toInt; omega), (by show x408_at.toInt ≤ 1600; omega), by show a0.toInt ≤ x408_at.toInt; first | omega | assumption, by show x408_at.toInt ≤ tp.toInt; first | omega | assumption, (show tp = G_408.1 a 6 from by first | exact i408_6 | omega), (show p4 = G_408.1 paa 4 from by first | exact i408_7 | omega), i408_8, hF, hT, hS, lv_sub hl [1, 0, 3, 4, 5] rfl⟩
                  · skip
                    have tc_771 : z_770.toInt = r_10.toInt := (fa_eq _ _).mp c_771
                    refine lv_iconst (v := 1) hx hb dX10_pathLine_151 (by decide) ?_
                    refine lv_goto (tgt := 156) hx hb dX10_pathLine_152 (by decide) ?_
                    refine lv_istore_n (lv' := [(3, .int 1), (5, .int z_755), (4, .int x408_4), (2, .int r_10), (1, .int z_6), (0, .ref a)]) hx hb dX10_pathLine_156 rfl hl (by decide) rfl (fun ls hl => ?_)
                    obtain ⟨z_773, ez_773⟩ : ∃ y : Int32, y = x408_4 + 1 := ⟨_, rfl⟩
                    have tz_773 : z_773.toInt = x408_4.toInt + 1 := add_t ez_773 (show -2147483648 ≤ x408_4.toInt + 1 by omega) (show x408_4.toInt + 1 < 2147483648 by omega)
                    refine lv_iinc (v := z_773) (lv' := [(4, .int z_773), (3, .int 1), (5, .int z_755), (2, .int r_10), (1, .int z_6), (0, .ref a)]) hx hb dX10_pathLine_157 hl (k := 2) rfl (by rw [ez_773]; rfl) (by decide) rfl (fun ls hl => ?_)
                    refine lv_goto (tgt := 58) hx hb dX10_pathLine_160 (by decide) ?_
                    exact ih408 ((1 : Int32), z_773, x408_at, G_408) _ _ _ (by show (8 - z_773.toInt).toNat < (8 - x408_4.toInt).toNat; omega) ⟨(by show 0 ≤ z_773.toInt; omega), (by show z_773.toInt ≤ 8; omega), (by show 0 ≤ x408_at.toInt; omega), (by show x408_at.toInt ≤ 1600; omega), by show a0.toInt ≤ x408_at.toInt; first | omega | assumption, by show x408_at.toInt ≤ tp.toInt; first | omega | assumption, (show tp = G_408.1 a 6 from by first | exact i408_6 | omega), (show p4 = G_408.1 paa 4 from by first | exact i408_7 | omega), i408_8, hF, hT, hS, lv_sub hl [1, 0, 3, 4, 5] rfl⟩
              · skip
                have tc_760 : z_759.toInt = r_10.toInt := (fa_eq _ _).mp c_760
                refine lv_aload_n hx hb dX10_pathLine_108 rfl (lv_at hl 5 rfl) ?_
                refine t_getr cf_11 hx hb hts hown hK hT h_a (k := 23) (P := fun q => τ q = 73) rfl (fun _ h9 => h9) fl_X10_52 (fun _ h9 => h9) dX10_pathLine_109 (fun q_774 eq_774 hq_774 => ?_)
                have w_775 : q_758 = q_774 := Option.some.inj (eq_758.symm.trans ((hF.r h_a (by decide) rfl _).symm.trans eq_774))
                subst w_775
                refine lv_iload hx hb dX10_pathLine_112 (lv_at hl 0 rfl) ?_
                refine lv_iconst (v := 1) hx hb dX10_pathLine_114 (by decide) ?_
                refine lv_iadd hx hb dX10_pathLine_115 ?_
                refine lv_topi (fun z_776 ez_776 => ?_)
                have tz_776 : z_776.toInt = z_755.toInt + 1 := add_t ez_776 (show -2147483648 ≤ z_755.toInt + 1 by omega) (show z_755.toInt + 1 < 2147483648 by omega)
                refine t_iald (n := 120) (i := z_776) rfl (by decide) hx hb hK hT hq_758 (hT.len hq_758 (by decide)) ⟨by omega, by omega⟩ dX10_pathLine_116 (fun z_777 ez_777 rz_777 => ?_)
                refine lv_aload_n hx hb dX10_pathLine_117 rfl (lv_at hl 5 rfl) ?_
                refine t_geti cf_11 hx hb hts hown hK hT h_a (k := 10) rfl fl_X10_145 (fun _ h9 => h9) dX10_pathLine_118 (fun z_778 ez_778 rz_778 => ?_)
                have ez_778 : z_778 = G_408.1 a 10 := ez_778
                refine lv_icmp_eq (tgt := 151) hx hb dX10_pathLine_121 (by decide) (fun c_779 => ?_) (fun c_779 => ?_)
                · skip
                  have tc_779 : z_777.toInt = z_778.toInt := (fa_eq _ _).mp c_779
                  refine lv_iconst (v := 1) hx hb dX10_pathLine_151 (by decide) ?_
                  refine lv_goto (tgt := 156) hx hb dX10_pathLine_152 (by decide) ?_
                  refine lv_istore_n (lv' := [(3, .int 1), (5, .int z_755), (4, .int x408_4), (2, .int r_10), (1, .int z_6), (0, .ref a)]) hx hb dX10_pathLine_156 rfl hl (by decide) rfl (fun ls hl => ?_)
                  obtain ⟨z_780, ez_780⟩ : ∃ y : Int32, y = x408_4 + 1 := ⟨_, rfl⟩
                  have tz_780 : z_780.toInt = x408_4.toInt + 1 := add_t ez_780 (show -2147483648 ≤ x408_4.toInt + 1 by omega) (show x408_4.toInt + 1 < 2147483648 by omega)
                  refine lv_iinc (v := z_780) (lv' := [(4, .int z_780), (3, .int 1), (5, .int z_755), (2, .int r_10), (1, .int z_6), (0, .ref a)]) hx hb dX10_pathLine_157 hl (k := 2) rfl (by rw [ez_780]; rfl) (by decide) rfl (fun ls hl => ?_)
                  refine lv_goto (tgt := 58) hx hb dX10_pathLine_160 (by decide) ?_
                  exact ih408 ((1 : Int32), z_780, x408_at, G_408) _ _ _ (by show (8 - z_780.toInt).toNat < (8 - x408_4.toInt).toNat; omega) ⟨(by show 0 ≤ z_780.toInt; omega), (by show z_780.toInt ≤ 8; omega), (by show 0 ≤ x408_at.toInt; omega), (by show x408_at.toInt ≤ 1600; omega), by show a0.toInt ≤ x408_at.toInt; first | omega | assumption, by show x408_at.toInt ≤ tp.toInt; first | omega | assumption, (show tp = G_408.1 a 6 from by first | exact i408_6 | omega), (show p4 = G_408.1 paa 4 from by first | exact i408_7 | omega), i408_8, hF, hT, hS, lv_sub hl [1, 0, 3, 4, 5] rfl⟩
                · skip
                  have tc_779 : ¬ z_777.toInt = z_778.toInt := fun h => c_779 ((fa_eq _ _).mpr h)
                  refine lv_aload_n hx hb dX10_pathLine_124 rfl (lv_at hl 5 rfl) ?_
                  refine t_getr cf_11 hx hb hts hown hK hT h_a (k := 23) (P := fun q => τ q = 73) rfl (fun _ h9 => h9) fl_X10_52 (fun _ h9 => h9) dX10_pathLine_125 (fun q_781 eq_781 hq_781 => ?_)
                  have w_782 : q_758 = q_781 := Option.some.inj (eq_758.symm.trans ((hF.r h_a (by decide) rfl _).symm.trans eq_781))
                  subst w_782
                  refine lv_iload hx hb dX10_pathLine_128 (lv_at hl 0 rfl) ?_
                  refine t_iald (n := 120) (i := z_755) rfl (by decide) hx hb hK hT hq_758 (hT.len hq_758 (by decide)) ⟨by omega, by omega⟩ dX10_pathLine_130 (fun z_783 ez_783 rz_783 => ?_)
                  refine lv_aload_n hx hb dX10_pathLine_131 rfl (lv_at hl 5 rfl) ?_
                  refine t_geti cf_11 hx hb hts hown hK hT h_a (k := 10) rfl fl_X10_145 (fun _ h9 => h9) dX10_pathLine_132 (fun z_784 ez_784 rz_784 => ?_)
                  have w_785 : z_778 = z_784 := ez_778.trans ez_784.symm
                  subst w_785
                  refine lv_icmp_ne (tgt := 155) hx hb dX10_pathLine_135 (by decide) (fun c_786 => ?_) (fun c_786 => ?_)
                  · skip
                    have tc_786 : ¬ z_783.toInt = z_778.toInt := fun h => c_786 ((fa_eq _ _).mpr h)
                    refine lv_iconst (v := 0) hx hb dX10_pathLine_155 (by decide) ?_
                    refine lv_istore_n (lv' := [(3, .int 0), (5, .int z_755), (4, .int x408_4), (2, .int r_10), (1, .int z_6), (0, .ref a)]) hx hb dX10_pathLine_156 rfl hl (by decide) rfl (fun ls hl => ?_)
                    obtain ⟨z_787, ez_787⟩ : ∃ y : Int32, y = x408_4 + 1 := ⟨_, rfl⟩
                    have tz_787 : z_787.toInt = x408_4.toInt + 1 := add_t ez_787 (show -2147483648 ≤ x408_4.toInt + 1 by omega) (show x408_4.toInt + 1 < 2147483648 by omega)
                    refine lv_iinc (v := z_787) (lv' := [(4, .int z_787), (3, .int 0), (5, .int z_755), (2, .int r_10), (1, .int z_6), (0, .ref a)]) hx hb dX10_pathLine_157 hl (k := 2) rfl (by rw [ez_787]; rfl) (by decide) rfl (fun ls hl => ?_)
                    refine lv_goto (tgt := 58) hx hb dX10_pathLine_160 (by decide) ?_
                    exact ih408 ((0 : Int32), z_787, x408_at, G_408) _ _ _ (by show (8 - z_787.toInt).toNat < (8 - x408_4.toInt).toNat; omega) ⟨(by show 0 ≤ z_787.toInt; omega), (by show z_787.toInt ≤ 8; omega), (by show 0 ≤ x408_at.toInt; omega), (by show x408_at.toInt ≤ 1600; omega), by show a0.toInt ≤ x408_at.toInt; first | omega | assumption, by show x408_at.toInt ≤ tp.toInt; first | omega | assumption, (show tp = G_408.1 a 6 from by first | exact i408_6 | omega), (show p4 = G_408.1 paa 4 from by first | exact i408_7 | omega), i408_8, hF, hT, hS, lv_sub hl [1, 0, 3, 4, 5] rfl⟩
                  · skip
                    have tc_786 : z_783.toInt = z_778.toInt := (fa_eq _ _).mp c_786
                    refine lv_aload_n hx hb dX10_pathLine_138 rfl (lv_at hl 5 rfl) ?_
                    refine t_getr cf_11 hx hb hts hown hK hT h_a (k := 23) (P := fun q => τ q = 73) rfl (fun _ h9 => h9) fl_X10_52 (fun _ h9 => h9) dX10_pathLine_139 (fun q_788 eq_788 hq_788 => ?_)
                    have w_789 : q_758 = q_788 := Option.some.inj (eq_758.symm.trans ((hF.r h_a (by decide) rfl _).symm.trans eq_788))
                    subst w_789
                    refine lv_iload hx hb dX10_pathLine_142 (lv_at hl 0 rfl) ?_
                    refine lv_iconst (v := 1) hx hb dX10_pathLine_144 (by decide) ?_
                    refine lv_iadd hx hb dX10_pathLine_145 ?_
                    refine lv_topi (fun z_790 ez_790 => ?_)
                    have w_791 : z_776 = z_790 := ez_776.trans ez_790.symm
                    subst w_791
                    refine t_iald (n := 120) (i := z_776) rfl (by decide) hx hb hK hT hq_758 (hT.len hq_758 (by decide)) ⟨by omega, by omega⟩ dX10_pathLine_146 (fun z_792 ez_792 rz_792 => ?_)
                    refine lv_iload_n hx hb dX10_pathLine_147 rfl (lv_at hl 3 rfl) ?_
                    refine lv_icmp_ne (tgt := 155) hx hb dX10_pathLine_148 (by decide) (fun c_793 => ?_) (fun c_793 => ?_)
                    · skip
                      have tc_793 : ¬ z_792.toInt = r_10.toInt := fun h => c_793 ((fa_eq _ _).mpr h)
                      refine lv_iconst (v := 0) hx hb dX10_pathLine_155 (by decide) ?_
                      refine lv_istore_n (lv' := [(3, .int 0), (5, .int z_755), (4, .int x408_4), (2, .int r_10), (1, .int z_6), (0, .ref a)]) hx hb dX10_pathLine_156 rfl hl (by decide) rfl (fun ls hl => ?_)
                      obtain ⟨z_794, ez_794⟩ : ∃ y : Int32, y = x408_4 + 1 := ⟨_, rfl⟩
                      have tz_794 : z_794.toInt = x408_4.toInt + 1 := add_t ez_794 (show -2147483648 ≤ x408_4.toInt + 1 by omega) (show x408_4.toInt + 1 < 2147483648 by omega)
                      refine lv_iinc (v := z_794) (lv' := [(4, .int z_794), (3, .int 0), (5, .int z_755), (2, .int r_10), (1, .int z_6), (0, .ref a)]) hx hb dX10_pathLine_157 hl (k := 2) rfl (by rw [ez_794]; rfl) (by decide) rfl (fun ls hl => ?_)
                      refine lv_goto (tgt := 58) hx hb dX10_pathLine_160 (by decide) ?_
                      exact ih408 ((0 : Int32), z_794, x408_at, G_408) _ _ _ (by show (8 - z_794.toInt).toNat < (8 - x408_4.toInt).toNat; omega) ⟨(by show 0 ≤ z_794.toInt; omega), (by show z_794.toInt ≤ 8; omega), (by show 0 ≤ x408_at.toInt; omega), (by show x408_at.toInt ≤ 1600; omega), by show a0.toInt ≤ x408_at.toInt; first | omega | assumption, by show x408_at.toInt ≤ tp.toInt; first | omega | assumption, (show tp = G_408.1 a 6 from by first | exact i408_6 | omega), (show p4 = G_408.1 paa 4 from by first | exact i408_7 | omega), i408_8, hF, hT, hS, lv_sub hl [1, 0, 3, 4, 5] rfl⟩
                    · skip
                      have tc_793 : z_792.toInt = r_10.toInt := (fa_eq _ _).mp c_793
                      refine lv_iconst (v := 1) hx hb dX10_pathLine_151 (by decide) ?_
                      refine lv_goto (tgt := 156) hx hb dX10_pathLine_152 (by decide) ?_
                      refine lv_istore_n (lv' := [(3, .int 1), (5, .int z_755), (4, .int x408_4), (2, .int r_10), (1, .int z_6), (0, .ref a)]) hx hb dX10_pathLine_156 rfl hl (by decide) rfl (fun ls hl => ?_)
                      obtain ⟨z_795, ez_795⟩ : ∃ y : Int32, y = x408_4 + 1 := ⟨_, rfl⟩
                      have tz_795 : z_795.toInt = x408_4.toInt + 1 := add_t ez_795 (show -2147483648 ≤ x408_4.toInt + 1 by omega) (show x408_4.toInt + 1 < 2147483648 by omega)
                      refine lv_iinc (v := z_795) (lv' := [(4, .int z_795), (3, .int 1), (5, .int z_755), (2, .int r_10), (1, .int z_6), (0, .ref a)]) hx hb dX10_pathLine_157 hl (k := 2) rfl (by rw [ez_795]; rfl) (by decide) rfl (fun ls hl => ?_)
                      refine lv_goto (tgt := 58) hx hb dX10_pathLine_160 (by decide) ?_
                      exact ih408 ((1 : Int32), z_795, x408_at, G_408) _ _ _ (by show (8 - z_795.toInt).toNat < (8 - x408_4.toInt).toNat; omega) ⟨(by show 0 ≤ z_795.toInt; omega), (by show z_795.toInt ≤ 8; omega), (by show 0 ≤ x408_at.toInt; omega), (by show x408_at.toInt ≤ 1600; omega), by show a0.toInt ≤ x408_at.toInt; first | omega | assumption, by show x408_at.toInt ≤ tp.toInt; first | omega | assumption, (show tp = G_408.1 a 6 from by first | exact i408_6 | omega), (show p4 = G_408.1 paa 4 from by first | exact i408_7 | omega), i408_8, hF, hT, hS, lv_sub hl [1, 0, 3, 4, 5] rfl⟩
    · skip
      have tc_407 : z_406.toInt = 2 := (fa_eq _ _).mp c_407
      refine lv_aload_n hx hb dX10_pathLine_41 rfl (lv_at hl 2 rfl) ?_
      refine t_geti cf_11 hx hb hts hown hK hT h_a (k := 10) rfl fl_X10_145 (fun _ h9 => h9) dX10_pathLine_42 (fun z_796 ez_796 rz_796 => ?_)
      have ez_796 : z_796 = G_10.1 a 10 := ez_796
      refine lv_iload_n hx hb dX10_pathLine_45 rfl (lv_at hl 0 rfl) ?_
      refine lv_icmp_ne (tgt := 53) hx hb dX10_pathLine_46 (by decide) (fun c_797 => ?_) (fun c_797 => ?_)
      · skip
        have tc_797 : ¬ z_796.toInt = r_10.toInt := fun h => c_797 ((fa_eq _ _).mpr h)
        refine lv_iconst (v := 0) hx hb dX10_pathLine_53 (by decide) ?_
        refine lv_istore_n (lv' := [(3, .int 0), (2, .int r_10), (1, .int z_6), (0, .ref a)]) hx hb dX10_pathLine_54 rfl hl (by decide) rfl (fun ls hl => ?_)
        refine lv_iconst (v := 0) hx hb dX10_pathLine_55 (by decide) ?_
        refine lv_istore (lv' := [(4, .int 0), (3, .int 0), (2, .int r_10), (1, .int z_6), (0, .ref a)]) hx hb dX10_pathLine_56 hl (by decide) rfl (fun ls hl => ?_)
        refine W.loop (σ := Int32 × Int32 × Int32 × Gh) (fun w798 H locs ls => 0 ≤ w798.2.1.toInt ∧ w798.2.1.toInt ≤ 8 ∧ 0 ≤ w798.2.2.1.toInt ∧ w798.2.2.1.toInt ≤ 1600 ∧ (a0.toInt ≤ w798.2.2.1.toInt) ∧ (w798.2.2.1.toInt ≤ tp.toInt) ∧ tp = w798.2.2.2.1 a 6 ∧ p4 = w798.2.2.2.1 paa 4 ∧ w798.2.2.1 = w798.2.2.2.1 a 7 ∧ Fr τ [11, 72, 73] G w798.2.2.2 ∧ TY D cy base τ w798.2.2.2 H ∧ va_S (RA base) s.heap H locs ∧ lv_has ls 6 [(3, .int w798.1), (4, .int w798.2.1), (2, .int r_10), (1, .int z_6), (0, .ref a)]) (fun w798 => (8 - w798.2.1.toInt).toNat) ?_ ((0 : Int32), (0 : Int32), z_15, G_10) _ _ _ ⟨(by show 0 ≤ (0 : Int32).toInt; decide), (by show (0 : Int32).toInt ≤ 8; decide), (by show 0 ≤ z_15.toInt; omega), (by show z_15.toInt ≤ 1600; omega), (by show a0.toInt ≤ z_15.toInt; first | omega | assumption | exact rfl), (by show z_15.toInt ≤ tp.toInt; first | omega | assumption | exact rfl), (by show tp = G_10.1 a 6; exact k_14), (by show p4 = G_10.1 paa 4; exact k_13), ez_15, hF, hT, hS, lv_sub hl [1, 0, 2, 3, 4] rfl⟩
        intro w798 H locs ls hI ih798
        obtain ⟨x798_3, x798_4, x798_at, G_798⟩ := w798
        obtain ⟨i798_0, i798_1, i798_2, i798_3, i798_4, i798_5, i798_6, i798_7, i798_8, hF, hT, hS, hl⟩ := hI
        have i798_0 : 0 ≤ x798_4.toInt := i798_0
        have i798_1 : x798_4.toInt ≤ 8 := i798_1
        have i798_2 : 0 ≤ x798_at.toInt := i798_2
        have i798_3 : x798_at.toInt ≤ 1600 := i798_3
        have i798_4 : (a0.toInt ≤ x798_at.toInt) := i798_4
        have i798_5 : (x798_at.toInt ≤ tp.toInt) := i798_5
        have i798_6 : tp = G_798.1 a 6 := i798_6
        have i798_7 : p4 = G_798.1 paa 4 := i798_7
        have i798_8 : x798_at = G_798.1 a 7 := i798_8
        have hF : Fr τ [11, 72, 73] G G_798 := hF
        have hT : TY D cy base τ G_798 H := hT
        have hS : va_S (RA base) s.heap H locs := hS
        have hl : lv_has ls 6 [(3, .int x798_3), (4, .int x798_4), (2, .int r_10), (1, .int z_6), (0, .ref a)] := hl
        refine lv_iload hx hb dX10_pathLine_58 (lv_at hl 1 rfl) ?_
        refine lv_aload_n hx hb dX10_pathLine_60 rfl (lv_at hl 4 rfl) ?_
        refine t_getr cf_11 hx hb hts hown hK hT h_a (k := 22) (P := fun q => τ q = 72) rfl (fun _ h9 => h9) fl_X10_49 (fun _ h9 => h9) dX10_pathLine_61 (fun q_799 eq_799 hq_799 => ?_)
        have w_800 : paa = q_799 := Option.some.inj (e_paa.symm.trans ((hF.r h_a (by decide) rfl _).symm.trans eq_799))
        subst w_800
        refine lv_iconst (v := 4) hx hb dX10_pathLine_64 (by decide) ?_
        refine t_iald (n := 5) (i := 4) rfl (by decide) hx hb hK hT h_paa (hT.len h_paa (by decide)) ⟨by decide, by decide⟩ dX10_pathLine_65 (fun z_801 ez_801 rz_801 => ?_)
        have w_802 : p4 = z_801 := i798_7.trans ez_801.symm
        subst w_802
        refine lv_icmp_ge (tgt := 163) hx hb dX10_pathLine_66 (by decide) (fun c_803 => ?_) (fun c_803 => ?_)
        · skip
          have tc_803 : p4.toInt ≤ x798_4.toInt := (fa_le _ _).mp c_803
          refine lv_iload_n hx hb dX10_pathLine_163 rfl (lv_at hl 0 rfl) ?_
          refine lv_if_eq (tgt := 172) hx hb dX10_pathLine_164 (by decide) (fun c_804 => ?_) (fun c_804 => ?_)
          · skip
            have tc_804 : x798_3.toInt = 0 := (fa_eq _ _).mp c_804
            refine lv_aload_n hx hb dX10_pathLine_172 rfl (lv_at hl 4 rfl) ?_
            refine t_getr cf_11 hx hb hts hown hK hT h_a (k := 23) (P := fun q => τ q = 73) rfl (fun _ h9 => h9) fl_X10_52 (fun _ h9 => h9) dX10_pathLine_173 (fun q_805 eq_805 hq_805 => ?_)
            have eq_805 := (hF.r h_a (by decide) rfl _).symm.trans eq_805
            refine lv_iload_n hx hb dX10_pathLine_176 rfl (lv_at hl 3 rfl) ?_
            refine lv_iload_n hx hb dX10_pathLine_177 rfl (lv_at hl 2 rfl) ?_
            refine t_iast (n := 120) (i := z_6) (x := r_10) rfl (by decide) hx hb hK hT hS hq_805 (hT.len hq_805 (by decide)) ⟨by omega, by omega⟩ trivial dX10_pathLine_178 (fun H locs G_806 eG_806 hT hS => ?_)
            have hF := hF.wI eG_806 hq_805 rfl
            have k_807 : tp = G_806.1 a 6 := by rw [eG_806, wI_ne (Or.inl (tag_ne hq_805 h_a (by decide)))]; exact i798_6
            have k_808 : p4 = G_806.1 paa 4 := by rw [eG_806, wI_ne (Or.inl (tag_ne hq_805 h_paa (by decide)))]; exact i798_7
            have k_809 : x798_at = G_806.1 a 7 := by rw [eG_806, wI_ne (Or.inl (tag_ne hq_805 h_a (by decide)))]; exact i798_8
            refine lv_aload_n hx hb dX10_pathLine_179 rfl (lv_at hl 4 rfl) ?_
            refine t_getr cf_11 hx hb hts hown hK hT h_a (k := 23) (P := fun q => τ q = 73) rfl (fun _ h9 => h9) fl_X10_52 (fun _ h9 => h9) dX10_pathLine_180 (fun q_810 eq_810 hq_810 => ?_)
            have w_811 : q_805 = q_810 := Option.some.inj (eq_805.symm.trans ((hF.r h_a (by decide) rfl _).symm.trans eq_810))
            subst w_811
            refine lv_iload_n hx hb dX10_pathLine_183 rfl (lv_at hl 3 rfl) ?_
            refine lv_iconst (v := 1) hx hb dX10_pathLine_184 (by decide) ?_
            refine lv_iadd hx hb dX10_pathLine_185 ?_
            refine lv_topi (fun z_812 ez_812 => ?_)
            have tz_812 : z_812.toInt = z_6.toInt + 1 := add_t ez_812 (show -2147483648 ≤ z_6.toInt + 1 by omega) (show z_6.toInt + 1 < 2147483648 by omega)
            refine lv_aload_n hx hb dX10_pathLine_186 rfl (lv_at hl 4 rfl) ?_
            refine lv_iconst (v := 0) hx hb dX10_pathLine_187 (by decide) ?_
            refine lv_aload_n hx hb dX10_pathLine_188 rfl (lv_at hl 4 rfl) ?_
            refine t_getr cf_11 hx hb hts hown hK hT h_a (k := 20) (P := fun q => τ q = 70) rfl (fun _ h9 => h9) fl_X10_43 (fun _ h9 => h9) dX10_pathLine_189 (fun q_813 eq_813 hq_813 => ?_)
            have w_814 : q_7 = q_813 := Option.some.inj (eq_7.symm.trans ((hF.r h_a (by decide) rfl _).symm.trans eq_813))
            subst w_814
            refine lv_iconst (v := 4) hx hb dX10_pathLine_192 (by decide) ?_
            refine t_iald (n := 5) (i := 4) rfl (by decide) hx hb hK hT hq_7 (hT.len hq_7 (by decide)) ⟨by decide, by decide⟩ dX10_pathLine_193 (fun z_815 ez_815 rz_815 => ?_)
            have w_816 : z_8 = z_815 := ez_8.trans (ez_815.trans (hF.i hq_7 (by decide) rfl _)).symm
            subst w_816
            refine lv_iconst (v := 1) hx hb dX10_pathLine_194 (by decide) ?_
            refine lv_isub hx hb dX10_pathLine_195 ?_
            refine lv_topi (fun z_817 ez_817 => ?_)
            have w_818 : z_9 = z_817 := ez_9.trans ez_817.symm
            subst w_818
            refine t_calli (runV (As := [.int 0, .int z_9]) (rest := [.int z_812, .ref q_805]) ⟨hx, hb, hml, hown, hts⟩ (t_X10_number l D cy base τ G_806 a h_a 0 z_9 tp k_807 ⟨by omega, by omega⟩ x798_at k_809 ⟨by omega, by omega⟩ (by show x798_at.toInt ≤ tp.toInt; first | assumption | omega | decide)) sV_X10_186 hK (t_recv cf_11 hK hT h_a) ⟨Nat.le_trans hZ hS.1, hT⟩ ⟨Nat.le_of_ble_eq_true rfl, Nat.le_of_ble_eq_true rfl⟩ rfl hl.1 rfl (Nat.le_of_ble_eq_true rfl) dX10_pathLine_196 ⟨Nat.le_of_ble_eq_true rfl, Nat.le_of_ble_eq_true rfl⟩) hS (fun r_819 G_819 H locs hF_819 hr_819 hT hS => ?_)
            have hF := hF.tr hF_819 rfl
            have k_821 : p4 = G_819.1 paa 4 := k_808.trans (hF_819.i h_paa (by decide) rfl _).symm
            obtain ⟨hr_819_p0, hr_819_p1, hr_819_p2, hr_819_s0⟩ := hr_819
            have k_823 : tp = G_819.1 a 6 := k_807.trans hr_819_s0.symm
            obtain ⟨z_824, ez_824, hr_819_p0, hr_819_p1, hr_819_p2⟩ : ∃ z_824 : Int32, z_824 = G_819.1 a 7 ∧ (x798_at.toInt ≤ z_824.toInt) ∧ (z_824.toInt ≤ tp.toInt) ∧ (r_819.toInt = (0 : Int) ∨ ((0 : Int) ≤ r_819.toInt ∧ r_819.toInt ≤ z_9.toInt)) := ⟨_, rfl, hr_819_p0, hr_819_p1, hr_819_p2⟩
            have rz_824 : 0 ≤ z_824.toInt ∧ z_824.toInt ≤ 1600 := by rw [ez_824]; exact hT.rgi h_a (by decide) 7
            refine t_iast (n := 120) (i := z_812) (x := r_819) rfl (by decide) hx hb hK hT hS hq_805 (hT.len hq_805 (by decide)) ⟨by omega, by omega⟩ trivial dX10_pathLine_199 (fun H locs G_825 eG_825 hT hS => ?_)
            have hF := hF.wI eG_825 hq_805 rfl
            have k_826 : p4 = G_825.1 paa 4 := by rw [eG_825, wI_ne (Or.inl (tag_ne hq_805 h_paa (by decide)))]; exact k_821
            have k_827 : tp = G_825.1 a 6 := by rw [eG_825, wI_ne (Or.inl (tag_ne hq_805 h_a (by decide)))]; exact k_823
            have k_828 : z_824 = G_825.1 a 7 := by rw [eG_825, wI_ne (Or.inl (tag_ne hq_805 h_a (by decide)))]; exact ez_824
            refine lv_aload_n hx hb dX10_pathLine_200 rfl (lv_at hl 4 rfl) ?_
            refine t_getr cf_11 hx hb hts hown hK hT h_a (k := 23) (P := fun q => τ q = 73) rfl (fun _ h9 => h9) fl_X10_52 (fun _ h9 => h9) dX10_pathLine_201 (fun q_829 eq_829 hq_829 => ?_)
            have w_830 : q_805 = q_829 := Option.some.inj (eq_805.symm.trans ((hF.r h_a (by decide) rfl _).symm.trans eq_829))
            subst w_830
            refine lv_iload_n hx hb dX10_pathLine_204 rfl (lv_at hl 3 rfl) ?_
            refine lv_iconst (v := 2) hx hb dX10_pathLine_205 (by decide) ?_
            refine lv_iadd hx hb dX10_pathLine_206 ?_
            refine lv_topi (fun z_831 ez_831 => ?_)
            have tz_831 : z_831.toInt = z_6.toInt + 2 := add_t ez_831 (show -2147483648 ≤ z_6.toInt + 2 by omega) (show z_6.toInt + 2 < 2147483648 by omega)
            refine lv_aload_n hx hb dX10_pathLine_207 rfl (lv_at hl 4 rfl) ?_
            refine lv_ldc2 (v := 80155) hx hb hown (hts _ kl_X10_195) dX10_pathLine_208 ?_
            refine lv_iconst (v := 1) hx hb dX10_pathLine_211 (by decide) ?_
            refine lv_bipush (v := 30) hx hb dX10_pathLine_212 (by decide) ?_
            refine t_calli (runV (As := [.long 80155, .int 1, .int 30]) (rest := [.int z_831, .ref q_805]) ⟨hx, hb, hml, hown, hts⟩ (t_X10_number_ l D cy base τ G_825 a h_a 80155 1 30 tp k_827 ⟨by omega, by omega⟩ z_824 k_828 ⟨by omega, by omega⟩ (by show z_824.toInt ≤ tp.toInt; first | assumption | omega | decide)) sV_X10_197 hK (t_recv cf_11 hK hT h_a) ⟨Nat.le_trans hZ hS.1, hT⟩ ⟨Nat.le_of_ble_eq_true rfl, Nat.le_of_ble_eq_true rfl⟩ rfl hl.1 rfl (Nat.le_of_ble_eq_true rfl) dX10_pathLine_214 ⟨Nat.le_of_ble_eq_true rfl, Nat.le_of_ble_eq_true rfl⟩) hS (fun r_832 G_832 H locs hF_832 hr_832 hT hS => ?_)
            have hF := hF.tr hF_832 rfl
            have k_833 : p4 = G_832.1 paa 4 := k_826.trans (hF_832.i h_paa (by decide) rfl _).symm
            obtain ⟨hr_832_p0, hr_832_p1, hr_832_p2, hr_832_s0⟩ := hr_832
            have k_836 : tp = G_832.1 a 6 := k_827.trans hr_832_s0.symm
            obtain ⟨z_837, ez_837, hr_832_p0, hr_832_p1, hr_832_p2⟩ : ∃ z_837 : Int32, z_837 = G_832.1 a 7 ∧ (z_824.toInt ≤ z_837.toInt) ∧ (z_837.toInt ≤ tp.toInt) ∧ (r_832.toInt = (1 : Int) ∨ ((1 : Int) ≤ r_832.toInt ∧ r_832.toInt ≤ (30 : Int))) := ⟨_, rfl, hr_832_p0, hr_832_p1, hr_832_p2⟩
            have rz_837 : 0 ≤ z_837.toInt ∧ z_837.toInt ≤ 1600 := by rw [ez_837]; exact hT.rgi h_a (by decide) 7
            refine t_iast (n := 120) (i := z_831) (x := r_832) rfl (by decide) hx hb hK hT hS hq_805 (hT.len hq_805 (by decide)) ⟨by omega, by omega⟩ trivial dX10_pathLine_217 (fun H locs G_838 eG_838 hT hS => ?_)
            have hF := hF.wI eG_838 hq_805 rfl
            have k_839 : p4 = G_838.1 paa 4 := by rw [eG_838, wI_ne (Or.inl (tag_ne hq_805 h_paa (by decide)))]; exact k_833
            have k_840 : tp = G_838.1 a 6 := by rw [eG_838, wI_ne (Or.inl (tag_ne hq_805 h_a (by decide)))]; exact k_836
            have k_841 : z_837 = G_838.1 a 7 := by rw [eG_838, wI_ne (Or.inl (tag_ne hq_805 h_a (by decide)))]; exact ez_837
            refine lv_aload_n hx hb dX10_pathLine_218 rfl (lv_at hl 4 rfl) ?_
            refine t_getr cf_11 hx hb hts hown hK hT h_a (k := 22) (P := fun q => τ q = 72) rfl (fun _ h9 => h9) fl_X10_49 (fun _ h9 => h9) dX10_pathLine_219 (fun q_842 eq_842 hq_842 => ?_)
            have w_843 : paa = q_842 := Option.some.inj (e_paa.symm.trans ((hF.r h_a (by decide) rfl _).symm.trans eq_842))
            subst w_843
            refine lv_iconst (v := 4) hx hb dX10_pathLine_222 (by decide) ?_
            refine lv_dup2_11 hx hb dX10_pathLine_223 rfl rfl ?_
            refine t_iald (n := 5) (i := 4) rfl (by decide) hx hb hK hT h_paa (hT.len h_paa (by decide)) ⟨by decide, by decide⟩ dX10_pathLine_224 (fun z_844 ez_844 rz_844 => ?_)
            have w_845 : p4 = z_844 := k_839.trans ez_844.symm
            subst w_845
            refine lv_iconst (v := 1) hx hb dX10_pathLine_225 (by decide) ?_
            refine lv_iadd hx hb dX10_pathLine_226 ?_
            refine lv_topi (fun z_846 ez_846 => ?_)
            have tz_846 : z_846.toInt = p4.toInt + 1 := add_t ez_846 (show -2147483648 ≤ p4.toInt + 1 by omega) (show p4.toInt + 1 < 2147483648 by omega)
            refine t_iast (n := 5) (i := 4) (x := z_846) rfl (by decide) hx hb hK hT hS h_paa (hT.len h_paa (by decide)) ⟨by decide, by decide⟩ (show 0 ≤ z_846.toInt ∧ z_846.toInt ≤ 8 from ⟨by omega, by omega⟩) dX10_pathLine_227 (fun H locs G_847 eG_847 hT hS => ?_)
            have hF := hF.wI eG_847 h_paa rfl
            have eG_847 : G_847 = wI G_838 paa 4 z_846 := eG_847
            have k_849 : tp = G_847.1 a 6 := by rw [eG_847, wI_ne (Or.inl (tag_ne h_paa h_a (by decide)))]; exact k_840
            have k_850 : z_837 = G_847.1 a 7 := by rw [eG_847, wI_ne (Or.inl (tag_ne h_paa h_a (by decide)))]; exact k_841
            have k_851 : z_846 = G_847.1 paa 4 := by rw [eG_847, wI_at]
            exact ret_v hx hb hr hlocks ⟨⟨hS.1, hS.2.1⟩, G_847, hF, ⟨rfl, ⟨(by first | (show a0.toInt ≤ (G_847.1 a 7).toInt; rw [← k_850]; done) | (show a0.toInt ≤ (G_847.1 a 7).toInt; rw [← k_850]; show a0.toInt ≤ z_837.toInt; first | omega | assumption)), (by first | (show (G_847.1 a 7).toInt ≤ tp.toInt; rw [← k_850]; done) | (show (G_847.1 a 7).toInt ≤ tp.toInt; rw [← k_850]; show z_837.toInt ≤ tp.toInt; first | omega | assumption)), (k_849.symm.trans e_tp)⟩⟩, hT⟩ hS.2.2 (Nat.le_of_ble_eq_true rfl) (Nat.le_of_ble_eq_true rfl) dX10_pathLine_228
          · skip
            have tc_804 : ¬ x798_3.toInt = 0 := fun h => c_804 ((fa_eq _ _).mpr h)
            refine lv_aload_n hx hb dX10_pathLine_167 rfl (lv_at hl 4 rfl) ?_
            refine lv_iconst (v := 2) hx hb dX10_pathLine_168 (by decide) ?_
            obtain ⟨z_852, ez_852⟩ : ∃ y : Int32, y = G_798.1 a 8 := ⟨_, rfl⟩
            obtain ⟨z_853, ez_853⟩ : ∃ y : Int32, y = G_798.1 a 12 := ⟨_, rfl⟩
            refine t_callv (runV (As := [.int 2]) (rest := []) ⟨hx, hb, hml, hown, hts⟩ (t_X10_fails l D cy base τ G_798 a h_a 2 (by decide) tp i798_6 ⟨by omega, by omega⟩ x798_at i798_8 ⟨by omega, by omega⟩ z_852 ez_852 z_853 ez_853) sV_X10_179 hK (t_recv cf_11 hK hT h_a) ⟨Nat.le_trans hZ hS.1, hT⟩ ⟨Nat.le_of_ble_eq_true rfl, Nat.le_of_ble_eq_true rfl⟩ rfl hl.1 rfl (Nat.le_of_ble_eq_true rfl) dX10_pathLine_169 ⟨Nat.le_of_ble_eq_true rfl, Nat.le_of_ble_eq_true rfl⟩) hS (fun G_854 H locs hF_854 hr_854 hT hS => ?_)
            have hF := hF.tr hF_854 rfl
            have k_856 : p4 = G_854.1 paa 4 := i798_7.trans (hF_854.i h_paa (by decide) rfl _).symm
            obtain ⟨hr_854_p0, hr_854_s0, hr_854_s1, hr_854_s2⟩ := hr_854
            have k_860 : tp = G_854.1 a 6 := i798_6.trans hr_854_s0.symm
            have k_861 : x798_at = G_854.1 a 7 := i798_8.trans hr_854_s1.symm
            have k_862 : z_852 = G_854.1 a 8 := ez_852.trans hr_854_s2.symm
            obtain ⟨z_863, ez_863, hr_854_p0⟩ : ∃ z_863 : Int32, z_863 = G_854.1 a 12 ∧ (z_863.toInt ≠ 0) := ⟨_, rfl, hr_854_p0⟩
            refine lv_aload_n hx hb dX10_pathLine_172 rfl (lv_at hl 4 rfl) ?_
            refine t_getr cf_11 hx hb hts hown hK hT h_a (k := 23) (P := fun q => τ q = 73) rfl (fun _ h9 => h9) fl_X10_52 (fun _ h9 => h9) dX10_pathLine_173 (fun q_864 eq_864 hq_864 => ?_)
            have eq_864 := (hF.r h_a (by decide) rfl _).symm.trans eq_864
            refine lv_iload_n hx hb dX10_pathLine_176 rfl (lv_at hl 3 rfl) ?_
            refine lv_iload_n hx hb dX10_pathLine_177 rfl (lv_at hl 2 rfl) ?_
            refine t_iast (n := 120) (i := z_6) (x := r_10) rfl (by decide) hx hb hK hT hS hq_864 (hT.len hq_864 (by decide)) ⟨by omega, by omega⟩ trivial dX10_pathLine_178 (fun H locs G_865 eG_865 hT hS => ?_)
            have hF := hF.wI eG_865 hq_864 rfl
            have k_866 : p4 = G_865.1 paa 4 := by rw [eG_865, wI_ne (Or.inl (tag_ne hq_864 h_paa (by decide)))]; exact k_856
            have k_867 : tp = G_865.1 a 6 := by rw [eG_865, wI_ne (Or.inl (tag_ne hq_864 h_a (by decide)))]; exact k_860
            have k_868 : x798_at = G_865.1 a 7 := by rw [eG_865, wI_ne (Or.inl (tag_ne hq_864 h_a (by decide)))]; exact k_861
            have k_869 : z_852 = G_865.1 a 8 := by rw [eG_865, wI_ne (Or.inl (tag_ne hq_864 h_a (by decide)))]; exact k_862
            have k_870 : z_863 = G_865.1 a 12 := by rw [eG_865, wI_ne (Or.inl (tag_ne hq_864 h_a (by decide)))]; exact ez_863
            refine lv_aload_n hx hb dX10_pathLine_179 rfl (lv_at hl 4 rfl) ?_
            refine t_getr cf_11 hx hb hts hown hK hT h_a (k := 23) (P := fun q => τ q = 73) rfl (fun _ h9 => h9) fl_X10_52 (fun _ h9 => h9) dX10_pathLine_180 (fun q_871 eq_871 hq_871 => ?_)
            have w_872 : q_864 = q_871 := Option.some.inj (eq_864.symm.trans ((hF.r h_a (by decide) rfl _).symm.trans eq_871))
            subst w_872
            refine lv_iload_n hx hb dX10_pathLine_183 rfl (lv_at hl 3 rfl) ?_
            refine lv_iconst (v := 1) hx hb dX10_pathLine_184 (by decide) ?_
            refine lv_iadd hx hb dX10_pathLine_185 ?_
            refine lv_topi (fun z_873 ez_873 => ?_)
            have tz_873 : z_873.toInt = z_6.toInt + 1 := add_t ez_873 (show -2147483648 ≤ z_6.toInt + 1 by omega) (show z_6.toInt + 1 < 2147483648 by omega)
            refine lv_aload_n hx hb dX10_pathLine_186 rfl (lv_at hl 4 rfl) ?_
            refine lv_iconst (v := 0) hx hb dX10_pathLine_187 (by decide) ?_
            refine lv_aload_n hx hb dX10_pathLine_188 rfl (lv_at hl 4 rfl) ?_
            refine t_getr cf_11 hx hb hts hown hK hT h_a (k := 20) (P := fun q => τ q = 70) rfl (fun _ h9 => h9) fl_X10_43 (fun _ h9 => h9) dX10_pathLine_189 (fun q_874 eq_874 hq_874 => ?_)
            have w_875 : q_7 = q_874 := Option.some.inj (eq_7.symm.trans ((hF.r h_a (by decide) rfl _).symm.trans eq_874))
            subst w_875
            refine lv_iconst (v := 4) hx hb dX10_pathLine_192 (by decide) ?_
            refine t_iald (n := 5) (i := 4) rfl (by decide) hx hb hK hT hq_7 (hT.len hq_7 (by decide)) ⟨by decide, by decide⟩ dX10_pathLine_193 (fun z_876 ez_876 rz_876 => ?_)
            have w_877 : z_8 = z_876 := ez_8.trans (ez_876.trans (hF.i hq_7 (by decide) rfl _)).symm
            subst w_877
            refine lv_iconst (v := 1) hx hb dX10_pathLine_194 (by decide) ?_
            refine lv_isub hx hb dX10_pathLine_195 ?_
            refine lv_topi (fun z_878 ez_878 => ?_)
            have w_879 : z_9 = z_878 := ez_9.trans ez_878.symm
            subst w_879
            refine t_calli (runV (As := [.int 0, .int z_9]) (rest := [.int z_873, .ref q_864]) ⟨hx, hb, hml, hown, hts⟩ (t_X10_number l D cy base τ G_865 a h_a 0 z_9 tp k_867 ⟨by omega, by omega⟩ x798_at k_868 ⟨by omega, by omega⟩ (by show x798_at.toInt ≤ tp.toInt; first | assumption | omega | decide)) sV_X10_186 hK (t_recv cf_11 hK hT h_a) ⟨Nat.le_trans hZ hS.1, hT⟩ ⟨Nat.le_of_ble_eq_true rfl, Nat.le_of_ble_eq_true rfl⟩ rfl hl.1 rfl (Nat.le_of_ble_eq_true rfl) dX10_pathLine_196 ⟨Nat.le_of_ble_eq_true rfl, Nat.le_of_ble_eq_true rfl⟩) hS (fun r_880 G_880 H locs hF_880 hr_880 hT hS => ?_)
            have hF := hF.tr hF_880 rfl
            have k_881 : p4 = G_880.1 paa 4 := k_866.trans (hF_880.i h_paa (by decide) rfl _).symm
            obtain ⟨hr_880_p0, hr_880_p1, hr_880_p2, hr_880_s0⟩ := hr_880
            have k_886 : tp = G_880.1 a 6 := k_867.trans hr_880_s0.symm
            obtain ⟨z_887, ez_887, hr_880_p0, hr_880_p1, hr_880_p2⟩ : ∃ z_887 : Int32, z_887 = G_880.1 a 7 ∧ (x798_at.toInt ≤ z_887.toInt) ∧ (z_887.toInt ≤ tp.toInt) ∧ (r_880.toInt = (0 : Int) ∨ ((0 : Int) ≤ r_880.toInt ∧ r_880.toInt ≤ z_9.toInt)) := ⟨_, rfl, hr_880_p0, hr_880_p1, hr_880_p2⟩
            have rz_887 : 0 ≤ z_887.toInt ∧ z_887.toInt ≤ 1600 := by rw [ez_887]; exact hT.rgi h_a (by decide) 7
            refine t_iast (n := 120) (i := z_873) (x := r_880) rfl (by decide) hx hb hK hT hS hq_864 (hT.len hq_864 (by decide)) ⟨by omega, by omega⟩ trivial dX10_pathLine_199 (fun H locs G_888 eG_888 hT hS => ?_)
            have hF := hF.wI eG_888 hq_864 rfl
            have k_889 : p4 = G_888.1 paa 4 := by rw [eG_888, wI_ne (Or.inl (tag_ne hq_864 h_paa (by decide)))]; exact k_881
            have k_890 : tp = G_888.1 a 6 := by rw [eG_888, wI_ne (Or.inl (tag_ne hq_864 h_a (by decide)))]; exact k_886
            have k_891 : z_887 = G_888.1 a 7 := by rw [eG_888, wI_ne (Or.inl (tag_ne hq_864 h_a (by decide)))]; exact ez_887
            refine lv_aload_n hx hb dX10_pathLine_200 rfl (lv_at hl 4 rfl) ?_
            refine t_getr cf_11 hx hb hts hown hK hT h_a (k := 23) (P := fun q => τ q = 73) rfl (fun _ h9 => h9) fl_X10_52 (fun _ h9 => h9) dX10_pathLine_201 (fun q_892 eq_892 hq_892 => ?_)
            have w_893 : q_864 = q_892 := Option.some.inj (eq_864.symm.trans ((hF.r h_a (by decide) rfl _).symm.trans eq_892))
            subst w_893
            refine lv_iload_n hx hb dX10_pathLine_204 rfl (lv_at hl 3 rfl) ?_
            refine lv_iconst (v := 2) hx hb dX10_pathLine_205 (by decide) ?_
            refine lv_iadd hx hb dX10_pathLine_206 ?_
            refine lv_topi (fun z_894 ez_894 => ?_)
            have tz_894 : z_894.toInt = z_6.toInt + 2 := add_t ez_894 (show -2147483648 ≤ z_6.toInt + 2 by omega) (show z_6.toInt + 2 < 2147483648 by omega)
            refine lv_aload_n hx hb dX10_pathLine_207 rfl (lv_at hl 4 rfl) ?_
            refine lv_ldc2 (v := 80155) hx hb hown (hts _ kl_X10_195) dX10_pathLine_208 ?_
            refine lv_iconst (v := 1) hx hb dX10_pathLine_211 (by decide) ?_
            refine lv_bipush (v := 30) hx hb dX10_pathLine_212 (by decide) ?_
            refine t_calli (runV (As := [.long 80155, .int 1, .int 30]) (rest := [.int z_894, .ref q_864]) ⟨hx, hb, hml, hown, hts⟩ (t_X10_number_ l D cy base τ G_888 a h_a 80155 1 30 tp k_890 ⟨by omega, by omega⟩ z_887 k_891 ⟨by omega, by omega⟩ (by show z_887.toInt ≤ tp.toInt; first | assumption | omega | decide)) sV_X10_197 hK (t_recv cf_11 hK hT h_a) ⟨Nat.le_trans hZ hS.1, hT⟩ ⟨Nat.le_of_ble_eq_true rfl, Nat.le_of_ble_eq_true rfl⟩ rfl hl.1 rfl (Nat.le_of_ble_eq_true rfl) dX10_pathLine_214 ⟨Nat.le_of_ble_eq_true rfl, Nat.le_of_ble_eq_true rfl⟩) hS (fun r_895 G_895 H locs hF_895 hr_895 hT hS => ?_)
            have hF := hF.tr hF_895 rfl
            have k_896 : p4 = G_895.1 paa 4 := k_889.trans (hF_895.i h_paa (by decide) rfl _).symm
            obtain ⟨hr_895_p0, hr_895_p1, hr_895_p2, hr_895_s0⟩ := hr_895
            have k_899 : tp = G_895.1 a 6 := k_890.trans hr_895_s0.symm
            obtain ⟨z_900, ez_900, hr_895_p0, hr_895_p1, hr_895_p2⟩ : ∃ z_900 : Int32, z_900 = G_895.1 a 7 ∧ (z_887.toInt ≤ z_900.toInt) ∧ (z_900.toInt ≤ tp.toInt) ∧ (r_895.toInt = (1 : Int) ∨ ((1 : Int) ≤ r_895.toInt ∧ r_895.toInt ≤ (30 : Int))) := ⟨_, rfl, hr_895_p0, hr_895_p1, hr_895_p2⟩
            have rz_900 : 0 ≤ z_900.toInt ∧ z_900.toInt ≤ 1600 := by rw [ez_900]; exact hT.rgi h_a (by decide) 7
            refine t_iast (n := 120) (i := z_894) (x := r_895) rfl (by decide) hx hb hK hT hS hq_864 (hT.len hq_864 (by decide)) ⟨by omega, by omega⟩ trivial dX10_pathLine_217 (fun H locs G_901 eG_901 hT hS => ?_)
            have hF := hF.wI eG_901 hq_864 rfl
            have k_902 : p4 = G_901.1 paa 4 := by rw [eG_901, wI_ne (Or.inl (tag_ne hq_864 h_paa (by decide)))]; exact k_896
            have k_903 : tp = G_901.1 a 6 := by rw [eG_901, wI_ne (Or.inl (tag_ne hq_864 h_a (by decide)))]; exact k_899
            have k_904 : z_900 = G_901.1 a 7 := by rw [eG_901, wI_ne (Or.inl (tag_ne hq_864 h_a (by decide)))]; exact ez_900
            refine lv_aload_n hx hb dX10_pathLine_218 rfl (lv_at hl 4 rfl) ?_
            refine t_getr cf_11 hx hb hts hown hK hT h_a (k := 22) (P := fun q => τ q = 72) rfl (fun _ h9 => h9) fl_X10_49 (fun _ h9 => h9) dX10_pathLine_219 (fun q_905 eq_905 hq_905 => ?_)
            have w_906 : paa = q_905 := Option.some.inj (e_paa.symm.trans ((hF.r h_a (by decide) rfl _).symm.trans eq_905))
            subst w_906
            refine lv_iconst (v := 4) hx hb dX10_pathLine_222 (by decide) ?_
            refine lv_dup2_11 hx hb dX10_pathLine_223 rfl rfl ?_
            refine t_iald (n := 5) (i := 4) rfl (by decide) hx hb hK hT h_paa (hT.len h_paa (by decide)) ⟨by decide, by decide⟩ dX10_pathLine_224 (fun z_907 ez_907 rz_907 => ?_)
            have w_908 : p4 = z_907 := k_902.trans ez_907.symm
            subst w_908
            refine lv_iconst (v := 1) hx hb dX10_pathLine_225 (by decide) ?_
            refine lv_iadd hx hb dX10_pathLine_226 ?_
            refine lv_topi (fun z_909 ez_909 => ?_)
            have tz_909 : z_909.toInt = p4.toInt + 1 := add_t ez_909 (show -2147483648 ≤ p4.toInt + 1 by omega) (show p4.toInt + 1 < 2147483648 by omega)
            refine t_iast (n := 5) (i := 4) (x := z_909) rfl (by decide) hx hb hK hT hS h_paa (hT.len h_paa (by decide)) ⟨by decide, by decide⟩ (show 0 ≤ z_909.toInt ∧ z_909.toInt ≤ 8 from ⟨by omega, by omega⟩) dX10_pathLine_227 (fun H locs G_910 eG_910 hT hS => ?_)
            have hF := hF.wI eG_910 h_paa rfl
            have eG_910 : G_910 = wI G_901 paa 4 z_909 := eG_910
            have k_912 : tp = G_910.1 a 6 := by rw [eG_910, wI_ne (Or.inl (tag_ne h_paa h_a (by decide)))]; exact k_903
            have k_913 : z_900 = G_910.1 a 7 := by rw [eG_910, wI_ne (Or.inl (tag_ne h_paa h_a (by decide)))]; exact k_904
            have k_914 : z_909 = G_910.1 paa 4 := by rw [eG_910, wI_at]
            exact ret_v hx hb hr hlocks ⟨⟨hS.1, hS.2.1⟩, G_910, hF, ⟨rfl, ⟨(by first | (show a0.toInt ≤ (G_910.1 a 7).toInt; rw [← k_913]; done) | (show a0.toInt ≤ (G_910.1 a 7).toInt; rw [← k_913]; show a0.toInt ≤ z_900.toInt; first | omega | assumption)), (by first | (show (G_910.1 a 7).toInt ≤ tp.toInt; rw [← k_913]; done) | (show (G_910.1 a 7).toInt ≤ tp.toInt; rw [← k_913]; show z_900.toInt ≤ tp.toInt; first | omega | assumption)), (k_912.symm.trans e_tp)⟩⟩, hT⟩ hS.2.2 (Nat.le_of_ble_eq_true rfl) (Nat.le_of_ble_eq_true rfl) dX10_pathLine_228
        · skip
          have tc_803 : ¬ p4.toInt ≤ x798_4.toInt := fun h => c_803 ((fa_le _ _).mpr h)
          refine lv_aload_n hx hb dX10_pathLine_69 rfl (lv_at hl 4 rfl) ?_
          refine t_geti cf_11 hx hb hts hown hK hT h_a (k := 12) rfl fl_X10_163 (fun _ h9 => h9) dX10_pathLine_70 (fun z_915 ez_915 rz_915 => ?_)
          have ez_915 : z_915 = G_798.1 a 12 := ez_915
          refine lv_if_ne (tgt := 163) hx hb dX10_pathLine_73 (by decide) (fun c_916 => ?_) (fun c_916 => ?_)
          · skip
            have tc_916 : ¬ z_915.toInt = 0 := fun h => c_916 ((fa_eq _ _).mpr h)
            refine lv_iload_n hx hb dX10_pathLine_163 rfl (lv_at hl 0 rfl) ?_
            refine lv_if_eq (tgt := 172) hx hb dX10_pathLine_164 (by decide) (fun c_917 => ?_) (fun c_917 => ?_)
            · skip
              have tc_917 : x798_3.toInt = 0 := (fa_eq _ _).mp c_917
              refine lv_aload_n hx hb dX10_pathLine_172 rfl (lv_at hl 4 rfl) ?_
              refine t_getr cf_11 hx hb hts hown hK hT h_a (k := 23) (P := fun q => τ q = 73) rfl (fun _ h9 => h9) fl_X10_52 (fun _ h9 => h9) dX10_pathLine_173 (fun q_918 eq_918 hq_918 => ?_)
              have eq_918 := (hF.r h_a (by decide) rfl _).symm.trans eq_918
              refine lv_iload_n hx hb dX10_pathLine_176 rfl (lv_at hl 3 rfl) ?_
              refine lv_iload_n hx hb dX10_pathLine_177 rfl (lv_at hl 2 rfl) ?_
              refine t_iast (n := 120) (i := z_6) (x := r_10) rfl (by decide) hx hb hK hT hS hq_918 (hT.len hq_918 (by decide)) ⟨by omega, by omega⟩ trivial dX10_pathLine_178 (fun H locs G_919 eG_919 hT hS => ?_)
              have hF := hF.wI eG_919 hq_918 rfl
              have k_920 : tp = G_919.1 a 6 := by rw [eG_919, wI_ne (Or.inl (tag_ne hq_918 h_a (by decide)))]; exact i798_6
              have k_921 : p4 = G_919.1 paa 4 := by rw [eG_919, wI_ne (Or.inl (tag_ne hq_918 h_paa (by decide)))]; exact i798_7
              have k_922 : x798_at = G_919.1 a 7 := by rw [eG_919, wI_ne (Or.inl (tag_ne hq_918 h_a (by decide)))]; exact i798_8
              have k_923 : z_915 = G_919.1 a 12 := by rw [eG_919, wI_ne (Or.inl (tag_ne hq_918 h_a (by decide)))]; exact ez_915
              refine lv_aload_n hx hb dX10_pathLine_179 rfl (lv_at hl 4 rfl) ?_
              refine t_getr cf_11 hx hb hts hown hK hT h_a (k := 23) (P := fun q => τ q = 73) rfl (fun _ h9 => h9) fl_X10_52 (fun _ h9 => h9) dX10_pathLine_180 (fun q_924 eq_924 hq_924 => ?_)
              have w_925 : q_918 = q_924 := Option.some.inj (eq_918.symm.trans ((hF.r h_a (by decide) rfl _).symm.trans eq_924))
              subst w_925
              refine lv_iload_n hx hb dX10_pathLine_183 rfl (lv_at hl 3 rfl) ?_
              refine lv_iconst (v := 1) hx hb dX10_pathLine_184 (by decide) ?_
              refine lv_iadd hx hb dX10_pathLine_185 ?_
              refine lv_topi (fun z_926 ez_926 => ?_)
              have tz_926 : z_926.toInt = z_6.toInt + 1 := add_t ez_926 (show -2147483648 ≤ z_6.toInt + 1 by omega) (show z_6.toInt + 1 < 2147483648 by omega)
              refine lv_aload_n hx hb dX10_pathLine_186 rfl (lv_at hl 4 rfl) ?_
              refine lv_iconst (v := 0) hx hb dX10_pathLine_187 (by decide) ?_
              refine lv_aload_n hx hb dX10_pathLine_188 rfl (lv_at hl 4 rfl) ?_
              refine t_getr cf_11 hx hb hts hown hK hT h_a (k := 20) (P := fun q => τ q = 70) rfl (fun _ h9 => h9) fl_X10_43 (fun _ h9 => h9) dX10_pathLine_189 (fun q_927 eq_927 hq_927 => ?_)
              have w_928 : q_7 = q_927 := Option.some.inj (eq_7.symm.trans ((hF.r h_a (by decide) rfl _).symm.trans eq_927))
              subst w_928
              refine lv_iconst (v := 4) hx hb dX10_pathLine_192 (by decide) ?_
              refine t_iald (n := 5) (i := 4) rfl (by decide) hx hb hK hT hq_7 (hT.len hq_7 (by decide)) ⟨by decide, by decide⟩ dX10_pathLine_193 (fun z_929 ez_929 rz_929 => ?_)
              have w_930 : z_8 = z_929 := ez_8.trans (ez_929.trans (hF.i hq_7 (by decide) rfl _)).symm
              subst w_930
              refine lv_iconst (v := 1) hx hb dX10_pathLine_194 (by decide) ?_
              refine lv_isub hx hb dX10_pathLine_195 ?_
              refine lv_topi (fun z_931 ez_931 => ?_)
              have w_932 : z_9 = z_931 := ez_9.trans ez_931.symm
              subst w_932
              refine t_calli (runV (As := [.int 0, .int z_9]) (rest := [.int z_926, .ref q_918]) ⟨hx, hb, hml, hown, hts⟩ (t_X10_number l D cy base τ G_919 a h_a 0 z_9 tp k_920 ⟨by omega, by omega⟩ x798_at k_922 ⟨by omega, by omega⟩ (by show x798_at.toInt ≤ tp.toInt; first | assumption | omega | decide)) sV_X10_186 hK (t_recv cf_11 hK hT h_a) ⟨Nat.le_trans hZ hS.1, hT⟩ ⟨Nat.le_of_ble_eq_true rfl, Nat.le_of_ble_eq_true rfl⟩ rfl hl.1 rfl (Nat.le_of_ble_eq_true rfl) dX10_pathLine_196 ⟨Nat.le_of_ble_eq_true rfl, Nat.le_of_ble_eq_true rfl⟩) hS (fun r_933 G_933 H locs hF_933 hr_933 hT hS => ?_)
              have hF := hF.tr hF_933 rfl
              have k_935 : p4 = G_933.1 paa 4 := k_921.trans (hF_933.i h_paa (by decide) rfl _).symm
              obtain ⟨hr_933_p0, hr_933_p1, hr_933_p2, hr_933_s0⟩ := hr_933
              have k_938 : tp = G_933.1 a 6 := k_920.trans hr_933_s0.symm
              obtain ⟨z_939, ez_939, hr_933_p0, hr_933_p1, hr_933_p2⟩ : ∃ z_939 : Int32, z_939 = G_933.1 a 7 ∧ (x798_at.toInt ≤ z_939.toInt) ∧ (z_939.toInt ≤ tp.toInt) ∧ (r_933.toInt = (0 : Int) ∨ ((0 : Int) ≤ r_933.toInt ∧ r_933.toInt ≤ z_9.toInt)) := ⟨_, rfl, hr_933_p0, hr_933_p1, hr_933_p2⟩
              have rz_939 : 0 ≤ z_939.toInt ∧ z_939.toInt ≤ 1600 := by rw [ez_939]; exact hT.rgi h_a (by decide) 7
              refine t_iast (n := 120) (i := z_926) (x := r_933) rfl (by decide) hx hb hK hT hS hq_918 (hT.len hq_918 (by decide)) ⟨by omega, by omega⟩ trivial dX10_pathLine_199 (fun H locs G_940 eG_940 hT hS => ?_)
              have hF := hF.wI eG_940 hq_918 rfl
              have k_941 : p4 = G_940.1 paa 4 := by rw [eG_940, wI_ne (Or.inl (tag_ne hq_918 h_paa (by decide)))]; exact k_935
              have k_942 : tp = G_940.1 a 6 := by rw [eG_940, wI_ne (Or.inl (tag_ne hq_918 h_a (by decide)))]; exact k_938
              have k_943 : z_939 = G_940.1 a 7 := by rw [eG_940, wI_ne (Or.inl (tag_ne hq_918 h_a (by decide)))]; exact ez_939
              refine lv_aload_n hx hb dX10_pathLine_200 rfl (lv_at hl 4 rfl) ?_
              refine t_getr cf_11 hx hb hts hown hK hT h_a (k := 23) (P := fun q => τ q = 73) rfl (fun _ h9 => h9) fl_X10_52 (fun _ h9 => h9) dX10_pathLine_201 (fun q_944 eq_944 hq_944 => ?_)
              have w_945 : q_918 = q_944 := Option.some.inj (eq_918.symm.trans ((hF.r h_a (by decide) rfl _).symm.trans eq_944))
              subst w_945
              refine lv_iload_n hx hb dX10_pathLine_204 rfl (lv_at hl 3 rfl) ?_
              refine lv_iconst (v := 2) hx hb dX10_pathLine_205 (by decide) ?_
              refine lv_iadd hx hb dX10_pathLine_206 ?_
              refine lv_topi (fun z_946 ez_946 => ?_)
              have tz_946 : z_946.toInt = z_6.toInt + 2 := add_t ez_946 (show -2147483648 ≤ z_6.toInt + 2 by omega) (show z_6.toInt + 2 < 2147483648 by omega)
              refine lv_aload_n hx hb dX10_pathLine_207 rfl (lv_at hl 4 rfl) ?_
              refine lv_ldc2 (v := 80155) hx hb hown (hts _ kl_X10_195) dX10_pathLine_208 ?_
              refine lv_iconst (v := 1) hx hb dX10_pathLine_211 (by decide) ?_
              refine lv_bipush (v := 30) hx hb dX10_pathLine_212 (by decide) ?_
              refine t_calli (runV (As := [.long 80155, .int 1, .int 30]) (rest := [.int z_946, .ref q_918]) ⟨hx, hb, hml, hown, hts⟩ (t_X10_number_ l D cy base τ G_940 a h_a 80155 1 30 tp k_942 ⟨by omega, by omega⟩ z_939 k_943 ⟨by omega, by omega⟩ (by show z_939.toInt ≤ tp.toInt; first | assumption | omega | decide)) sV_X10_197 hK (t_recv cf_11 hK hT h_a) ⟨Nat.le_trans hZ hS.1, hT⟩ ⟨Nat.le_of_ble_eq_true rfl, Nat.le_of_ble_eq_true rfl⟩ rfl hl.1 rfl (Nat.le_of_ble_eq_true rfl) dX10_pathLine_214 ⟨Nat.le_of_ble_eq_true rfl, Nat.le_of_ble_eq_true rfl⟩) hS (fun r_947 G_947 H locs hF_947 hr_947 hT hS => ?_)
              have hF := hF.tr hF_947 rfl
              have k_948 : p4 = G_947.1 paa 4 := k_941.trans (hF_947.i h_paa (by decide) rfl _).symm
              obtain ⟨hr_947_p0, hr_947_p1, hr_947_p2, hr_947_s0⟩ := hr_947
              have k_951 : tp = G_947.1 a 6 := k_942.trans hr_947_s0.symm
              obtain ⟨z_952, ez_952, hr_947_p0, hr_947_p1, hr_947_p2⟩ : ∃ z_952 : Int32, z_952 = G_947.1 a 7 ∧ (z_939.toInt ≤ z_952.toInt) ∧ (z_952.toInt ≤ tp.toInt) ∧ (r_947.toInt = (1 : Int) ∨ ((1 : Int) ≤ r_947.toInt ∧ r_947.toInt ≤ (30 : Int))) := ⟨_, rfl, hr_947_p0, hr_947_p1, hr_947_p2⟩
              have rz_952 : 0 ≤ z_952.toInt ∧ z_952.toInt ≤ 1600 := by rw [ez_952]; exact hT.rgi h_a (by decide) 7
              refine t_iast (n := 120) (i := z_946) (x := r_947) rfl (by decide) hx hb hK hT hS hq_918 (hT.len hq_918 (by decide)) ⟨by omega, by omega⟩ trivial dX10_pathLine_217 (fun H locs G_953 eG_953 hT hS => ?_)
              have hF := hF.wI eG_953 hq_918 rfl
              have k_954 : p4 = G_953.1 paa 4 := by rw [eG_953, wI_ne (Or.inl (tag_ne hq_918 h_paa (by decide)))]; exact k_948
              have k_955 : tp = G_953.1 a 6 := by rw [eG_953, wI_ne (Or.inl (tag_ne hq_918 h_a (by decide)))]; exact k_951
              have k_956 : z_952 = G_953.1 a 7 := by rw [eG_953, wI_ne (Or.inl (tag_ne hq_918 h_a (by decide)))]; exact ez_952
              refine lv_aload_n hx hb dX10_pathLine_218 rfl (lv_at hl 4 rfl) ?_
              refine t_getr cf_11 hx hb hts hown hK hT h_a (k := 22) (P := fun q => τ q = 72) rfl (fun _ h9 => h9) fl_X10_49 (fun _ h9 => h9) dX10_pathLine_219 (fun q_957 eq_957 hq_957 => ?_)
              have w_958 : paa = q_957 := Option.some.inj (e_paa.symm.trans ((hF.r h_a (by decide) rfl _).symm.trans eq_957))
              subst w_958
              refine lv_iconst (v := 4) hx hb dX10_pathLine_222 (by decide) ?_
              refine lv_dup2_11 hx hb dX10_pathLine_223 rfl rfl ?_
              refine t_iald (n := 5) (i := 4) rfl (by decide) hx hb hK hT h_paa (hT.len h_paa (by decide)) ⟨by decide, by decide⟩ dX10_pathLine_224 (fun z_959 ez_959 rz_959 => ?_)
              have w_960 : p4 = z_959 := k_954.trans ez_959.symm
              subst w_960
              refine lv_iconst (v := 1) hx hb dX10_pathLine_225 (by decide) ?_
              refine lv_iadd hx hb dX10_pathLine_226 ?_
              refine lv_topi (fun z_961 ez_961 => ?_)
              have tz_961 : z_961.toInt = p4.toInt + 1 := add_t ez_961 (show -2147483648 ≤ p4.toInt + 1 by omega) (show p4.toInt + 1 < 2147483648 by omega)
              refine t_iast (n := 5) (i := 4) (x := z_961) rfl (by decide) hx hb hK hT hS h_paa (hT.len h_paa (by decide)) ⟨by decide, by decide⟩ (show 0 ≤ z_961.toInt ∧ z_961.toInt ≤ 8 from ⟨by omega, by omega⟩) dX10_pathLine_227 (fun H locs G_962 eG_962 hT hS => ?_)
              have hF := hF.wI eG_962 h_paa rfl
              have eG_962 : G_962 = wI G_953 paa 4 z_961 := eG_962
              have k_964 : tp = G_962.1 a 6 := by rw [eG_962, wI_ne (Or.inl (tag_ne h_paa h_a (by decide)))]; exact k_955
              have k_965 : z_952 = G_962.1 a 7 := by rw [eG_962, wI_ne (Or.inl (tag_ne h_paa h_a (by decide)))]; exact k_956
              have k_966 : z_961 = G_962.1 paa 4 := by rw [eG_962, wI_at]
              exact ret_v hx hb hr hlocks ⟨⟨hS.1, hS.2.1⟩, G_962, hF, ⟨rfl, ⟨(by first | (show a0.toInt ≤ (G_962.1 a 7).toInt; rw [← k_965]; done) | (show a0.toInt ≤ (G_962.1 a 7).toInt; rw [← k_965]; show a0.toInt ≤ z_952.toInt; first | omega | assumption)), (by first | (show (G_962.1 a 7).toInt ≤ tp.toInt; rw [← k_965]; done) | (show (G_962.1 a 7).toInt ≤ tp.toInt; rw [← k_965]; show z_952.toInt ≤ tp.toInt; first | omega | assumption)), (k_964.symm.trans e_tp)⟩⟩, hT⟩ hS.2.2 (Nat.le_of_ble_eq_true rfl) (Nat.le_of_ble_eq_true rfl) dX10_pathLine_228
            · skip
              have tc_917 : ¬ x798_3.toInt = 0 := fun h => c_917 ((fa_eq _ _).mpr h)
              refine lv_aload_n hx hb dX10_pathLine_167 rfl (lv_at hl 4 rfl) ?_
              refine lv_iconst (v := 2) hx hb dX10_pathLine_168 (by decide) ?_
              obtain ⟨z_967, ez_967⟩ : ∃ y : Int32, y = G_798.1 a 8 := ⟨_, rfl⟩
              refine t_callv (runV (As := [.int 2]) (rest := []) ⟨hx, hb, hml, hown, hts⟩ (t_X10_fails l D cy base τ G_798 a h_a 2 (by decide) tp i798_6 ⟨by omega, by omega⟩ x798_at i798_8 ⟨by omega, by omega⟩ z_967 ez_967 z_915 ez_915) sV_X10_179 hK (t_recv cf_11 hK hT h_a) ⟨Nat.le_trans hZ hS.1, hT⟩ ⟨Nat.le_of_ble_eq_true rfl, Nat.le_of_ble_eq_true rfl⟩ rfl hl.1 rfl (Nat.le_of_ble_eq_true rfl) dX10_pathLine_169 ⟨Nat.le_of_ble_eq_true rfl, Nat.le_of_ble_eq_true rfl⟩) hS (fun G_968 H locs hF_968 hr_968 hT hS => ?_)
              have hF := hF.tr hF_968 rfl
              have k_970 : p4 = G_968.1 paa 4 := i798_7.trans (hF_968.i h_paa (by decide) rfl _).symm
              obtain ⟨hr_968_p0, hr_968_s0, hr_968_s1, hr_968_s2⟩ := hr_968
              have k_974 : tp = G_968.1 a 6 := i798_6.trans hr_968_s0.symm
              have k_975 : x798_at = G_968.1 a 7 := i798_8.trans hr_968_s1.symm
              have k_976 : z_967 = G_968.1 a 8 := ez_967.trans hr_968_s2.symm
              obtain ⟨z_977, ez_977, hr_968_p0⟩ : ∃ z_977 : Int32, z_977 = G_968.1 a 12 ∧ (z_977.toInt ≠ 0) := ⟨_, rfl, hr_968_p0⟩
              refine lv_aload_n hx hb dX10_pathLine_172 rfl (lv_at hl 4 rfl) ?_
              refine t_getr cf_11 hx hb hts hown hK hT h_a (k := 23) (P := fun q => τ q = 73) rfl (fun _ h9 => h9) fl_X10_52 (fun _ h9 => h9) dX10_pathLine_173 (fun q_978 eq_978 hq_978 => ?_)
              have eq_978 := (hF.r h_a (by decide) rfl _).symm.trans eq_978
              refine lv_iload_n hx hb dX10_pathLine_176 rfl (lv_at hl 3 rfl) ?_
              refine lv_iload_n hx hb dX10_pathLine_177 rfl (lv_at hl 2 rfl) ?_
              refine t_iast (n := 120) (i := z_6) (x := r_10) rfl (by decide) hx hb hK hT hS hq_978 (hT.len hq_978 (by decide)) ⟨by omega, by omega⟩ trivial dX10_pathLine_178 (fun H locs G_979 eG_979 hT hS => ?_)
              have hF := hF.wI eG_979 hq_978 rfl
              have k_980 : p4 = G_979.1 paa 4 := by rw [eG_979, wI_ne (Or.inl (tag_ne hq_978 h_paa (by decide)))]; exact k_970
              have k_981 : tp = G_979.1 a 6 := by rw [eG_979, wI_ne (Or.inl (tag_ne hq_978 h_a (by decide)))]; exact k_974
              have k_982 : x798_at = G_979.1 a 7 := by rw [eG_979, wI_ne (Or.inl (tag_ne hq_978 h_a (by decide)))]; exact k_975
              have k_983 : z_967 = G_979.1 a 8 := by rw [eG_979, wI_ne (Or.inl (tag_ne hq_978 h_a (by decide)))]; exact k_976
              have k_984 : z_977 = G_979.1 a 12 := by rw [eG_979, wI_ne (Or.inl (tag_ne hq_978 h_a (by decide)))]; exact ez_977
              refine lv_aload_n hx hb dX10_pathLine_179 rfl (lv_at hl 4 rfl) ?_
              refine t_getr cf_11 hx hb hts hown hK hT h_a (k := 23) (P := fun q => τ q = 73) rfl (fun _ h9 => h9) fl_X10_52 (fun _ h9 => h9) dX10_pathLine_180 (fun q_985 eq_985 hq_985 => ?_)
              have w_986 : q_978 = q_985 := Option.some.inj (eq_978.symm.trans ((hF.r h_a (by decide) rfl _).symm.trans eq_985))
              subst w_986
              refine lv_iload_n hx hb dX10_pathLine_183 rfl (lv_at hl 3 rfl) ?_
              refine lv_iconst (v := 1) hx hb dX10_pathLine_184 (by decide) ?_
              refine lv_iadd hx hb dX10_pathLine_185 ?_
              refine lv_topi (fun z_987 ez_987 => ?_)
              have tz_987 : z_987.toInt = z_6.toInt + 1 := add_t ez_987 (show -2147483648 ≤ z_6.toInt + 1 by omega) (show z_6.toInt + 1 < 2147483648 by omega)
              refine lv_aload_n hx hb dX10_pathLine_186 rfl (lv_at hl 4 rfl) ?_
              refine lv_iconst (v := 0) hx hb dX10_pathLine_187 (by decide) ?_
              refine lv_aload_n hx hb dX10_pathLine_188 rfl (lv_at hl 4 rfl) ?_
              refine t_getr cf_11 hx hb hts hown hK hT h_a (k := 20) (P := fun q => τ q = 70) rfl (fun _ h9 => h9) fl_X10_43 (fun _ h9 => h9) dX10_pathLine_189 (fun q_988 eq_988 hq_988 => ?_)
              have w_989 : q_7 = q_988 := Option.some.inj (eq_7.symm.trans ((hF.r h_a (by decide) rfl _).symm.trans eq_988))
              subst w_989
              refine lv_iconst (v := 4) hx hb dX10_pathLine_192 (by decide) ?_
              refine t_iald (n := 5) (i := 4) rfl (by decide) hx hb hK hT hq_7 (hT.len hq_7 (by decide)) ⟨by decide, by decide⟩ dX10_pathLine_193 (fun z_990 ez_990 rz_990 => ?_)
              have w_991 : z_8 = z_990 := ez_8.trans (ez_990.trans (hF.i hq_7 (by decide) rfl _)).symm
              subst w_991
              refine lv_iconst (v := 1) hx hb dX10_pathLine_194 (by decide) ?_
              refine lv_isub hx hb dX10_pathLine_195 ?_
              refine lv_topi (fun z_992 ez_992 => ?_)
              have w_993 : z_9 = z_992 := ez_9.trans ez_992.symm
              subst w_993
              refine t_calli (runV (As := [.int 0, .int z_9]) (rest := [.int z_987, .ref q_978]) ⟨hx, hb, hml, hown, hts⟩ (t_X10_number l D cy base τ G_979 a h_a 0 z_9 tp k_981 ⟨by omega, by omega⟩ x798_at k_982 ⟨by omega, by omega⟩ (by show x798_at.toInt ≤ tp.toInt; first | assumption | omega | decide)) sV_X10_186 hK (t_recv cf_11 hK hT h_a) ⟨Nat.le_trans hZ hS.1, hT⟩ ⟨Nat.le_of_ble_eq_true rfl, Nat.le_of_ble_eq_true rfl⟩ rfl hl.1 rfl (Nat.le_of_ble_eq_true rfl) dX10_pathLine_196 ⟨Nat.le_of_ble_eq_true rfl, Nat.le_of_ble_eq_true rfl⟩) hS (fun r_994 G_994 H locs hF_994 hr_994 hT hS => ?_)
              have hF := hF.tr hF_994 rfl
              have k_995 : p4 = G_994.1 paa 4 := k_980.trans (hF_994.i h_paa (by decide) rfl _).symm
              obtain ⟨hr_994_p0, hr_994_p1, hr_994_p2, hr_994_s0⟩ := hr_994
              have k_1000 : tp = G_994.1 a 6 := k_981.trans hr_994_s0.symm
              obtain ⟨z_1001, ez_1001, hr_994_p0, hr_994_p1, hr_994_p2⟩ : ∃ z_1001 : Int32, z_1001 = G_994.1 a 7 ∧ (x798_at.toInt ≤ z_1001.toInt) ∧ (z_1001.toInt ≤ tp.toInt) ∧ (r_994.toInt = (0 : Int) ∨ ((0 : Int) ≤ r_994.toInt ∧ r_994.toInt ≤ z_9.toInt)) := ⟨_, rfl, hr_994_p0, hr_994_p1, hr_994_p2⟩
              have rz_1001 : 0 ≤ z_1001.toInt ∧ z_1001.toInt ≤ 1600 := by rw [ez_1001]; exact hT.rgi h_a (by decide) 7
              refine t_iast (n := 120) (i := z_987) (x := r_994) rfl (by decide) hx hb hK hT hS hq_978 (hT.len hq_978 (by decide)) ⟨by omega, by omega⟩ trivial dX10_pathLine_199 (fun H locs G_1002 eG_1002 hT hS => ?_)
              have hF := hF.wI eG_1002 hq_978 rfl
              have k_1003 : p4 = G_1002.1 paa 4 := by rw [eG_1002, wI_ne (Or.inl (tag_ne hq_978 h_paa (by decide)))]; exact k_995
              have k_1004 : tp = G_1002.1 a 6 := by rw [eG_1002, wI_ne (Or.inl (tag_ne hq_978 h_a (by decide)))]; exact k_1000
              have k_1005 : z_1001 = G_1002.1 a 7 := by rw [eG_1002, wI_ne (Or.inl (tag_ne hq_978 h_a (by decide)))]; exact ez_1001
              refine lv_aload_n hx hb dX10_pathLine_200 rfl (lv_at hl 4 rfl) ?_
              refine t_getr cf_11 hx hb hts hown hK hT h_a (k := 23) (P := fun q => τ q = 73) rfl (fun _ h9 => h9) fl_X10_52 (fun _ h9 => h9) dX10_pathLine_201 (fun q_1006 eq_1006 hq_1006 => ?_)
              have w_1007 : q_978 = q_1006 := Option.some.inj (eq_978.symm.trans ((hF.r h_a (by decide) rfl _).symm.trans eq_1006))
              subst w_1007
              refine lv_iload_n hx hb dX10_pathLine_204 rfl (lv_at hl 3 rfl) ?_
              refine lv_iconst (v := 2) hx hb dX10_pathLine_205 (by decide) ?_
              refine lv_iadd hx hb dX10_pathLine_206 ?_
              refine lv_topi (fun z_1008 ez_1008 => ?_)
              have tz_1008 : z_1008.toInt = z_6.toInt + 2 := add_t ez_1008 (show -2147483648 ≤ z_6.toInt + 2 by omega) (show z_6.toInt + 2 < 2147483648 by omega)
              refine lv_aload_n hx hb dX10_pathLine_207 rfl (lv_at hl 4 rfl) ?_
              refine lv_ldc2 (v := 80155) hx hb hown (hts _ kl_X10_195) dX10_pathLine_208 ?_
              refine lv_iconst (v := 1) hx hb dX10_pathLine_211 (by decide) ?_
              refine lv_bipush (v := 30) hx hb dX10_pathLine_212 (by decide) ?_
              refine t_calli (runV (As := [.long 80155, .int 1, .int 30]) (rest := [.int z_1008, .ref q_978]) ⟨hx, hb, hml, hown, hts⟩ (t_X10_number_ l D cy base τ G_1002 a h_a 80155 1 30 tp k_1004 ⟨by omega, by omega⟩ z_1001 k_1005 ⟨by omega, by omega⟩ (by show z_1001.toInt ≤ tp.toInt; first | assumption | omega | decide)) sV_X10_197 hK (t_recv cf_11 hK hT h_a) ⟨Nat.le_trans hZ hS.1, hT⟩ ⟨Nat.le_of_ble_eq_true rfl, Nat.le_of_ble_eq_true rfl⟩ rfl hl.1 rfl (Nat.le_of_ble_eq_true rfl) dX10_pathLine_214 ⟨Nat.le_of_ble_eq_true rfl, Nat.le_of_ble_eq_true rfl⟩) hS (fun r_1009 G_1009 H locs hF_1009 hr_1009 hT hS => ?_)
              have hF := hF.tr hF_1009 rfl
              have k_1010 : p4 = G_1009.1 paa 4 := k_1003.trans (hF_1009.i h_paa (by decide) rfl _).symm
              obtain ⟨hr_1009_p0, hr_1009_p1, hr_1009_p2, hr_1009_s0⟩ := hr_1009
              have k_1013 : tp = G_1009.1 a 6 := k_1004.trans hr_1009_s0.symm
              obtain ⟨z_1014, ez_1014, hr_1009_p0, hr_1009_p1, hr_1009_p2⟩ : ∃ z_1014 : Int32, z_1014 = G_1009.1 a 7 ∧ (z_1001.toInt ≤ z_1014.toInt) ∧ (z_1014.toInt ≤ tp.toInt) ∧ (r_1009.toInt = (1 : Int) ∨ ((1 : Int) ≤ r_1009.toInt ∧ r_1009.toInt ≤ (30 : Int))) := ⟨_, rfl, hr_1009_p0, hr_1009_p1, hr_1009_p2⟩
              have rz_1014 : 0 ≤ z_1014.toInt ∧ z_1014.toInt ≤ 1600 := by rw [ez_1014]; exact hT.rgi h_a (by decide) 7
              refine t_iast (n := 120) (i := z_1008) (x := r_1009) rfl (by decide) hx hb hK hT hS hq_978 (hT.len hq_978 (by decide)) ⟨by omega, by omega⟩ trivial dX10_pathLine_217 (fun H locs G_1015 eG_1015 hT hS => ?_)
              have hF := hF.wI eG_1015 hq_978 rfl
              have k_1016 : p4 = G_1015.1 paa 4 := by rw [eG_1015, wI_ne (Or.inl (tag_ne hq_978 h_paa (by decide)))]; exact k_1010
              have k_1017 : tp = G_1015.1 a 6 := by rw [eG_1015, wI_ne (Or.inl (tag_ne hq_978 h_a (by decide)))]; exact k_1013
              have k_1018 : z_1014 = G_1015.1 a 7 := by rw [eG_1015, wI_ne (Or.inl (tag_ne hq_978 h_a (by decide)))]; exact ez_1014
              refine lv_aload_n hx hb dX10_pathLine_218 rfl (lv_at hl 4 rfl) ?_
              refine t_getr cf_11 hx hb hts hown hK hT h_a (k := 22) (P := fun q => τ q = 72) rfl (fun _ h9 => h9) fl_X10_49 (fun _ h9 => h9) dX10_pathLine_219 (fun q_1019 eq_1019 hq_1019 => ?_)
              have w_1020 : paa = q_1019 := Option.some.inj (e_paa.symm.trans ((hF.r h_a (by decide) rfl _).symm.trans eq_1019))
              subst w_1020
              refine lv_iconst (v := 4) hx hb dX10_pathLine_222 (by decide) ?_
              refine lv_dup2_11 hx hb dX10_pathLine_223 rfl rfl ?_
              refine t_iald (n := 5) (i := 4) rfl (by decide) hx hb hK hT h_paa (hT.len h_paa (by decide)) ⟨by decide, by decide⟩ dX10_pathLine_224 (fun z_1021 ez_1021 rz_1021 => ?_)
              have w_1022 : p4 = z_1021 := k_1016.trans ez_1021.symm
              subst w_1022
              refine lv_iconst (v := 1) hx hb dX10_pathLine_225 (by decide) ?_
              refine lv_iadd hx hb dX10_pathLine_226 ?_
              refine lv_topi (fun z_1023 ez_1023 => ?_)
              have tz_1023 : z_1023.toInt = p4.toInt + 1 := add_t ez_1023 (show -2147483648 ≤ p4.toInt + 1 by omega) (show p4.toInt + 1 < 2147483648 by omega)
              refine t_iast (n := 5) (i := 4) (x := z_1023) rfl (by decide) hx hb hK hT hS h_paa (hT.len h_paa (by decide)) ⟨by decide, by decide⟩ (show 0 ≤ z_1023.toInt ∧ z_1023.toInt ≤ 8 from ⟨by omega, by omega⟩) dX10_pathLine_227 (fun H locs G_1024 eG_1024 hT hS => ?_)
              have hF := hF.wI eG_1024 h_paa rfl
              have eG_1024 : G_1024 = wI G_1015 paa 4 z_1023 := eG_1024
              have k_1026 : tp = G_1024.1 a 6 := by rw [eG_1024, wI_ne (Or.inl (tag_ne h_paa h_a (by decide)))]; exact k_1017
              have k_1027 : z_1014 = G_1024.1 a 7 := by rw [eG_1024, wI_ne (Or.inl (tag_ne h_paa h_a (by decide)))]; exact k_1018
              have k_1028 : z_1023 = G_1024.1 paa 4 := by rw [eG_1024, wI_at]
              exact ret_v hx hb hr hlocks ⟨⟨hS.1, hS.2.1⟩, G_1024, hF, ⟨rfl, ⟨(by first | (show a0.toInt ≤ (G_1024.1 a 7).toInt; rw [← k_1027]; done) | (show a0.toInt ≤ (G_1024.1 a 7).toInt; rw [← k_1027]; show a0.toInt ≤ z_1014.toInt; first | omega | assumption)), (by first | (show (G_1024.1 a 7).toInt ≤ tp.toInt; rw [← k_1027]; done) | (show (G_1024.1 a 7).toInt ≤ tp.toInt; rw [← k_1027]; show z_1014.toInt ≤ tp.toInt; first | omega | assumption)), (k_1026.symm.trans e_tp)⟩⟩, hT⟩ hS.2.2 (Nat.le_of_ble_eq_true rfl) (Nat.le_of_ble_eq_true rfl) dX10_pathLine_228
          · skip
            have tc_916 : z_915.toInt = 0 := (fa_eq _ _).mp c_916
            refine lv_aload_n hx hb dX10_pathLine_76 rfl (lv_at hl 4 rfl) ?_
            refine t_geti cf_11 hx hb hts hown hK hT h_a (k := 8) rfl fl_X10_152 (fun _ h9 => h9) dX10_pathLine_77 (fun z_1029 ez_1029 rz_1029 => ?_)
            have ez_1029 : z_1029 = G_798.1 a 8 := ez_1029
            refine lv_iconst (v := 2) hx hb dX10_pathLine_80 (by decide) ?_
            refine lv_icmp_ne (tgt := 163) hx hb dX10_pathLine_81 (by decide) (fun c_1030 => ?_) (fun c_1030 => ?_)
            · skip
              have tc_1030 : ¬ z_1029.toInt = 2 := fun h => c_1030 ((fa_eq _ _).mpr h)
              refine lv_iload_n hx hb dX10_pathLine_163 rfl (lv_at hl 0 rfl) ?_
              refine lv_if_eq (tgt := 172) hx hb dX10_pathLine_164 (by decide) (fun c_1031 => ?_) (fun c_1031 => ?_)
              · skip
                have tc_1031 : x798_3.toInt = 0 := (fa_eq _ _).mp c_1031
                refine lv_aload_n hx hb dX10_pathLine_172 rfl (lv_at hl 4 rfl) ?_
                refine t_getr cf_11 hx hb hts hown hK hT h_a (k := 23) (P := fun q => τ q = 73) rfl (fun _ h9 => h9) fl_X10_52 (fun _ h9 => h9) dX10_pathLine_173 (fun q_1032 eq_1032 hq_1032 => ?_)
                have eq_1032 := (hF.r h_a (by decide) rfl _).symm.trans eq_1032
                refine lv_iload_n hx hb dX10_pathLine_176 rfl (lv_at hl 3 rfl) ?_
                refine lv_iload_n hx hb dX10_pathLine_177 rfl (lv_at hl 2 rfl) ?_
                refine t_iast (n := 120) (i := z_6) (x := r_10) rfl (by decide) hx hb hK hT hS hq_1032 (hT.len hq_1032 (by decide)) ⟨by omega, by omega⟩ trivial dX10_pathLine_178 (fun H locs G_1033 eG_1033 hT hS => ?_)
                have hF := hF.wI eG_1033 hq_1032 rfl
                have k_1034 : tp = G_1033.1 a 6 := by rw [eG_1033, wI_ne (Or.inl (tag_ne hq_1032 h_a (by decide)))]; exact i798_6
                have k_1035 : p4 = G_1033.1 paa 4 := by rw [eG_1033, wI_ne (Or.inl (tag_ne hq_1032 h_paa (by decide)))]; exact i798_7
                have k_1036 : x798_at = G_1033.1 a 7 := by rw [eG_1033, wI_ne (Or.inl (tag_ne hq_1032 h_a (by decide)))]; exact i798_8
                have k_1037 : z_915 = G_1033.1 a 12 := by rw [eG_1033, wI_ne (Or.inl (tag_ne hq_1032 h_a (by decide)))]; exact ez_915
                have k_1038 : z_1029 = G_1033.1 a 8 := by rw [eG_1033, wI_ne (Or.inl (tag_ne hq_1032 h_a (by decide)))]; exact ez_1029
                refine lv_aload_n hx hb dX10_pathLine_179 rfl (lv_at hl 4 rfl) ?_
                refine t_getr cf_11 hx hb hts hown hK hT h_a (k := 23) (P := fun q => τ q = 73) rfl (fun _ h9 => h9) fl_X10_52 (fun _ h9 => h9) dX10_pathLine_180 (fun q_1039 eq_1039 hq_1039 => ?_)
                have w_1040 : q_1032 = q_1039 := Option.some.inj (eq_1032.symm.trans ((hF.r h_a (by decide) rfl _).symm.trans eq_1039))
                subst w_1040
                refine lv_iload_n hx hb dX10_pathLine_183 rfl (lv_at hl 3 rfl) ?_
                refine lv_iconst (v := 1) hx hb dX10_pathLine_184 (by decide) ?_
                refine lv_iadd hx hb dX10_pathLine_185 ?_
                refine lv_topi (fun z_1041 ez_1041 => ?_)
                have tz_1041 : z_1041.toInt = z_6.toInt + 1 := add_t ez_1041 (show -2147483648 ≤ z_6.toInt + 1 by omega) (show z_6.toInt + 1 < 2147483648 by omega)
                refine lv_aload_n hx hb dX10_pathLine_186 rfl (lv_at hl 4 rfl) ?_
                refine lv_iconst (v := 0) hx hb dX10_pathLine_187 (by decide) ?_
                refine lv_aload_n hx hb dX10_pathLine_188 rfl (lv_at hl 4 rfl) ?_
                refine t_getr cf_11 hx hb hts hown hK hT h_a (k := 20) (P := fun q => τ q = 70) rfl (fun _ h9 => h9) fl_X10_43 (fun _ h9 => h9) dX10_pathLine_189 (fun q_1042 eq_1042 hq_1042 => ?_)
                have w_1043 : q_7 = q_1042 := Option.some.inj (eq_7.symm.trans ((hF.r h_a (by decide) rfl _).symm.trans eq_1042))
                subst w_1043
                refine lv_iconst (v := 4) hx hb dX10_pathLine_192 (by decide) ?_
                refine t_iald (n := 5) (i := 4) rfl (by decide) hx hb hK hT hq_7 (hT.len hq_7 (by decide)) ⟨by decide, by decide⟩ dX10_pathLine_193 (fun z_1044 ez_1044 rz_1044 => ?_)
                have w_1045 : z_8 = z_1044 := ez_8.trans (ez_1044.trans (hF.i hq_7 (by decide) rfl _)).symm
                subst w_1045
                refine lv_iconst (v := 1) hx hb dX10_pathLine_194 (by decide) ?_
                refine lv_isub hx hb dX10_pathLine_195 ?_
                refine lv_topi (fun z_1046 ez_1046 => ?_)
                have w_1047 : z_9 = z_1046 := ez_9.trans ez_1046.symm
                subst w_1047
                refine t_calli (runV (As := [.int 0, .int z_9]) (rest := [.int z_1041, .ref q_1032]) ⟨hx, hb, hml, hown, hts⟩ (t_X10_number l D cy base τ G_1033 a h_a 0 z_9 tp k_1034 ⟨by omega, by omega⟩ x798_at k_1036 ⟨by omega, by omega⟩ (by show x798_at.toInt ≤ tp.toInt; first | assumption | omega | decide)) sV_X10_186 hK (t_recv cf_11 hK hT h_a) ⟨Nat.le_trans hZ hS.1, hT⟩ ⟨Nat.le_of_ble_eq_true rfl, Nat.le_of_ble_eq_true rfl⟩ rfl hl.1 rfl (Nat.le_of_ble_eq_true rfl) dX10_pathLine_196 ⟨Nat.le_of_ble_eq_true rfl, Nat.le_of_ble_eq_true rfl⟩) hS (fun r_1048 G_1048 H locs hF_1048 hr_1048 hT hS => ?_)
                have hF := hF.tr hF_1048 rfl
                have k_1050 : p4 = G_1048.1 paa 4 := k_1035.trans (hF_1048.i h_paa (by decide) rfl _).symm
                obtain ⟨hr_1048_p0, hr_1048_p1, hr_1048_p2, hr_1048_s0⟩ := hr_1048
                have k_1054 : tp = G_1048.1 a 6 := k_1034.trans hr_1048_s0.symm
                obtain ⟨z_1055, ez_1055, hr_1048_p0, hr_1048_p1, hr_1048_p2⟩ : ∃ z_1055 : Int32, z_1055 = G_1048.1 a 7 ∧ (x798_at.toInt ≤ z_1055.toInt) ∧ (z_1055.toInt ≤ tp.toInt) ∧ (r_1048.toInt = (0 : Int) ∨ ((0 : Int) ≤ r_1048.toInt ∧ r_1048.toInt ≤ z_9.toInt)) := ⟨_, rfl, hr_1048_p0, hr_1048_p1, hr_1048_p2⟩
                have rz_1055 : 0 ≤ z_1055.toInt ∧ z_1055.toInt ≤ 1600 := by rw [ez_1055]; exact hT.rgi h_a (by decide) 7
                refine t_iast (n := 120) (i := z_1041) (x := r_1048) rfl (by decide) hx hb hK hT hS hq_1032 (hT.len hq_1032 (by decide)) ⟨by omega, by omega⟩ trivial dX10_pathLine_199 (fun H locs G_1056 eG_1056 hT hS => ?_)
                have hF := hF.wI eG_1056 hq_1032 rfl
                have k_1057 : p4 = G_1056.1 paa 4 := by rw [eG_1056, wI_ne (Or.inl (tag_ne hq_1032 h_paa (by decide)))]; exact k_1050
                have k_1058 : tp = G_1056.1 a 6 := by rw [eG_1056, wI_ne (Or.inl (tag_ne hq_1032 h_a (by decide)))]; exact k_1054
                have k_1059 : z_1055 = G_1056.1 a 7 := by rw [eG_1056, wI_ne (Or.inl (tag_ne hq_1032 h_a (by decide)))]; exact ez_1055
                refine lv_aload_n hx hb dX10_pathLine_200 rfl (lv_at hl 4 rfl) ?_
                refine t_getr cf_11 hx hb hts hown hK hT h_a (k := 23) (P := fun q => τ q = 73) rfl (fun _ h9 => h9) fl_X10_52 (fun _ h9 => h9) dX10_pathLine_201 (fun q_1060 eq_1060 hq_1060 => ?_)
                have w_1061 : q_1032 = q_1060 := Option.some.inj (eq_1032.symm.trans ((hF.r h_a (by decide) rfl _).symm.trans eq_1060))
                subst w_1061
                refine lv_iload_n hx hb dX10_pathLine_204 rfl (lv_at hl 3 rfl) ?_
                refine lv_iconst (v := 2) hx hb dX10_pathLine_205 (by decide) ?_
                refine lv_iadd hx hb dX10_pathLine_206 ?_
                refine lv_topi (fun z_1062 ez_1062 => ?_)
                have tz_1062 : z_1062.toInt = z_6.toInt + 2 := add_t ez_1062 (show -2147483648 ≤ z_6.toInt + 2 by omega) (show z_6.toInt + 2 < 2147483648 by omega)
                refine lv_aload_n hx hb dX10_pathLine_207 rfl (lv_at hl 4 rfl) ?_
                refine lv_ldc2 (v := 80155) hx hb hown (hts _ kl_X10_195) dX10_pathLine_208 ?_
                refine lv_iconst (v := 1) hx hb dX10_pathLine_211 (by decide) ?_
                refine lv_bipush (v := 30) hx hb dX10_pathLine_212 (by decide) ?_
                refine t_calli (runV (As := [.long 80155, .int 1, .int 30]) (rest := [.int z_1062, .ref q_1032]) ⟨hx, hb, hml, hown, hts⟩ (t_X10_number_ l D cy base τ G_1056 a h_a 80155 1 30 tp k_1058 ⟨by omega, by omega⟩ z_1055 k_1059 ⟨by omega, by omega⟩ (by show z_1055.toInt ≤ tp.toInt; first | assumption | omega | decide)) sV_X10_197 hK (t_recv cf_11 hK hT h_a) ⟨Nat.le_trans hZ hS.1, hT⟩ ⟨Nat.le_of_ble_eq_true rfl, Nat.le_of_ble_eq_true rfl⟩ rfl hl.1 rfl (Nat.le_of_ble_eq_true rfl) dX10_pathLine_214 ⟨Nat.le_of_ble_eq_true rfl, Nat.le_of_ble_eq_true rfl⟩) hS (fun r_1063 G_1063 H locs hF_1063 hr_1063 hT hS => ?_)
                have hF := hF.tr hF_1063 rfl
                have k_1064 : p4 = G_1063.1 paa 4 := k_1057.trans (hF_1063.i h_paa (by decide) rfl _).symm
                obtain ⟨hr_1063_p0, hr_1063_p1, hr_1063_p2, hr_1063_s0⟩ := hr_1063
                have k_1067 : tp = G_1063.1 a 6 := k_1058.trans hr_1063_s0.symm
                obtain ⟨z_1068, ez_1068, hr_1063_p0, hr_1063_p1, hr_1063_p2⟩ : ∃ z_1068 : Int32, z_1068 = G_1063.1 a 7 ∧ (z_1055.toInt ≤ z_1068.toInt) ∧ (z_1068.toInt ≤ tp.toInt) ∧ (r_1063.toInt = (1 : Int) ∨ ((1 : Int) ≤ r_1063.toInt ∧ r_1063.toInt ≤ (30 : Int))) := ⟨_, rfl, hr_1063_p0, hr_1063_p1, hr_1063_p2⟩
                have rz_1068 : 0 ≤ z_1068.toInt ∧ z_1068.toInt ≤ 1600 := by rw [ez_1068]; exact hT.rgi h_a (by decide) 7
                refine t_iast (n := 120) (i := z_1062) (x := r_1063) rfl (by decide) hx hb hK hT hS hq_1032 (hT.len hq_1032 (by decide)) ⟨by omega, by omega⟩ trivial dX10_pathLine_217 (fun H locs G_1069 eG_1069 hT hS => ?_)
                have hF := hF.wI eG_1069 hq_1032 rfl
                have k_1070 : p4 = G_1069.1 paa 4 := by rw [eG_1069, wI_ne (Or.inl (tag_ne hq_1032 h_paa (by decide)))]; exact k_1064
                have k_1071 : tp = G_1069.1 a 6 := by rw [eG_1069, wI_ne (Or.inl (tag_ne hq_1032 h_a (by decide)))]; exact k_1067
                have k_1072 : z_1068 = G_1069.1 a 7 := by rw [eG_1069, wI_ne (Or.inl (tag_ne hq_1032 h_a (by decide)))]; exact ez_1068
                refine lv_aload_n hx hb dX10_pathLine_218 rfl (lv_at hl 4 rfl) ?_
                refine t_getr cf_11 hx hb hts hown hK hT h_a (k := 22) (P := fun q => τ q = 72) rfl (fun _ h9 => h9) fl_X10_49 (fun _ h9 => h9) dX10_pathLine_219 (fun q_1073 eq_1073 hq_1073 => ?_)
                have w_1074 : paa = q_1073 := Option.some.inj (e_paa.symm.trans ((hF.r h_a (by decide) rfl _).symm.trans eq_1073))
                subst w_1074
                refine lv_iconst (v := 4) hx hb dX10_pathLine_222 (by decide) ?_
                refine lv_dup2_11 hx hb dX10_pathLine_223 rfl rfl ?_
                refine t_iald (n := 5) (i := 4) rfl (by decide) hx hb hK hT h_paa (hT.len h_paa (by decide)) ⟨by decide, by decide⟩ dX10_pathLine_224 (fun z_1075 ez_1075 rz_1075 => ?_)
                have w_1076 : p4 = z_1075 := k_1070.trans ez_1075.symm
                subst w_1076
                refine lv_iconst (v := 1) hx hb dX10_pathLine_225 (by decide) ?_
                refine lv_iadd hx hb dX10_pathLine_226 ?_
                refine lv_topi (fun z_1077 ez_1077 => ?_)
                have tz_1077 : z_1077.toInt = p4.toInt + 1 := add_t ez_1077 (show -2147483648 ≤ p4.toInt + 1 by omega) (show p4.toInt + 1 < 2147483648 by omega)
                refine t_iast (n := 5) (i := 4) (x := z_1077) rfl (by decide) hx hb hK hT hS h_paa (hT.len h_paa (by decide)) ⟨by decide, by decide⟩ (show 0 ≤ z_1077.toInt ∧ z_1077.toInt ≤ 8 from ⟨by omega, by omega⟩) dX10_pathLine_227 (fun H locs G_1078 eG_1078 hT hS => ?_)
                have hF := hF.wI eG_1078 h_paa rfl
                have eG_1078 : G_1078 = wI G_1069 paa 4 z_1077 := eG_1078
                have k_1080 : tp = G_1078.1 a 6 := by rw [eG_1078, wI_ne (Or.inl (tag_ne h_paa h_a (by decide)))]; exact k_1071
                have k_1081 : z_1068 = G_1078.1 a 7 := by rw [eG_1078, wI_ne (Or.inl (tag_ne h_paa h_a (by decide)))]; exact k_1072
                have k_1082 : z_1077 = G_1078.1 paa 4 := by rw [eG_1078, wI_at]
                exact ret_v hx hb hr hlocks ⟨⟨hS.1, hS.2.1⟩, G_1078, hF, ⟨rfl, ⟨(by first | (show a0.toInt ≤ (G_1078.1 a 7).toInt; rw [← k_1081]; done) | (show a0.toInt ≤ (G_1078.1 a 7).toInt; rw [← k_1081]; show a0.toInt ≤ z_1068.toInt; first | omega | assumption)), (by first | (show (G_1078.1 a 7).toInt ≤ tp.toInt; rw [← k_1081]; done) | (show (G_1078.1 a 7).toInt ≤ tp.toInt; rw [← k_1081]; show z_1068.toInt ≤ tp.toInt; first | omega | assumption)), (k_1080.symm.trans e_tp)⟩⟩, hT⟩ hS.2.2 (Nat.le_of_ble_eq_true rfl) (Nat.le_of_ble_eq_true rfl) dX10_pathLine_228
              · skip
                have tc_1031 : ¬ x798_3.toInt = 0 := fun h => c_1031 ((fa_eq _ _).mpr h)
                refine lv_aload_n hx hb dX10_pathLine_167 rfl (lv_at hl 4 rfl) ?_
                refine lv_iconst (v := 2) hx hb dX10_pathLine_168 (by decide) ?_
                refine t_callv (runV (As := [.int 2]) (rest := []) ⟨hx, hb, hml, hown, hts⟩ (t_X10_fails l D cy base τ G_798 a h_a 2 (by decide) tp i798_6 ⟨by omega, by omega⟩ x798_at i798_8 ⟨by omega, by omega⟩ z_1029 ez_1029 z_915 ez_915) sV_X10_179 hK (t_recv cf_11 hK hT h_a) ⟨Nat.le_trans hZ hS.1, hT⟩ ⟨Nat.le_of_ble_eq_true rfl, Nat.le_of_ble_eq_true rfl⟩ rfl hl.1 rfl (Nat.le_of_ble_eq_true rfl) dX10_pathLine_169 ⟨Nat.le_of_ble_eq_true rfl, Nat.le_of_ble_eq_true rfl⟩) hS (fun G_1083 H locs hF_1083 hr_1083 hT hS => ?_)
                have hF := hF.tr hF_1083 rfl
                have k_1085 : p4 = G_1083.1 paa 4 := i798_7.trans (hF_1083.i h_paa (by decide) rfl _).symm
                obtain ⟨hr_1083_p0, hr_1083_s0, hr_1083_s1, hr_1083_s2⟩ := hr_1083
                have k_1089 : tp = G_1083.1 a 6 := i798_6.trans hr_1083_s0.symm
                have k_1090 : x798_at = G_1083.1 a 7 := i798_8.trans hr_1083_s1.symm
                have k_1091 : z_1029 = G_1083.1 a 8 := ez_1029.trans hr_1083_s2.symm
                obtain ⟨z_1092, ez_1092, hr_1083_p0⟩ : ∃ z_1092 : Int32, z_1092 = G_1083.1 a 12 ∧ (z_1092.toInt ≠ 0) := ⟨_, rfl, hr_1083_p0⟩
                refine lv_aload_n hx hb dX10_pathLine_172 rfl (lv_at hl 4 rfl) ?_
                refine t_getr cf_11 hx hb hts hown hK hT h_a (k := 23) (P := fun q => τ q = 73) rfl (fun _ h9 => h9) fl_X10_52 (fun _ h9 => h9) dX10_pathLine_173 (fun q_1093 eq_1093 hq_1093 => ?_)
                have eq_1093 := (hF.r h_a (by decide) rfl _).symm.trans eq_1093
                refine lv_iload_n hx hb dX10_pathLine_176 rfl (lv_at hl 3 rfl) ?_
                refine lv_iload_n hx hb dX10_pathLine_177 rfl (lv_at hl 2 rfl) ?_
                refine t_iast (n := 120) (i := z_6) (x := r_10) rfl (by decide) hx hb hK hT hS hq_1093 (hT.len hq_1093 (by decide)) ⟨by omega, by omega⟩ trivial dX10_pathLine_178 (fun H locs G_1094 eG_1094 hT hS => ?_)
                have hF := hF.wI eG_1094 hq_1093 rfl
                have k_1095 : p4 = G_1094.1 paa 4 := by rw [eG_1094, wI_ne (Or.inl (tag_ne hq_1093 h_paa (by decide)))]; exact k_1085
                have k_1096 : tp = G_1094.1 a 6 := by rw [eG_1094, wI_ne (Or.inl (tag_ne hq_1093 h_a (by decide)))]; exact k_1089
                have k_1097 : x798_at = G_1094.1 a 7 := by rw [eG_1094, wI_ne (Or.inl (tag_ne hq_1093 h_a (by decide)))]; exact k_1090
                have k_1098 : z_1029 = G_1094.1 a 8 := by rw [eG_1094, wI_ne (Or.inl (tag_ne hq_1093 h_a (by decide)))]; exact k_1091
                have k_1099 : z_1092 = G_1094.1 a 12 := by rw [eG_1094, wI_ne (Or.inl (tag_ne hq_1093 h_a (by decide)))]; exact ez_1092
                refine lv_aload_n hx hb dX10_pathLine_179 rfl (lv_at hl 4 rfl) ?_
                refine t_getr cf_11 hx hb hts hown hK hT h_a (k := 23) (P := fun q => τ q = 73) rfl (fun _ h9 => h9) fl_X10_52 (fun _ h9 => h9) dX10_pathLine_180 (fun q_1100 eq_1100 hq_1100 => ?_)
                have w_1101 : q_1093 = q_1100 := Option.some.inj (eq_1093.symm.trans ((hF.r h_a (by decide) rfl _).symm.trans eq_1100))
                subst w_1101
                refine lv_iload_n hx hb dX10_pathLine_183 rfl (lv_at hl 3 rfl) ?_
                refine lv_iconst (v := 1) hx hb dX10_pathLine_184 (by decide) ?_
                refine lv_iadd hx hb dX10_pathLine_185 ?_
                refine lv_topi (fun z_1102 ez_1102 => ?_)
                have tz_1102 : z_1102.toInt = z_6.toInt + 1 := add_t ez_1102 (show -2147483648 ≤ z_6.toInt + 1 by omega) (show z_6.toInt + 1 < 2147483648 by omega)
                refine lv_aload_n hx hb dX10_pathLine_186 rfl (lv_at hl 4 rfl) ?_
                refine lv_iconst (v := 0) hx hb dX10_pathLine_187 (by decide) ?_
                refine lv_aload_n hx hb dX10_pathLine_188 rfl (lv_at hl 4 rfl) ?_
                refine t_getr cf_11 hx hb hts hown hK hT h_a (k := 20) (P := fun q => τ q = 70) rfl (fun _ h9 => h9) fl_X10_43 (fun _ h9 => h9) dX10_pathLine_189 (fun q_1103 eq_1103 hq_1103 => ?_)
                have w_1104 : q_7 = q_1103 := Option.some.inj (eq_7.symm.trans ((hF.r h_a (by decide) rfl _).symm.trans eq_1103))
                subst w_1104
                refine lv_iconst (v := 4) hx hb dX10_pathLine_192 (by decide) ?_
                refine t_iald (n := 5) (i := 4) rfl (by decide) hx hb hK hT hq_7 (hT.len hq_7 (by decide)) ⟨by decide, by decide⟩ dX10_pathLine_193 (fun z_1105 ez_1105 rz_1105 => ?_)
                have w_1106 : z_8 = z_1105 := ez_8.trans (ez_1105.trans (hF.i hq_7 (by decide) rfl _)).symm
                subst w_1106
                refine lv_iconst (v := 1) hx hb dX10_pathLine_194 (by decide) ?_
                refine lv_isub hx hb dX10_pathLine_195 ?_
                refine lv_topi (fun z_1107 ez_1107 => ?_)
                have w_1108 : z_9 = z_1107 := ez_9.trans ez_1107.symm
                subst w_1108
                refine t_calli (runV (As := [.int 0, .int z_9]) (rest := [.int z_1102, .ref q_1093]) ⟨hx, hb, hml, hown, hts⟩ (t_X10_number l D cy base τ G_1094 a h_a 0 z_9 tp k_1096 ⟨by omega, by omega⟩ x798_at k_1097 ⟨by omega, by omega⟩ (by show x798_at.toInt ≤ tp.toInt; first | assumption | omega | decide)) sV_X10_186 hK (t_recv cf_11 hK hT h_a) ⟨Nat.le_trans hZ hS.1, hT⟩ ⟨Nat.le_of_ble_eq_true rfl, Nat.le_of_ble_eq_true rfl⟩ rfl hl.1 rfl (Nat.le_of_ble_eq_true rfl) dX10_pathLine_196 ⟨Nat.le_of_ble_eq_true rfl, Nat.le_of_ble_eq_true rfl⟩) hS (fun r_1109 G_1109 H locs hF_1109 hr_1109 hT hS => ?_)
                have hF := hF.tr hF_1109 rfl
                have k_1110 : p4 = G_1109.1 paa 4 := k_1095.trans (hF_1109.i h_paa (by decide) rfl _).symm
                obtain ⟨hr_1109_p0, hr_1109_p1, hr_1109_p2, hr_1109_s0⟩ := hr_1109
                have k_1115 : tp = G_1109.1 a 6 := k_1096.trans hr_1109_s0.symm
                obtain ⟨z_1116, ez_1116, hr_1109_p0, hr_1109_p1, hr_1109_p2⟩ : ∃ z_1116 : Int32, z_1116 = G_1109.1 a 7 ∧ (x798_at.toInt ≤ z_1116.toInt) ∧ (z_1116.toInt ≤ tp.toInt) ∧ (r_1109.toInt = (0 : Int) ∨ ((0 : Int) ≤ r_1109.toInt ∧ r_1109.toInt ≤ z_9.toInt)) := ⟨_, rfl, hr_1109_p0, hr_1109_p1, hr_1109_p2⟩
                have rz_1116 : 0 ≤ z_1116.toInt ∧ z_1116.toInt ≤ 1600 := by rw [ez_1116]; exact hT.rgi h_a (by decide) 7
                refine t_iast (n := 120) (i := z_1102) (x := r_1109) rfl (by decide) hx hb hK hT hS hq_1093 (hT.len hq_1093 (by decide)) ⟨by omega, by omega⟩ trivial dX10_pathLine_199 (fun H locs G_1117 eG_1117 hT hS => ?_)
                have hF := hF.wI eG_1117 hq_1093 rfl
                have k_1118 : p4 = G_1117.1 paa 4 := by rw [eG_1117, wI_ne (Or.inl (tag_ne hq_1093 h_paa (by decide)))]; exact k_1110
                have k_1119 : tp = G_1117.1 a 6 := by rw [eG_1117, wI_ne (Or.inl (tag_ne hq_1093 h_a (by decide)))]; exact k_1115
                have k_1120 : z_1116 = G_1117.1 a 7 := by rw [eG_1117, wI_ne (Or.inl (tag_ne hq_1093 h_a (by decide)))]; exact ez_1116
                refine lv_aload_n hx hb dX10_pathLine_200 rfl (lv_at hl 4 rfl) ?_
                refine t_getr cf_11 hx hb hts hown hK hT h_a (k := 23) (P := fun q => τ q = 73) rfl (fun _ h9 => h9) fl_X10_52 (fun _ h9 => h9) dX10_pathLine_201 (fun q_1121 eq_1121 hq_1121 => ?_)
                have w_1122 : q_1093 = q_1121 := Option.some.inj (eq_1093.symm.trans ((hF.r h_a (by decide) rfl _).symm.trans eq_1121))
                subst w_1122
                refine lv_iload_n hx hb dX10_pathLine_204 rfl (lv_at hl 3 rfl) ?_
                refine lv_iconst (v := 2) hx hb dX10_pathLine_205 (by decide) ?_
                refine lv_iadd hx hb dX10_pathLine_206 ?_
                refine lv_topi (fun z_1123 ez_1123 => ?_)
                have tz_1123 : z_1123.toInt = z_6.toInt + 2 := add_t ez_1123 (show -2147483648 ≤ z_6.toInt + 2 by omega) (show z_6.toInt + 2 < 2147483648 by omega)
                refine lv_aload_n hx hb dX10_pathLine_207 rfl (lv_at hl 4 rfl) ?_
                refine lv_ldc2 (v := 80155) hx hb hown (hts _ kl_X10_195) dX10_pathLine_208 ?_
                refine lv_iconst (v := 1) hx hb dX10_pathLine_211 (by decide) ?_
                refine lv_bipush (v := 30) hx hb dX10_pathLine_212 (by decide) ?_
                refine t_calli (runV (As := [.long 80155, .int 1, .int 30]) (rest := [.int z_1123, .ref q_1093]) ⟨hx, hb, hml, hown, hts⟩ (t_X10_number_ l D cy base τ G_1117 a h_a 80155 1 30 tp k_1119 ⟨by omega, by omega⟩ z_1116 k_1120 ⟨by omega, by omega⟩ (by show z_1116.toInt ≤ tp.toInt; first | assumption | omega | decide)) sV_X10_197 hK (t_recv cf_11 hK hT h_a) ⟨Nat.le_trans hZ hS.1, hT⟩ ⟨Nat.le_of_ble_eq_true rfl, Nat.le_of_ble_eq_true rfl⟩ rfl hl.1 rfl (Nat.le_of_ble_eq_true rfl) dX10_pathLine_214 ⟨Nat.le_of_ble_eq_true rfl, Nat.le_of_ble_eq_true rfl⟩) hS (fun r_1124 G_1124 H locs hF_1124 hr_1124 hT hS => ?_)
                have hF := hF.tr hF_1124 rfl
                have k_1125 : p4 = G_1124.1 paa 4 := k_1118.trans (hF_1124.i h_paa (by decide) rfl _).symm
                obtain ⟨hr_1124_p0, hr_1124_p1, hr_1124_p2, hr_1124_s0⟩ := hr_1124
                have k_1128 : tp = G_1124.1 a 6 := k_1119.trans hr_1124_s0.symm
                obtain ⟨z_1129, ez_1129, hr_1124_p0, hr_1124_p1, hr_1124_p2⟩ : ∃ z_1129 : Int32, z_1129 = G_1124.1 a 7 ∧ (z_1116.toInt ≤ z_1129.toInt) ∧ (z_1129.toInt ≤ tp.toInt) ∧ (r_1124.toInt = (1 : Int) ∨ ((1 : Int) ≤ r_1124.toInt ∧ r_1124.toInt ≤ (30 : Int))) := ⟨_, rfl, hr_1124_p0, hr_1124_p1, hr_1124_p2⟩
                have rz_1129 : 0 ≤ z_1129.toInt ∧ z_1129.toInt ≤ 1600 := by rw [ez_1129]; exact hT.rgi h_a (by decide) 7
                refine t_iast (n := 120) (i := z_1123) (x := r_1124) rfl (by decide) hx hb hK hT hS hq_1093 (hT.len hq_1093 (by decide)) ⟨by omega, by omega⟩ trivial dX10_pathLine_217 (fun H locs G_1130 eG_1130 hT hS => ?_)
                have hF := hF.wI eG_1130 hq_1093 rfl
                have k_1131 : p4 = G_1130.1 paa 4 := by rw [eG_1130, wI_ne (Or.inl (tag_ne hq_1093 h_paa (by decide)))]; exact k_1125
                have k_1132 : tp = G_1130.1 a 6 := by rw [eG_1130, wI_ne (Or.inl (tag_ne hq_1093 h_a (by decide)))]; exact k_1128
                have k_1133 : z_1129 = G_1130.1 a 7 := by rw [eG_1130, wI_ne (Or.inl (tag_ne hq_1093 h_a (by decide)))]; exact ez_1129
                refine lv_aload_n hx hb dX10_pathLine_218 rfl (lv_at hl 4 rfl) ?_
                refine t_getr cf_11 hx hb hts hown hK hT h_a (k := 22) (P := fun q => τ q = 72) rfl (fun _ h9 => h9) fl_X10_49 (fun _ h9 => h9) dX10_pathLine_219 (fun q_1134 eq_1134 hq_1134 => ?_)
                have w_1135 : paa = q_1134 := Option.some.inj (e_paa.symm.trans ((hF.r h_a (by decide) rfl _).symm.trans eq_1134))
                subst w_1135
                refine lv_iconst (v := 4) hx hb dX10_pathLine_222 (by decide) ?_
                refine lv_dup2_11 hx hb dX10_pathLine_223 rfl rfl ?_
                refine t_iald (n := 5) (i := 4) rfl (by decide) hx hb hK hT h_paa (hT.len h_paa (by decide)) ⟨by decide, by decide⟩ dX10_pathLine_224 (fun z_1136 ez_1136 rz_1136 => ?_)
                have w_1137 : p4 = z_1136 := k_1131.trans ez_1136.symm
                subst w_1137
                refine lv_iconst (v := 1) hx hb dX10_pathLine_225 (by decide) ?_
                refine lv_iadd hx hb dX10_pathLine_226 ?_
                refine lv_topi (fun z_1138 ez_1138 => ?_)
                have tz_1138 : z_1138.toInt = p4.toInt + 1 := add_t ez_1138 (show -2147483648 ≤ p4.toInt + 1 by omega) (show p4.toInt + 1 < 2147483648 by omega)
                refine t_iast (n := 5) (i := 4) (x := z_1138) rfl (by decide) hx hb hK hT hS h_paa (hT.len h_paa (by decide)) ⟨by decide, by decide⟩ (show 0 ≤ z_1138.toInt ∧ z_1138.toInt ≤ 8 from ⟨by omega, by omega⟩) dX10_pathLine_227 (fun H locs G_1139 eG_1139 hT hS => ?_)
                have hF := hF.wI eG_1139 h_paa rfl
                have eG_1139 : G_1139 = wI G_1130 paa 4 z_1138 := eG_1139
                have k_1141 : tp = G_1139.1 a 6 := by rw [eG_1139, wI_ne (Or.inl (tag_ne h_paa h_a (by decide)))]; exact k_1132
                have k_1142 : z_1129 = G_1139.1 a 7 := by rw [eG_1139, wI_ne (Or.inl (tag_ne h_paa h_a (by decide)))]; exact k_1133
                have k_1143 : z_1138 = G_1139.1 paa 4 := by rw [eG_1139, wI_at]
                exact ret_v hx hb hr hlocks ⟨⟨hS.1, hS.2.1⟩, G_1139, hF, ⟨rfl, ⟨(by first | (show a0.toInt ≤ (G_1139.1 a 7).toInt; rw [← k_1142]; done) | (show a0.toInt ≤ (G_1139.1 a 7).toInt; rw [← k_1142]; show a0.toInt ≤ z_1129.toInt; first | omega | assumption)), (by first | (show (G_1139.1 a 7).toInt ≤ tp.toInt; rw [← k_1142]; done) | (show (G_1139.1 a 7).toInt ≤ tp.toInt; rw [← k_1142]; show z_1129.toInt ≤ tp.toInt; first | omega | assumption)), (k_1141.symm.trans e_tp)⟩⟩, hT⟩ hS.2.2 (Nat.le_of_ble_eq_true rfl) (Nat.le_of_ble_eq_true rfl) dX10_pathLine_228
            · skip
              have tc_1030 : z_1029.toInt = 2 := (fa_eq _ _).mp c_1030
              refine lv_iconst (v := 3) hx hb dX10_pathLine_84 (by decide) ?_
              refine lv_bipush (v := 32) hx hb dX10_pathLine_85 (by decide) ?_
              refine lv_iload hx hb dX10_pathLine_87 (lv_at hl 1 rfl) ?_
              refine lv_iadd hx hb dX10_pathLine_89 ?_
              refine lv_topi (fun z_1144 ez_1144 => ?_)
              have tz_1144 : z_1144.toInt = 32 + x798_4.toInt := add_t ez_1144 (show -2147483648 ≤ 32 + x798_4.toInt by omega) (show 32 + x798_4.toInt < 2147483648 by omega)
              refine lv_imul hx hb dX10_pathLine_90 ?_
              refine lv_topi (fun z_1145 ez_1145 => ?_)
              have tz_1145 : z_1145.toInt = 3 * z_1144.toInt := mul_t ez_1145 (show -2147483648 ≤ 3 * z_1144.toInt by omega) (show 3 * z_1144.toInt < 2147483648 by omega)
              refine lv_istore (lv' := [(5, .int z_1145), (3, .int x798_3), (4, .int x798_4), (2, .int r_10), (1, .int z_6), (0, .ref a)]) hx hb dX10_pathLine_91 hl (by decide) rfl (fun ls hl => ?_)
              refine lv_iload_n hx hb dX10_pathLine_93 rfl (lv_at hl 1 rfl) ?_
              refine lv_if_ne (tgt := 151) hx hb dX10_pathLine_94 (by decide) (fun c_1146 => ?_) (fun c_1146 => ?_)
              · skip
                have tc_1146 : ¬ x798_3.toInt = 0 := fun h => c_1146 ((fa_eq _ _).mpr h)
                refine lv_iconst (v := 1) hx hb dX10_pathLine_151 (by decide) ?_
                refine lv_goto (tgt := 156) hx hb dX10_pathLine_152 (by decide) ?_
                refine lv_istore_n (lv' := [(3, .int 1), (5, .int z_1145), (4, .int x798_4), (2, .int r_10), (1, .int z_6), (0, .ref a)]) hx hb dX10_pathLine_156 rfl hl (by decide) rfl (fun ls hl => ?_)
                obtain ⟨z_1147, ez_1147⟩ : ∃ y : Int32, y = x798_4 + 1 := ⟨_, rfl⟩
                have tz_1147 : z_1147.toInt = x798_4.toInt + 1 := add_t ez_1147 (show -2147483648 ≤ x798_4.toInt + 1 by omega) (show x798_4.toInt + 1 < 2147483648 by omega)
                refine lv_iinc (v := z_1147) (lv' := [(4, .int z_1147), (3, .int 1), (5, .int z_1145), (2, .int r_10), (1, .int z_6), (0, .ref a)]) hx hb dX10_pathLine_157 hl (k := 2) rfl (by rw [ez_1147]; rfl) (by decide) rfl (fun ls hl => ?_)
                refine lv_goto (tgt := 58) hx hb dX10_pathLine_160 (by decide) ?_
                exact ih798 ((1 : Int32), z_1147, x798_at, G_798) _ _ _ (by show (8 - z_1147.toInt).toNat < (8 - x798_4.toInt).toNat; omega) ⟨(by show 0 ≤ z_1147.toInt; omega), (by show z_1147.toInt ≤ 8; omega), (by show 0 ≤ x798_at.toInt; omega), (by show x798_at.toInt ≤ 1600; omega), by show a0.toInt ≤ x798_at.toInt; first | omega | assumption, by show x798_at.toInt ≤ tp.toInt; first | omega | assumption, (show tp = G_798.1 a 6 from by first | exact i798_6 | omega), (show p4 = G_798.1 paa 4 from by first | exact i798_7 | omega), i798_8, hF, hT, hS, lv_sub hl [1, 0, 3, 4, 5] rfl⟩
              · skip
                have tc_1146 : x798_3.toInt = 0 := (fa_eq _ _).mp c_1146
                refine lv_aload_n hx hb dX10_pathLine_97 rfl (lv_at hl 5 rfl) ?_
                refine t_getr cf_11 hx hb hts hown hK hT h_a (k := 23) (P := fun q => τ q = 73) rfl (fun _ h9 => h9) fl_X10_52 (fun _ h9 => h9) dX10_pathLine_98 (fun q_1148 eq_1148 hq_1148 => ?_)
                have eq_1148 := (hF.r h_a (by decide) rfl _).symm.trans eq_1148
                refine lv_iload hx hb dX10_pathLine_101 (lv_at hl 0 rfl) ?_
                refine t_iald (n := 120) (i := z_1145) rfl (by decide) hx hb hK hT hq_1148 (hT.len hq_1148 (by decide)) ⟨by omega, by omega⟩ dX10_pathLine_103 (fun z_1149 ez_1149 rz_1149 => ?_)
                refine lv_iload_n hx hb dX10_pathLine_104 rfl (lv_at hl 3 rfl) ?_
                refine lv_icmp_ne (tgt := 124) hx hb dX10_pathLine_105 (by decide) (fun c_1150 => ?_) (fun c_1150 => ?_)
                · skip
                  have tc_1150 : ¬ z_1149.toInt = r_10.toInt := fun h => c_1150 ((fa_eq _ _).mpr h)
                  refine lv_aload_n hx hb dX10_pathLine_124 rfl (lv_at hl 5 rfl) ?_
                  refine t_getr cf_11 hx hb hts hown hK hT h_a (k := 23) (P := fun q => τ q = 73) rfl (fun _ h9 => h9) fl_X10_52 (fun _ h9 => h9) dX10_pathLine_125 (fun q_1151 eq_1151 hq_1151 => ?_)
                  have w_1152 : q_1148 = q_1151 := Option.some.inj (eq_1148.symm.trans ((hF.r h_a (by decide) rfl _).symm.trans eq_1151))
                  subst w_1152
                  refine lv_iload hx hb dX10_pathLine_128 (lv_at hl 0 rfl) ?_
                  refine t_iald (n := 120) (i := z_1145) rfl (by decide) hx hb hK hT hq_1148 (hT.len hq_1148 (by decide)) ⟨by omega, by omega⟩ dX10_pathLine_130 (fun z_1153 ez_1153 rz_1153 => ?_)
                  refine lv_aload_n hx hb dX10_pathLine_131 rfl (lv_at hl 5 rfl) ?_
                  refine t_geti cf_11 hx hb hts hown hK hT h_a (k := 10) rfl fl_X10_145 (fun _ h9 => h9) dX10_pathLine_132 (fun z_1154 ez_1154 rz_1154 => ?_)
                  have ez_1154 : z_1154 = G_798.1 a 10 := ez_1154
                  refine lv_icmp_ne (tgt := 155) hx hb dX10_pathLine_135 (by decide) (fun c_1155 => ?_) (fun c_1155 => ?_)
                  · skip
                    have tc_1155 : ¬ z_1153.toInt = z_1154.toInt := fun h => c_1155 ((fa_eq _ _).mpr h)
                    refine lv_iconst (v := 0) hx hb dX10_pathLine_155 (by decide) ?_
                    refine lv_istore_n (lv' := [(3, .int 0), (5, .int z_1145), (4, .int x798_4), (2, .int r_10), (1, .int z_6), (0, .ref a)]) hx hb dX10_pathLine_156 rfl hl (by decide) rfl (fun ls hl => ?_)
                    obtain ⟨z_1156, ez_1156⟩ : ∃ y : Int32, y = x798_4 + 1 := ⟨_, rfl⟩
                    have tz_1156 : z_1156.toInt = x798_4.toInt + 1 := add_t ez_1156 (show -2147483648 ≤ x798_4.toInt + 1 by omega) (show x798_4.toInt + 1 < 2147483648 by omega)
                    refine lv_iinc (v := z_1156) (lv' := [(4, .int z_1156), (3, .int 0), (5, .int z_1145), (2, .int r_10), (1, .int z_6), (0, .ref a)]) hx hb dX10_pathLine_157 hl (k := 2) rfl (by rw [ez_1156]; rfl) (by decide) rfl (fun ls hl => ?_)
                    refine lv_goto (tgt := 58) hx hb dX10_pathLine_160 (by decide) ?_
                    exact ih798 ((0 : Int32), z_1156, x798_at, G_798) _ _ _ (by show (8 - z_1156.toInt).toNat < (8 - x798_4.toInt).toNat; omega) ⟨(by show 0 ≤ z_1156.toInt; omega), (by show z_1156.toInt ≤ 8; omega), (by show 0 ≤ x798_at.toInt; omega), (by show x798_at.toInt ≤ 1600; omega), by show a0.toInt ≤ x798_at.toInt; first | omega | assumption, by show x798_at.toInt ≤ tp.toInt; first | omega | assumption, (show tp = G_798.1 a 6 from by first | exact i798_6 | omega), (show p4 = G_798.1 paa 4 from by first | exact i798_7 | omega), i798_8, hF, hT, hS, lv_sub hl [1, 0, 3, 4, 5] rfl⟩
                  · skip
                    have tc_1155 : z_1153.toInt = z_1154.toInt := (fa_eq _ _).mp c_1155
                    refine lv_aload_n hx hb dX10_pathLine_138 rfl (lv_at hl 5 rfl) ?_
                    refine t_getr cf_11 hx hb hts hown hK hT h_a (k := 23) (P := fun q => τ q = 73) rfl (fun _ h9 => h9) fl_X10_52 (fun _ h9 => h9) dX10_pathLine_139 (fun q_1157 eq_1157 hq_1157 => ?_)
                    have w_1158 : q_1148 = q_1157 := Option.some.inj (eq_1148.symm.trans ((hF.r h_a (by decide) rfl _).symm.trans eq_1157))
                    subst w_1158
                    refine lv_iload hx hb dX10_pathLine_142 (lv_at hl 0 rfl) ?_
                    refine lv_iconst (v := 1) hx hb dX10_pathLine_144 (by decide) ?_
                    refine lv_iadd hx hb dX10_pathLine_145 ?_
                    refine lv_topi (fun z_1159 ez_1159 => ?_)
                    have tz_1159 : z_1159.toInt = z_1145.toInt + 1 := add_t ez_1159 (show -2147483648 ≤ z_1145.toInt + 1 by omega) (show z_1145.toInt + 1 < 2147483648 by omega)
                    refine t_iald (n := 120) (i := z_1159) rfl (by decide) hx hb hK hT hq_1148 (hT.len hq_1148 (by decide)) ⟨by omega, by omega⟩ dX10_pathLine_146 (fun z_1160 ez_1160 rz_1160 => ?_)
                    refine lv_iload_n hx hb dX10_pathLine_147 rfl (lv_at hl 3 rfl) ?_
                    refine lv_icmp_ne (tgt := 155) hx hb dX10_pathLine_148 (by decide) (fun c_1161 => ?_) (fun c_1161 => ?_)
                    · skip
                      have tc_1161 : ¬ z_1160.toInt = r_10.toInt := fun h => c_1161 ((fa_eq _ _).mpr h)
                      refine lv_iconst (v := 0) hx hb dX10_pathLine_155 (by decide) ?_
                      refine lv_istore_n (lv' := [(3, .int 0), (5, .int z_1145), (4, .int x798_4), (2, .int r_10), (1, .int z_6), (0, .ref a)]) hx hb dX10_pathLine_156 rfl hl (by decide) rfl (fun ls hl => ?_)
                      obtain ⟨z_1162, ez_1162⟩ : ∃ y : Int32, y = x798_4 + 1 := ⟨_, rfl⟩
                      have tz_1162 : z_1162.toInt = x798_4.toInt + 1 := add_t ez_1162 (show -2147483648 ≤ x798_4.toInt + 1 by omega) (show x798_4.toInt + 1 < 2147483648 by omega)
                      refine lv_iinc (v := z_1162) (lv' := [(4, .int z_1162), (3, .int 0), (5, .int z_1145), (2, .int r_10), (1, .int z_6), (0, .ref a)]) hx hb dX10_pathLine_157 hl (k := 2) rfl (by rw [ez_1162]; rfl) (by decide) rfl (fun ls hl => ?_)
                      refine lv_goto (tgt := 58) hx hb dX10_pathLine_160 (by decide) ?_
                      exact ih798 ((0 : Int32), z_1162, x798_at, G_798) _ _ _ (by show (8 - z_1162.toInt).toNat < (8 - x798_4.toInt).toNat; omega) ⟨(by show 0 ≤ z_1162.toInt; omega), (by show z_1162.toInt ≤ 8; omega), (by show 0 ≤ x798_at.toInt; omega), (by show x798_at.toInt ≤ 1600; omega), by show a0.toInt ≤ x798_at.toInt; first | omega | assumption, by show x798_at.toInt ≤ tp.toInt; first | omega | assumption, (show tp = G_798.1 a 6 from by first | exact i798_6 | omega), (show p4 = G_798.1 paa 4 from by first | exact i798_7 | omega), i798_8, hF, hT, hS, lv_sub hl [1, 0, 3, 4, 5] rfl⟩
                    · skip
                      have tc_1161 : z_1160.toInt = r_10.toInt := (fa_eq _ _).mp c_1161
                      refine lv_iconst (v := 1) hx hb dX10_pathLine_151 (by decide) ?_
                      refine lv_goto (tgt := 156) hx hb dX10_pathLine_152 (by decide) ?_
                      refine lv_istore_n (lv' := [(3, .int 1), (5, .int z_1145), (4, .int x798_4), (2, .int r_10), (1, .int z_6), (0, .ref a)]) hx hb dX10_pathLine_156 rfl hl (by decide) rfl (fun ls hl => ?_)
                      obtain ⟨z_1163, ez_1163⟩ : ∃ y : Int32, y = x798_4 + 1 := ⟨_, rfl⟩
                      have tz_1163 : z_1163.toInt = x798_4.toInt + 1 := add_t ez_1163 (show -2147483648 ≤ x798_4.toInt + 1 by omega) (show x798_4.toInt + 1 < 2147483648 by omega)
                      refine lv_iinc (v := z_1163) (lv' := [(4, .int z_1163), (3, .int 1), (5, .int z_1145), (2, .int r_10), (1, .int z_6), (0, .ref a)]) hx hb dX10_pathLine_157 hl (k := 2) rfl (by rw [ez_1163]; rfl) (by decide) rfl (fun ls hl => ?_)
                      refine lv_goto (tgt := 58) hx hb dX10_pathLine_160 (by decide) ?_
                      exact ih798 ((1 : Int32), z_1163, x798_at, G_798) _ _ _ (by show (8 - z_1163.toInt).toNat < (8 - x798_4.toInt).toNat; omega) ⟨(by show 0 ≤ z_1163.toInt; omega), (by show z_1163.toInt ≤ 8; omega), (by show 0 ≤ x798_at.toInt; omega), (by show x798_at.toInt ≤ 1600; omega), by show a0.toInt ≤ x798_at.toInt; first | omega | assumption, by show x798_at.toInt ≤ tp.toInt; first | omega | assumption, (show tp = G_798.1 a 6 from by first | exact i798_6 | omega), (show p4 = G_798.1 paa 4 from by first | exact i798_7 | omega), i798_8, hF, hT, hS, lv_sub hl [1, 0, 3, 4, 5] rfl⟩
                · skip
                  have tc_1150 : z_1149.toInt = r_10.toInt := (fa_eq _ _).mp c_1150
                  refine lv_aload_n hx hb dX10_pathLine_108 rfl (lv_at hl 5 rfl) ?_
                  refine t_getr cf_11 hx hb hts hown hK hT h_a (k := 23) (P := fun q => τ q = 73) rfl (fun _ h9 => h9) fl_X10_52 (fun _ h9 => h9) dX10_pathLine_109 (fun q_1164 eq_1164 hq_1164 => ?_)
                  have w_1165 : q_1148 = q_1164 := Option.some.inj (eq_1148.symm.trans ((hF.r h_a (by decide) rfl _).symm.trans eq_1164))
                  subst w_1165
                  refine lv_iload hx hb dX10_pathLine_112 (lv_at hl 0 rfl) ?_
                  refine lv_iconst (v := 1) hx hb dX10_pathLine_114 (by decide) ?_
                  refine lv_iadd hx hb dX10_pathLine_115 ?_
                  refine lv_topi (fun z_1166 ez_1166 => ?_)
                  have tz_1166 : z_1166.toInt = z_1145.toInt + 1 := add_t ez_1166 (show -2147483648 ≤ z_1145.toInt + 1 by omega) (show z_1145.toInt + 1 < 2147483648 by omega)
                  refine t_iald (n := 120) (i := z_1166) rfl (by decide) hx hb hK hT hq_1148 (hT.len hq_1148 (by decide)) ⟨by omega, by omega⟩ dX10_pathLine_116 (fun z_1167 ez_1167 rz_1167 => ?_)
                  refine lv_aload_n hx hb dX10_pathLine_117 rfl (lv_at hl 5 rfl) ?_
                  refine t_geti cf_11 hx hb hts hown hK hT h_a (k := 10) rfl fl_X10_145 (fun _ h9 => h9) dX10_pathLine_118 (fun z_1168 ez_1168 rz_1168 => ?_)
                  have ez_1168 : z_1168 = G_798.1 a 10 := ez_1168
                  refine lv_icmp_eq (tgt := 151) hx hb dX10_pathLine_121 (by decide) (fun c_1169 => ?_) (fun c_1169 => ?_)
                  · skip
                    have tc_1169 : z_1167.toInt = z_1168.toInt := (fa_eq _ _).mp c_1169
                    refine lv_iconst (v := 1) hx hb dX10_pathLine_151 (by decide) ?_
                    refine lv_goto (tgt := 156) hx hb dX10_pathLine_152 (by decide) ?_
                    refine lv_istore_n (lv' := [(3, .int 1), (5, .int z_1145), (4, .int x798_4), (2, .int r_10), (1, .int z_6), (0, .ref a)]) hx hb dX10_pathLine_156 rfl hl (by decide) rfl (fun ls hl => ?_)
                    obtain ⟨z_1170, ez_1170⟩ : ∃ y : Int32, y = x798_4 + 1 := ⟨_, rfl⟩
                    have tz_1170 : z_1170.toInt = x798_4.toInt + 1 := add_t ez_1170 (show -2147483648 ≤ x798_4.toInt + 1 by omega) (show x798_4.toInt + 1 < 2147483648 by omega)
                    refine lv_iinc (v := z_1170) (lv' := [(4, .int z_1170), (3, .int 1), (5, .int z_1145), (2, .int r_10), (1, .int z_6), (0, .ref a)]) hx hb dX10_pathLine_157 hl (k := 2) rfl (by rw [ez_1170]; rfl) (by decide) rfl (fun ls hl => ?_)
                    refine lv_goto (tgt := 58) hx hb dX10_pathLine_160 (by decide) ?_
                    exact ih798 ((1 : Int32), z_1170, x798_at, G_798) _ _ _ (by show (8 - z_1170.toInt).toNat < (8 - x798_4.toInt).toNat; omega) ⟨(by show 0 ≤ z_1170.toInt; omega), (by show z_1170.toInt ≤ 8; omega), (by show 0 ≤ x798_at.toInt; omega), (by show x798_at.toInt ≤ 1600; omega), by show a0.toInt ≤ x798_at.toInt; first | omega | assumption, by show x798_at.toInt ≤ tp.toInt; first | omega | assumption, (show tp = G_798.1 a 6 from by first | exact i798_6 | omega), (show p4 = G_798.1 paa 4 from by first | exact i798_7 | omega), i798_8, hF, hT, hS, lv_sub hl [1, 0, 3, 4, 5] rfl⟩
                  · skip
                    have tc_1169 : ¬ z_1167.toInt = z_1168.toInt := fun h => c_1169 ((fa_eq _ _).mpr h)
                    refine lv_aload_n hx hb dX10_pathLine_124 rfl (lv_at hl 5 rfl) ?_
                    refine t_getr cf_11 hx hb hts hown hK hT h_a (k := 23) (P := fun q => τ q = 73) rfl (fun _ h9 => h9) fl_X10_52 (fun _ h9 => h9) dX10_pathLine_125 (fun q_1171 eq_1171 hq_1171 => ?_)
                    have w_1172 : q_1148 = q_1171 := Option.some.inj (eq_1148.symm.trans ((hF.r h_a (by decide) rfl _).symm.trans eq_1171))
                    subst w_1172
                    refine lv_iload hx hb dX10_pathLine_128 (lv_at hl 0 rfl) ?_
                    refine t_iald (n := 120) (i := z_1145) rfl (by decide) hx hb hK hT hq_1148 (hT.len hq_1148 (by decide)) ⟨by omega, by omega⟩ dX10_pathLine_130 (fun z_1173 ez_1173 rz_1173 => ?_)
                    refine lv_aload_n hx hb dX10_pathLine_131 rfl (lv_at hl 5 rfl) ?_
                    refine t_geti cf_11 hx hb hts hown hK hT h_a (k := 10) rfl fl_X10_145 (fun _ h9 => h9) dX10_pathLine_132 (fun z_1174 ez_1174 rz_1174 => ?_)
                    have w_1175 : z_1168 = z_1174 := ez_1168.trans ez_1174.symm
                    subst w_1175
                    refine lv_icmp_ne (tgt := 155) hx hb dX10_pathLine_135 (by decide) (fun c_1176 => ?_) (fun c_1176 => ?_)
                    · skip
                      have tc_1176 : ¬ z_1173.toInt = z_1168.toInt := fun h => c_1176 ((fa_eq _ _).mpr h)
                      refine lv_iconst (v := 0) hx hb dX10_pathLine_155 (by decide) ?_
                      refine lv_istore_n (lv' := [(3, .int 0), (5, .int z_1145), (4, .int x798_4), (2, .int r_10), (1, .int z_6), (0, .ref a)]) hx hb dX10_pathLine_156 rfl hl (by decide) rfl (fun ls hl => ?_)
                      obtain ⟨z_1177, ez_1177⟩ : ∃ y : Int32, y = x798_4 + 1 := ⟨_, rfl⟩
                      have tz_1177 : z_1177.toInt = x798_4.toInt + 1 := add_t ez_1177 (show -2147483648 ≤ x798_4.toInt + 1 by omega) (show x798_4.toInt + 1 < 2147483648 by omega)
                      refine lv_iinc (v := z_1177) (lv' := [(4, .int z_1177), (3, .int 0), (5, .int z_1145), (2, .int r_10), (1, .int z_6), (0, .ref a)]) hx hb dX10_pathLine_157 hl (k := 2) rfl (by rw [ez_1177]; rfl) (by decide) rfl (fun ls hl => ?_)
                      refine lv_goto (tgt := 58) hx hb dX10_pathLine_160 (by decide) ?_
                      exact ih798 ((0 : Int32), z_1177, x798_at, G_798) _ _ _ (by show (8 - z_1177.toInt).toNat < (8 - x798_4.toInt).toNat; omega) ⟨(by show 0 ≤ z_1177.toInt; omega), (by show z_1177.toInt ≤ 8; omega), (by show 0 ≤ x798_at.toInt; omega), (by show x798_at.toInt ≤ 1600; omega), by show a0.toInt ≤ x798_at.toInt; first | omega | assumption, by show x798_at.toInt ≤ tp.toInt; first | omega | assumption, (show tp = G_798.1 a 6 from by first | exact i798_6 | omega), (show p4 = G_798.1 paa 4 from by first | exact i798_7 | omega), i798_8, hF, hT, hS, lv_sub hl [1, 0, 3, 4, 5] rfl⟩
                    · skip
                      have tc_1176 : z_1173.toInt = z_1168.toInt := (fa_eq _ _).mp c_1176
                      refine lv_aload_n hx hb dX10_pathLine_138 rfl (lv_at hl 5 rfl) ?_
                      refine t_getr cf_11 hx hb hts hown hK hT h_a (k := 23) (P := fun q => τ q = 73) rfl (fun _ h9 => h9) fl_X10_52 (fun _ h9 => h9) dX10_pathLine_139 (fun q_1178 eq_1178 hq_1178 => ?_)
                      have w_1179 : q_1148 = q_1178 := Option.some.inj (eq_1148.symm.trans ((hF.r h_a (by decide) rfl _).symm.trans eq_1178))
                      subst w_1179
                      refine lv_iload hx hb dX10_pathLine_142 (lv_at hl 0 rfl) ?_
                      refine lv_iconst (v := 1) hx hb dX10_pathLine_144 (by decide) ?_
                      refine lv_iadd hx hb dX10_pathLine_145 ?_
                      refine lv_topi (fun z_1180 ez_1180 => ?_)
                      have w_1181 : z_1166 = z_1180 := ez_1166.trans ez_1180.symm
                      subst w_1181
                      refine t_iald (n := 120) (i := z_1166) rfl (by decide) hx hb hK hT hq_1148 (hT.len hq_1148 (by decide)) ⟨by omega, by omega⟩ dX10_pathLine_146 (fun z_1182 ez_1182 rz_1182 => ?_)
                      refine lv_iload_n hx hb dX10_pathLine_147 rfl (lv_at hl 3 rfl) ?_
                      refine lv_icmp_ne (tgt := 155) hx hb dX10_pathLine_148 (by decide) (fun c_1183 => ?_) (fun c_1183 => ?_)
                      · skip
                        have tc_1183 : ¬ z_1182.toInt = r_10.toInt := fun h => c_1183 ((fa_eq _ _).mpr h)
                        refine lv_iconst (v := 0) hx hb dX10_pathLine_155 (by decide) ?_
                        refine lv_istore_n (lv' := [(3, .int 0), (5, .int z_1145), (4, .int x798_4), (2, .int r_10), (1, .int z_6), (0, .ref a)]) hx hb dX10_pathLine_156 rfl hl (by decide) rfl (fun ls hl => ?_)
                        obtain ⟨z_1184, ez_1184⟩ : ∃ y : Int32, y = x798_4 + 1 := ⟨_, rfl⟩
                        have tz_1184 : z_1184.toInt = x798_4.toInt + 1 := add_t ez_1184 (show -2147483648 ≤ x798_4.toInt + 1 by omega) (show x798_4.toInt + 1 < 2147483648 by omega)
                        refine lv_iinc (v := z_1184) (lv' := [(4, .int z_1184), (3, .int 0), (5, .int z_1145), (2, .int r_10), (1, .int z_6), (0, .ref a)]) hx hb dX10_pathLine_157 hl (k := 2) rfl (by rw [ez_1184]; rfl) (by decide) rfl (fun ls hl => ?_)
                        refine lv_goto (tgt := 58) hx hb dX10_pathLine_160 (by decide) ?_
                        exact ih798 ((0 : Int32), z_1184, x798_at, G_798) _ _ _ (by show (8 - z_1184.toInt).toNat < (8 - x798_4.toInt).toNat; omega) ⟨(by show 0 ≤ z_1184.toInt; omega), (by show z_1184.toInt ≤ 8; omega), (by show 0 ≤ x798_at.toInt; omega), (by show x798_at.toInt ≤ 1600; omega), by show a0.toInt ≤ x798_at.toInt; first | omega | assumption, by show x798_at.toInt ≤ tp.toInt; first | omega | assumption, (show tp = G_798.1 a 6 from by first | exact i798_6 | omega), (show p4 = G_798.1 paa 4 from by first | exact i798_7 | omega), i798_8, hF, hT, hS, lv_sub hl [1, 0, 3, 4, 5] rfl⟩
                      · skip
                        have tc_1183 : z_1182.toInt = r_10.toInt := (fa_eq _ _).mp c_1183
                        refine lv_iconst (v := 1) hx hb dX10_pathLine_151 (by decide) ?_
                        refine lv_goto (tgt := 156) hx hb dX10_pathLine_152 (by decide) ?_
                        refine lv_istore_n (lv' := [(3, .int 1), (5, .int z_1145), (4, .int x798_4), (2, .int r_10), (1, .int z_6), (0, .ref a)]) hx hb dX10_pathLine_156 rfl hl (by decide) rfl (fun ls hl => ?_)
                        obtain ⟨z_1185, ez_1185⟩ : ∃ y : Int32, y = x798_4 + 1 := ⟨_, rfl⟩
                        have tz_1185 : z_1185.toInt = x798_4.toInt + 1 := add_t ez_1185 (show -2147483648 ≤ x798_4.toInt + 1 by omega) (show x798_4.toInt + 1 < 2147483648 by omega)
                        refine lv_iinc (v := z_1185) (lv' := [(4, .int z_1185), (3, .int 1), (5, .int z_1145), (2, .int r_10), (1, .int z_6), (0, .ref a)]) hx hb dX10_pathLine_157 hl (k := 2) rfl (by rw [ez_1185]; rfl) (by decide) rfl (fun ls hl => ?_)
                        refine lv_goto (tgt := 58) hx hb dX10_pathLine_160 (by decide) ?_
                        exact ih798 ((1 : Int32), z_1185, x798_at, G_798) _ _ _ (by show (8 - z_1185.toInt).toNat < (8 - x798_4.toInt).toNat; omega) ⟨(by show 0 ≤ z_1185.toInt; omega), (by show z_1185.toInt ≤ 8; omega), (by show 0 ≤ x798_at.toInt; omega), (by show x798_at.toInt ≤ 1600; omega), by show a0.toInt ≤ x798_at.toInt; first | omega | assumption, by show x798_at.toInt ≤ tp.toInt; first | omega | assumption, (show tp = G_798.1 a 6 from by first | exact i798_6 | omega), (show p4 = G_798.1 paa 4 from by first | exact i798_7 | omega), i798_8, hF, hT, hS, lv_sub hl [1, 0, 3, 4, 5] rfl⟩
      · skip
        have tc_797 : z_796.toInt = r_10.toInt := (fa_eq _ _).mp c_797
        refine lv_iconst (v := 1) hx hb dX10_pathLine_49 (by decide) ?_
        refine lv_goto (tgt := 54) hx hb dX10_pathLine_50 (by decide) ?_
        refine lv_istore_n (lv' := [(3, .int 1), (2, .int r_10), (1, .int z_6), (0, .ref a)]) hx hb dX10_pathLine_54 rfl hl (by decide) rfl (fun ls hl => ?_)
        refine lv_iconst (v := 0) hx hb dX10_pathLine_55 (by decide) ?_
        refine lv_istore (lv' := [(4, .int 0), (3, .int 1), (2, .int r_10), (1, .int z_6), (0, .ref a)]) hx hb dX10_pathLine_56 hl (by decide) rfl (fun ls hl => ?_)
        refine W.loop (σ := Int32 × Int32 × Int32 × Gh) (fun w1186 H locs ls => 0 ≤ w1186.2.1.toInt ∧ w1186.2.1.toInt ≤ 8 ∧ 0 ≤ w1186.2.2.1.toInt ∧ w1186.2.2.1.toInt ≤ 1600 ∧ (a0.toInt ≤ w1186.2.2.1.toInt) ∧ (w1186.2.2.1.toInt ≤ tp.toInt) ∧ tp = w1186.2.2.2.1 a 6 ∧ p4 = w1186.2.2.2.1 paa 4 ∧ w1186.2.2.1 = w1186.2.2.2.1 a 7 ∧ Fr τ [11, 72, 73] G w1186.2.2.2 ∧ TY D cy base τ w1186.2.2.2 H ∧ va_S (RA base) s.heap H locs ∧ lv_has ls 6 [(3, .int w1186.1), (4, .int w1186.2.1), (2, .int r_10), (1, .int z_6), (0, .ref a)]) (fun w1186 => (8 - w1186.2.1.toInt).toNat) ?_ ((1 : Int32), (0 : Int32), z_15, G_10) _ _ _ ⟨(by show 0 ≤ (0 : Int32).toInt; decide), (by show (0 : Int32).toInt ≤ 8; decide), (by show 0 ≤ z_15.toInt; omega), (by show z_15.toInt ≤ 1600; omega), (by show a0.toInt ≤ z_15.toInt; first | omega | assumption | exact rfl), (by show z_15.toInt ≤ tp.toInt; first | omega | assumption | exact rfl), (by show tp = G_10.1 a 6; exact k_14), (by show p4 = G_10.1 paa 4; exact k_13), ez_15, hF, hT, hS, lv_sub hl [1, 0, 2, 3, 4] rfl⟩
        intro w1186 H locs ls hI ih1186
        obtain ⟨x1186_3, x1186_4, x1186_at, G_1186⟩ := w1186
        obtain ⟨i1186_0, i1186_1, i1186_2, i1186_3, i1186_4, i1186_5, i1186_6, i1186_7, i1186_8, hF, hT, hS, hl⟩ := hI
        have i1186_0 : 0 ≤ x1186_4.toInt := i1186_0
        have i1186_1 : x1186_4.toInt ≤ 8 := i1186_1
        have i1186_2 : 0 ≤ x1186_at.toInt := i1186_2
        have i1186_3 : x1186_at.toInt ≤ 1600 := i1186_3
        have i1186_4 : (a0.toInt ≤ x1186_at.toInt) := i1186_4
        have i1186_5 : (x1186_at.toInt ≤ tp.toInt) := i1186_5
        have i1186_6 : tp = G_1186.1 a 6 := i1186_6
        have i1186_7 : p4 = G_1186.1 paa 4 := i1186_7
        have i1186_8 : x1186_at = G_1186.1 a 7 := i1186_8
        have hF : Fr τ [11, 72, 73] G G_1186 := hF
        have hT : TY D cy base τ G_1186 H := hT
        have hS : va_S (RA base) s.heap H locs := hS
        have hl : lv_has ls 6 [(3, .int x1186_3), (4, .int x1186_4), (2, .int r_10), (1, .int z_6), (0, .ref a)] := hl
        refine lv_iload hx hb dX10_pathLine_58 (lv_at hl 1 rfl) ?_
        refine lv_aload_n hx hb dX10_pathLine_60 rfl (lv_at hl 4 rfl) ?_
        refine t_getr cf_11 hx hb hts hown hK hT h_a (k := 22) (P := fun q => τ q = 72) rfl (fun _ h9 => h9) fl_X10_49 (fun _ h9 => h9) dX10_pathLine_61 (fun q_1187 eq_1187 hq_1187 => ?_)
        have w_1188 : paa = q_1187 := Option.some.inj (e_paa.symm.trans ((hF.r h_a (by decide) rfl _).symm.trans eq_1187))
        subst w_1188
        refine lv_iconst (v := 4) hx hb dX10_pathLine_64 (by decide) ?_
        refine t_iald (n := 5) (i := 4) rfl (by decide) hx hb hK hT h_paa (hT.len h_paa (by decide)) ⟨by decide, by decide⟩ dX10_pathLine_65 (fun z_1189 ez_1189 rz_1189 => ?_)
        have w_1190 : p4 = z_1189 := i1186_7.trans ez_1189.symm
        subst w_1190
        refine lv_icmp_ge (tgt := 163) hx hb dX10_pathLine_66 (by decide) (fun c_1191 => ?_) (fun c_1191 => ?_)
        · skip
          have tc_1191 : p4.toInt ≤ x1186_4.toInt := (fa_le _ _).mp c_1191
          refine lv_iload_n hx hb dX10_pathLine_163 rfl (lv_at hl 0 rfl) ?_
          refine lv_if_eq (tgt := 172) hx hb dX10_pathLine_164 (by decide) (fun c_1192 => ?_) (fun c_1192 => ?_)
          · skip
            have tc_1192 : x1186_3.toInt = 0 := (fa_eq _ _).mp c_1192
            refine lv_aload_n hx hb dX10_pathLine_172 rfl (lv_at hl 4 rfl) ?_
            refine t_getr cf_11 hx hb hts hown hK hT h_a (k := 23) (P := fun q => τ q = 73) rfl (fun _ h9 => h9) fl_X10_52 (fun _ h9 => h9) dX10_pathLine_173 (fun q_1193 eq_1193 hq_1193 => ?_)
            have eq_1193 := (hF.r h_a (by decide) rfl _).symm.trans eq_1193
            refine lv_iload_n hx hb dX10_pathLine_176 rfl (lv_at hl 3 rfl) ?_
            refine lv_iload_n hx hb dX10_pathLine_177 rfl (lv_at hl 2 rfl) ?_
            refine t_iast (n := 120) (i := z_6) (x := r_10) rfl (by decide) hx hb hK hT hS hq_1193 (hT.len hq_1193 (by decide)) ⟨by omega, by omega⟩ trivial dX10_pathLine_178 (fun H locs G_1194 eG_1194 hT hS => ?_)
            have hF := hF.wI eG_1194 hq_1193 rfl
            have k_1195 : tp = G_1194.1 a 6 := by rw [eG_1194, wI_ne (Or.inl (tag_ne hq_1193 h_a (by decide)))]; exact i1186_6
            have k_1196 : p4 = G_1194.1 paa 4 := by rw [eG_1194, wI_ne (Or.inl (tag_ne hq_1193 h_paa (by decide)))]; exact i1186_7
            have k_1197 : x1186_at = G_1194.1 a 7 := by rw [eG_1194, wI_ne (Or.inl (tag_ne hq_1193 h_a (by decide)))]; exact i1186_8
            refine lv_aload_n hx hb dX10_pathLine_179 rfl (lv_at hl 4 rfl) ?_
            refine t_getr cf_11 hx hb hts hown hK hT h_a (k := 23) (P := fun q => τ q = 73) rfl (fun _ h9 => h9) fl_X10_52 (fun _ h9 => h9) dX10_pathLine_180 (fun q_1198 eq_1198 hq_1198 => ?_)
            have w_1199 : q_1193 = q_1198 := Option.some.inj (eq_1193.symm.trans ((hF.r h_a (by decide) rfl _).symm.trans eq_1198))
            subst w_1199
            refine lv_iload_n hx hb dX10_pathLine_183 rfl (lv_at hl 3 rfl) ?_
            refine lv_iconst (v := 1) hx hb dX10_pathLine_184 (by decide) ?_
            refine lv_iadd hx hb dX10_pathLine_185 ?_
            refine lv_topi (fun z_1200 ez_1200 => ?_)
            have tz_1200 : z_1200.toInt = z_6.toInt + 1 := add_t ez_1200 (show -2147483648 ≤ z_6.toInt + 1 by omega) (show z_6.toInt + 1 < 2147483648 by omega)
            refine lv_aload_n hx hb dX10_pathLine_186 rfl (lv_at hl 4 rfl) ?_
            refine lv_iconst (v := 0) hx hb dX10_pathLine_187 (by decide) ?_
            refine lv_aload_n hx hb dX10_pathLine_188 rfl (lv_at hl 4 rfl) ?_
            refine t_getr cf_11 hx hb hts hown hK hT h_a (k := 20) (P := fun q => τ q = 70) rfl (fun _ h9 => h9) fl_X10_43 (fun _ h9 => h9) dX10_pathLine_189 (fun q_1201 eq_1201 hq_1201 => ?_)
            have w_1202 : q_7 = q_1201 := Option.some.inj (eq_7.symm.trans ((hF.r h_a (by decide) rfl _).symm.trans eq_1201))
            subst w_1202
            refine lv_iconst (v := 4) hx hb dX10_pathLine_192 (by decide) ?_
            refine t_iald (n := 5) (i := 4) rfl (by decide) hx hb hK hT hq_7 (hT.len hq_7 (by decide)) ⟨by decide, by decide⟩ dX10_pathLine_193 (fun z_1203 ez_1203 rz_1203 => ?_)
            have w_1204 : z_8 = z_1203 := ez_8.trans (ez_1203.trans (hF.i hq_7 (by decide) rfl _)).symm
            subst w_1204
            refine lv_iconst (v := 1) hx hb dX10_pathLine_194 (by decide) ?_
            refine lv_isub hx hb dX10_pathLine_195 ?_
            refine lv_topi (fun z_1205 ez_1205 => ?_)
            have w_1206 : z_9 = z_1205 := ez_9.trans ez_1205.symm
            subst w_1206
            refine t_calli (runV (As := [.int 0, .int z_9]) (rest := [.int z_1200, .ref q_1193]) ⟨hx, hb, hml, hown, hts⟩ (t_X10_number l D cy base τ G_1194 a h_a 0 z_9 tp k_1195 ⟨by omega, by omega⟩ x1186_at k_1197 ⟨by omega, by omega⟩ (by show x1186_at.toInt ≤ tp.toInt; first | assumption | omega | decide)) sV_X10_186 hK (t_recv cf_11 hK hT h_a) ⟨Nat.le_trans hZ hS.1, hT⟩ ⟨Nat.le_of_ble_eq_true rfl, Nat.le_of_ble_eq_true rfl⟩ rfl hl.1 rfl (Nat.le_of_ble_eq_true rfl) dX10_pathLine_196 ⟨Nat.le_of_ble_eq_true rfl, Nat.le_of_ble_eq_true rfl⟩) hS (fun r_1207 G_1207 H locs hF_1207 hr_1207 hT hS => ?_)
            have hF := hF.tr hF_1207 rfl
            have k_1209 : p4 = G_1207.1 paa 4 := k_1196.trans (hF_1207.i h_paa (by decide) rfl _).symm
            obtain ⟨hr_1207_p0, hr_1207_p1, hr_1207_p2, hr_1207_s0⟩ := hr_1207
            have k_1211 : tp = G_1207.1 a 6 := k_1195.trans hr_1207_s0.symm
            obtain ⟨z_1212, ez_1212, hr_1207_p0, hr_1207_p1, hr_1207_p2⟩ : ∃ z_1212 : Int32, z_1212 = G_1207.1 a 7 ∧ (x1186_at.toInt ≤ z_1212.toInt) ∧ (z_1212.toInt ≤ tp.toInt) ∧ (r_1207.toInt = (0 : Int) ∨ ((0 : Int) ≤ r_1207.toInt ∧ r_1207.toInt ≤ z_9.toInt)) := ⟨_, rfl, hr_1207_p0, hr_1207_p1, hr_1207_p2⟩
            have rz_1212 : 0 ≤ z_1212.toInt ∧ z_1212.toInt ≤ 1600 := by rw [ez_1212]; exact hT.rgi h_a (by decide) 7
            refine t_iast (n := 120) (i := z_1200) (x := r_1207) rfl (by decide) hx hb hK hT hS hq_1193 (hT.len hq_1193 (by decide)) ⟨by omega, by omega⟩ trivial dX10_pathLine_199 (fun H locs G_1213 eG_1213 hT hS => ?_)
            have hF := hF.wI eG_1213 hq_1193 rfl
            have k_1214 : p4 = G_1213.1 paa 4 := by rw [eG_1213, wI_ne (Or.inl (tag_ne hq_1193 h_paa (by decide)))]; exact k_1209
            have k_1215 : tp = G_1213.1 a 6 := by rw [eG_1213, wI_ne (Or.inl (tag_ne hq_1193 h_a (by decide)))]; exact k_1211
            have k_1216 : z_1212 = G_1213.1 a 7 := by rw [eG_1213, wI_ne (Or.inl (tag_ne hq_1193 h_a (by decide)))]; exact ez_1212
            refine lv_aload_n hx hb dX10_pathLine_200 rfl (lv_at hl 4 rfl) ?_
            refine t_getr cf_11 hx hb hts hown hK hT h_a (k := 23) (P := fun q => τ q = 73) rfl (fun _ h9 => h9) fl_X10_52 (fun _ h9 => h9) dX10_pathLine_201 (fun q_1217 eq_1217 hq_1217 => ?_)
            have w_1218 : q_1193 = q_1217 := Option.some.inj (eq_1193.symm.trans ((hF.r h_a (by decide) rfl _).symm.trans eq_1217))
            subst w_1218
            refine lv_iload_n hx hb dX10_pathLine_204 rfl (lv_at hl 3 rfl) ?_
            refine lv_iconst (v := 2) hx hb dX10_pathLine_205 (by decide) ?_
            refine lv_iadd hx hb dX10_pathLine_206 ?_
            refine lv_topi (fun z_1219 ez_1219 => ?_)
            have tz_1219 : z_1219.toInt = z_6.toInt + 2 := add_t ez_1219 (show -2147483648 ≤ z_6.toInt + 2 by omega) (show z_6.toInt + 2 < 2147483648 by omega)
            refine lv_aload_n hx hb dX10_pathLine_207 rfl (lv_at hl 4 rfl) ?_
            refine lv_ldc2 (v := 80155) hx hb hown (hts _ kl_X10_195) dX10_pathLine_208 ?_
            refine lv_iconst (v := 1) hx hb dX10_pathLine_211 (by decide) ?_
            refine lv_bipush (v := 30) hx hb dX10_pathLine_212 (by decide) ?_
            refine t_calli (runV (As := [.long 80155, .int 1, .int 30]) (rest := [.int z_1219, .ref q_1193]) ⟨hx, hb, hml, hown, hts⟩ (t_X10_number_ l D cy base τ G_1213 a h_a 80155 1 30 tp k_1215 ⟨by omega, by omega⟩ z_1212 k_1216 ⟨by omega, by omega⟩ (by show z_1212.toInt ≤ tp.toInt; first | assumption | omega | decide)) sV_X10_197 hK (t_recv cf_11 hK hT h_a) ⟨Nat.le_trans hZ hS.1, hT⟩ ⟨Nat.le_of_ble_eq_true rfl, Nat.le_of_ble_eq_true rfl⟩ rfl hl.1 rfl (Nat.le_of_ble_eq_true rfl) dX10_pathLine_214 ⟨Nat.le_of_ble_eq_true rfl, Nat.le_of_ble_eq_true rfl⟩) hS (fun r_1220 G_1220 H locs hF_1220 hr_1220 hT hS => ?_)
            have hF := hF.tr hF_1220 rfl
            have k_1221 : p4 = G_1220.1 paa 4 := k_1214.trans (hF_1220.i h_paa (by decide) rfl _).symm
            obtain ⟨hr_1220_p0, hr_1220_p1, hr_1220_p2, hr_1220_s0⟩ := hr_1220
            have k_1224 : tp = G_1220.1 a 6 := k_1215.trans hr_1220_s0.symm
            obtain ⟨z_1225, ez_1225, hr_1220_p0, hr_1220_p1, hr_1220_p2⟩ : ∃ z_1225 : Int32, z_1225 = G_1220.1 a 7 ∧ (z_1212.toInt ≤ z_1225.toInt) ∧ (z_1225.toInt ≤ tp.toInt) ∧ (r_1220.toInt = (1 : Int) ∨ ((1 : Int) ≤ r_1220.toInt ∧ r_1220.toInt ≤ (30 : Int))) := ⟨_, rfl, hr_1220_p0, hr_1220_p1, hr_1220_p2⟩
            have rz_1225 : 0 ≤ z_1225.toInt ∧ z_1225.toInt ≤ 1600 := by rw [ez_1225]; exact hT.rgi h_a (by decide) 7
            refine t_iast (n := 120) (i := z_1219) (x := r_1220) rfl (by decide) hx hb hK hT hS hq_1193 (hT.len hq_1193 (by decide)) ⟨by omega, by omega⟩ trivial dX10_pathLine_217 (fun H locs G_1226 eG_1226 hT hS => ?_)
            have hF := hF.wI eG_1226 hq_1193 rfl
            have k_1227 : p4 = G_1226.1 paa 4 := by rw [eG_1226, wI_ne (Or.inl (tag_ne hq_1193 h_paa (by decide)))]; exact k_1221
            have k_1228 : tp = G_1226.1 a 6 := by rw [eG_1226, wI_ne (Or.inl (tag_ne hq_1193 h_a (by decide)))]; exact k_1224
            have k_1229 : z_1225 = G_1226.1 a 7 := by rw [eG_1226, wI_ne (Or.inl (tag_ne hq_1193 h_a (by decide)))]; exact ez_1225
            refine lv_aload_n hx hb dX10_pathLine_218 rfl (lv_at hl 4 rfl) ?_
            refine t_getr cf_11 hx hb hts hown hK hT h_a (k := 22) (P := fun q => τ q = 72) rfl (fun _ h9 => h9) fl_X10_49 (fun _ h9 => h9) dX10_pathLine_219 (fun q_1230 eq_1230 hq_1230 => ?_)
            have w_1231 : paa = q_1230 := Option.some.inj (e_paa.symm.trans ((hF.r h_a (by decide) rfl _).symm.trans eq_1230))
            subst w_1231
            refine lv_iconst (v := 4) hx hb dX10_pathLine_222 (by decide) ?_
            refine lv_dup2_11 hx hb dX10_pathLine_223 rfl rfl ?_
            refine t_iald (n := 5) (i := 4) rfl (by decide) hx hb hK hT h_paa (hT.len h_paa (by decide)) ⟨by decide, by decide⟩ dX10_pathLine_224 (fun z_1232 ez_1232 rz_1232 => ?_)
            have w_1233 : p4 = z_1232 := k_1227.trans ez_1232.symm
            subst w_1233
            refine lv_iconst (v := 1) hx hb dX10_pathLine_225 (by decide) ?_
            refine lv_iadd hx hb dX10_pathLine_226 ?_
            refine lv_topi (fun z_1234 ez_1234 => ?_)
            have tz_1234 : z_1234.toInt = p4.toInt + 1 := add_t ez_1234 (show -2147483648 ≤ p4.toInt + 1 by omega) (show p4.toInt + 1 < 2147483648 by omega)
            refine t_iast (n := 5) (i := 4) (x := z_1234) rfl (by decide) hx hb hK hT hS h_paa (hT.len h_paa (by decide)) ⟨by decide, by decide⟩ (show 0 ≤ z_1234.toInt ∧ z_1234.toInt ≤ 8 from ⟨by omega, by omega⟩) dX10_pathLine_227 (fun H locs G_1235 eG_1235 hT hS => ?_)
            have hF := hF.wI eG_1235 h_paa rfl
            have eG_1235 : G_1235 = wI G_1226 paa 4 z_1234 := eG_1235
            have k_1237 : tp = G_1235.1 a 6 := by rw [eG_1235, wI_ne (Or.inl (tag_ne h_paa h_a (by decide)))]; exact k_1228
            have k_1238 : z_1225 = G_1235.1 a 7 := by rw [eG_1235, wI_ne (Or.inl (tag_ne h_paa h_a (by decide)))]; exact k_1229
            have k_1239 : z_1234 = G_1235.1 paa 4 := by rw [eG_1235, wI_at]
            exact ret_v hx hb hr hlocks ⟨⟨hS.1, hS.2.1⟩, G_1235, hF, ⟨rfl, ⟨(by first | (show a0.toInt ≤ (G_1235.1 a 7).toInt; rw [← k_1238]; done) | (show a0.toInt ≤ (G_1235.1 a 7).toInt; rw [← k_1238]; show a0.toInt ≤ z_1225.toInt; first | omega | assumption)), (by first | (show (G_1235.1 a 7).toInt ≤ tp.toInt; rw [← k_1238]; done) | (show (G_1235.1 a 7).toInt ≤ tp.toInt; rw [← k_1238]; show z_1225.toInt ≤ tp.toInt; first | omega | assumption)), (k_1237.symm.trans e_tp)⟩⟩, hT⟩ hS.2.2 (Nat.le_of_ble_eq_true rfl) (Nat.le_of_ble_eq_true rfl) dX10_pathLine_228
          · skip
            have tc_1192 : ¬ x1186_3.toInt = 0 := fun h => c_1192 ((fa_eq _ _).mpr h)
            refine lv_aload_n hx hb dX10_pathLine_167 rfl (lv_at hl 4 rfl) ?_
            refine lv_iconst (v := 2) hx hb dX10_pathLine_168 (by decide) ?_
            obtain ⟨z_1240, ez_1240⟩ : ∃ y : Int32, y = G_1186.1 a 8 := ⟨_, rfl⟩
            obtain ⟨z_1241, ez_1241⟩ : ∃ y : Int32, y = G_1186.1 a 12 := ⟨_, rfl⟩
            refine t_callv (runV (As := [.int 2]) (rest := []) ⟨hx, hb, hml, hown, hts⟩ (t_X10_fails l D cy base τ G_1186 a h_a 2 (by decide) tp i1186_6 ⟨by omega, by omega⟩ x1186_at i1186_8 ⟨by omega, by omega⟩ z_1240 ez_1240 z_1241 ez_1241) sV_X10_179 hK (t_recv cf_11 hK hT h_a) ⟨Nat.le_trans hZ hS.1, hT⟩ ⟨Nat.le_of_ble_eq_true rfl, Nat.le_of_ble_eq_true rfl⟩ rfl hl.1 rfl (Nat.le_of_ble_eq_true rfl) dX10_pathLine_169 ⟨Nat.le_of_ble_eq_true rfl, Nat.le_of_ble_eq_true rfl⟩) hS (fun G_1242 H locs hF_1242 hr_1242 hT hS => ?_)
            have hF := hF.tr hF_1242 rfl
            have k_1244 : p4 = G_1242.1 paa 4 := i1186_7.trans (hF_1242.i h_paa (by decide) rfl _).symm
            obtain ⟨hr_1242_p0, hr_1242_s0, hr_1242_s1, hr_1242_s2⟩ := hr_1242
            have k_1248 : tp = G_1242.1 a 6 := i1186_6.trans hr_1242_s0.symm
            have k_1249 : x1186_at = G_1242.1 a 7 := i1186_8.trans hr_1242_s1.symm
            have k_1250 : z_1240 = G_1242.1 a 8 := ez_1240.trans hr_1242_s2.symm
            obtain ⟨z_1251, ez_1251, hr_1242_p0⟩ : ∃ z_1251 : Int32, z_1251 = G_1242.1 a 12 ∧ (z_1251.toInt ≠ 0) := ⟨_, rfl, hr_1242_p0⟩
            refine lv_aload_n hx hb dX10_pathLine_172 rfl (lv_at hl 4 rfl) ?_
            refine t_getr cf_11 hx hb hts hown hK hT h_a (k := 23) (P := fun q => τ q = 73) rfl (fun _ h9 => h9) fl_X10_52 (fun _ h9 => h9) dX10_pathLine_173 (fun q_1252 eq_1252 hq_1252 => ?_)
            have eq_1252 := (hF.r h_a (by decide) rfl _).symm.trans eq_1252
            refine lv_iload_n hx hb dX10_pathLine_176 rfl (lv_at hl 3 rfl) ?_
            refine lv_iload_n hx hb dX10_pathLine_177 rfl (lv_at hl 2 rfl) ?_
            refine t_iast (n := 120) (i := z_6) (x := r_10) rfl (by decide) hx hb hK hT hS hq_1252 (hT.len hq_1252 (by decide)) ⟨by omega, by omega⟩ trivial dX10_pathLine_178 (fun H locs G_1253 eG_1253 hT hS => ?_)
            have hF := hF.wI eG_1253 hq_1252 rfl
            have k_1254 : p4 = G_1253.1 paa 4 := by rw [eG_1253, wI_ne (Or.inl (tag_ne hq_1252 h_paa (by decide)))]; exact k_1244
            have k_1255 : tp = G_1253.1 a 6 := by rw [eG_1253, wI_ne (Or.inl (tag_ne hq_1252 h_a (by decide)))]; exact k_1248
            have k_1256 : x1186_at = G_1253.1 a 7 := by rw [eG_1253, wI_ne (Or.inl (tag_ne hq_1252 h_a (by decide)))]; exact k_1249
            have k_1257 : z_1240 = G_1253.1 a 8 := by rw [eG_1253, wI_ne (Or.inl (tag_ne hq_1252 h_a (by decide)))]; exact k_1250
            have k_1258 : z_1251 = G_1253.1 a 12 := by rw [eG_1253, wI_ne (Or.inl (tag_ne hq_1252 h_a (by decide)))]; exact ez_1251
            refine lv_aload_n hx hb dX10_pathLine_179 rfl (lv_at hl 4 rfl) ?_
            refine t_getr cf_11 hx hb hts hown hK hT h_a (k := 23) (P := fun q => τ q = 73) rfl (fun _ h9 => h9) fl_X10_52 (fun _ h9 => h9) dX10_pathLine_180 (fun q_1259 eq_1259 hq_1259 => ?_)
            have w_1260 : q_1252 = q_1259 := Option.some.inj (eq_1252.symm.trans ((hF.r h_a (by decide) rfl _).symm.trans eq_1259))
            subst w_1260
            refine lv_iload_n hx hb dX10_pathLine_183 rfl (lv_at hl 3 rfl) ?_
            refine lv_iconst (v := 1) hx hb dX10_pathLine_184 (by decide) ?_
            refine lv_iadd hx hb dX10_pathLine_185 ?_
            refine lv_topi (fun z_1261 ez_1261 => ?_)
            have tz_1261 : z_1261.toInt = z_6.toInt + 1 := add_t ez_1261 (show -2147483648 ≤ z_6.toInt + 1 by omega) (show z_6.toInt + 1 < 2147483648 by omega)
            refine lv_aload_n hx hb dX10_pathLine_186 rfl (lv_at hl 4 rfl) ?_
            refine lv_iconst (v := 0) hx hb dX10_pathLine_187 (by decide) ?_
            refine lv_aload_n hx hb dX10_pathLine_188 rfl (lv_at hl 4 rfl) ?_
            refine t_getr cf_11 hx hb hts hown hK hT h_a (k := 20) (P := fun q => τ q = 70) rfl (fun _ h9 => h9) fl_X10_43 (fun _ h9 => h9) dX10_pathLine_189 (fun q_1262 eq_1262 hq_1262 => ?_)
            have w_1263 : q_7 = q_1262 := Option.some.inj (eq_7.symm.trans ((hF.r h_a (by decide) rfl _).symm.trans eq_1262))
            subst w_1263
            refine lv_iconst (v := 4) hx hb dX10_pathLine_192 (by decide) ?_
            refine t_iald (n := 5) (i := 4) rfl (by decide) hx hb hK hT hq_7 (hT.len hq_7 (by decide)) ⟨by decide, by decide⟩ dX10_pathLine_193 (fun z_1264 ez_1264 rz_1264 => ?_)
            have w_1265 : z_8 = z_1264 := ez_8.trans (ez_1264.trans (hF.i hq_7 (by decide) rfl _)).symm
            subst w_1265
            refine lv_iconst (v := 1) hx hb dX10_pathLine_194 (by decide) ?_
            refine lv_isub hx hb dX10_pathLine_195 ?_
            refine lv_topi (fun z_1266 ez_1266 => ?_)
            have w_1267 : z_9 = z_1266 := ez_9.trans ez_1266.symm
            subst w_1267
            refine t_calli (runV (As := [.int 0, .int z_9]) (rest := [.int z_1261, .ref q_1252]) ⟨hx, hb, hml, hown, hts⟩ (t_X10_number l D cy base τ G_1253 a h_a 0 z_9 tp k_1255 ⟨by omega, by omega⟩ x1186_at k_1256 ⟨by omega, by omega⟩ (by show x1186_at.toInt ≤ tp.toInt; first | assumption | omega | decide)) sV_X10_186 hK (t_recv cf_11 hK hT h_a) ⟨Nat.le_trans hZ hS.1, hT⟩ ⟨Nat.le_of_ble_eq_true rfl, Nat.le_of_ble_eq_true rfl⟩ rfl hl.1 rfl (Nat.le_of_ble_eq_true rfl) dX10_pathLine_196 ⟨Nat.le_of_ble_eq_true rfl, Nat.le_of_ble_eq_true rfl⟩) hS (fun r_1268 G_1268 H locs hF_1268 hr_1268 hT hS => ?_)
            have hF := hF.tr hF_1268 rfl
            have k_1269 : p4 = G_1268.1 paa 4 := k_1254.trans (hF_1268.i h_paa (by decide) rfl _).symm
            obtain ⟨hr_1268_p0, hr_1268_p1, hr_1268_p2, hr_1268_s0⟩ := hr_1268
            have k_1274 : tp = G_1268.1 a 6 := k_1255.trans hr_1268_s0.symm
            obtain ⟨z_1275, ez_1275, hr_1268_p0, hr_1268_p1, hr_1268_p2⟩ : ∃ z_1275 : Int32, z_1275 = G_1268.1 a 7 ∧ (x1186_at.toInt ≤ z_1275.toInt) ∧ (z_1275.toInt ≤ tp.toInt) ∧ (r_1268.toInt = (0 : Int) ∨ ((0 : Int) ≤ r_1268.toInt ∧ r_1268.toInt ≤ z_9.toInt)) := ⟨_, rfl, hr_1268_p0, hr_1268_p1, hr_1268_p2⟩
            have rz_1275 : 0 ≤ z_1275.toInt ∧ z_1275.toInt ≤ 1600 := by rw [ez_1275]; exact hT.rgi h_a (by decide) 7
            refine t_iast (n := 120) (i := z_1261) (x := r_1268) rfl (by decide) hx hb hK hT hS hq_1252 (hT.len hq_1252 (by decide)) ⟨by omega, by omega⟩ trivial dX10_pathLine_199 (fun H locs G_1276 eG_1276 hT hS => ?_)
            have hF := hF.wI eG_1276 hq_1252 rfl
            have k_1277 : p4 = G_1276.1 paa 4 := by rw [eG_1276, wI_ne (Or.inl (tag_ne hq_1252 h_paa (by decide)))]; exact k_1269
            have k_1278 : tp = G_1276.1 a 6 := by rw [eG_1276, wI_ne (Or.inl (tag_ne hq_1252 h_a (by decide)))]; exact k_1274
            have k_1279 : z_1275 = G_1276.1 a 7 := by rw [eG_1276, wI_ne (Or.inl (tag_ne hq_1252 h_a (by decide)))]; exact ez_1275
            refine lv_aload_n hx hb dX10_pathLine_200 rfl (lv_at hl 4 rfl) ?_
            refine t_getr cf_11 hx hb hts hown hK hT h_a (k := 23) (P := fun q => τ q = 73) rfl (fun _ h9 => h9) fl_X10_52 (fun _ h9 => h9) dX10_pathLine_201 (fun q_1280 eq_1280 hq_1280 => ?_)
            have w_1281 : q_1252 = q_1280 := Option.some.inj (eq_1252.symm.trans ((hF.r h_a (by decide) rfl _).symm.trans eq_1280))
            subst w_1281
            refine lv_iload_n hx hb dX10_pathLine_204 rfl (lv_at hl 3 rfl) ?_
            refine lv_iconst (v := 2) hx hb dX10_pathLine_205 (by decide) ?_
            refine lv_iadd hx hb dX10_pathLine_206 ?_
            refine lv_topi (fun z_1282 ez_1282 => ?_)
            have tz_1282 : z_1282.toInt = z_6.toInt + 2 := add_t ez_1282 (show -2147483648 ≤ z_6.toInt + 2 by omega) (show z_6.toInt + 2 < 2147483648 by omega)
            refine lv_aload_n hx hb dX10_pathLine_207 rfl (lv_at hl 4 rfl) ?_
            refine lv_ldc2 (v := 80155) hx hb hown (hts _ kl_X10_195) dX10_pathLine_208 ?_
            refine lv_iconst (v := 1) hx hb dX10_pathLine_211 (by decide) ?_
            refine lv_bipush (v := 30) hx hb dX10_pathLine_212 (by decide) ?_
            refine t_calli (runV (As := [.long 80155, .int 1, .int 30]) (rest := [.int z_1282, .ref q_1252]) ⟨hx, hb, hml, hown, hts⟩ (t_X10_number_ l D cy base τ G_1276 a h_a 80155 1 30 tp k_1278 ⟨by omega, by omega⟩ z_1275 k_1279 ⟨by omega, by omega⟩ (by show z_1275.toInt ≤ tp.toInt; first | assumption | omega | decide)) sV_X10_197 hK (t_recv cf_11 hK hT h_a) ⟨Nat.le_trans hZ hS.1, hT⟩ ⟨Nat.le_of_ble_eq_true rfl, Nat.le_of_ble_eq_true rfl⟩ rfl hl.1 rfl (Nat.le_of_ble_eq_true rfl) dX10_pathLine_214 ⟨Nat.le_of_ble_eq_true rfl, Nat.le_of_ble_eq_true rfl⟩) hS (fun r_1283 G_1283 H locs hF_1283 hr_1283 hT hS => ?_)
            have hF := hF.tr hF_1283 rfl
            have k_1284 : p4 = G_1283.1 paa 4 := k_1277.trans (hF_1283.i h_paa (by decide) rfl _).symm
            obtain ⟨hr_1283_p0, hr_1283_p1, hr_1283_p2, hr_1283_s0⟩ := hr_1283
            have k_1287 : tp = G_1283.1 a 6 := k_1278.trans hr_1283_s0.symm
            obtain ⟨z_1288, ez_1288, hr_1283_p0, hr_1283_p1, hr_1283_p2⟩ : ∃ z_1288 : Int32, z_1288 = G_1283.1 a 7 ∧ (z_1275.toInt ≤ z_1288.toInt) ∧ (z_1288.toInt ≤ tp.toInt) ∧ (r_1283.toInt = (1 : Int) ∨ ((1 : Int) ≤ r_1283.toInt ∧ r_1283.toInt ≤ (30 : Int))) := ⟨_, rfl, hr_1283_p0, hr_1283_p1, hr_1283_p2⟩
            have rz_1288 : 0 ≤ z_1288.toInt ∧ z_1288.toInt ≤ 1600 := by rw [ez_1288]; exact hT.rgi h_a (by decide) 7
            refine t_iast (n := 120) (i := z_1282) (x := r_1283) rfl (by decide) hx hb hK hT hS hq_1252 (hT.len hq_1252 (by decide)) ⟨by omega, by omega⟩ trivial dX10_pathLine_217 (fun H locs G_1289 eG_1289 hT hS => ?_)
            have hF := hF.wI eG_1289 hq_1252 rfl
            have k_1290 : p4 = G_1289.1 paa 4 := by rw [eG_1289, wI_ne (Or.inl (tag_ne hq_1252 h_paa (by decide)))]; exact k_1284
            have k_1291 : tp = G_1289.1 a 6 := by rw [eG_1289, wI_ne (Or.inl (tag_ne hq_1252 h_a (by decide)))]; exact k_1287
            have k_1292 : z_1288 = G_1289.1 a 7 := by rw [eG_1289, wI_ne (Or.inl (tag_ne hq_1252 h_a (by decide)))]; exact ez_1288
            refine lv_aload_n hx hb dX10_pathLine_218 rfl (lv_at hl 4 rfl) ?_
            refine t_getr cf_11 hx hb hts hown hK hT h_a (k := 22) (P := fun q => τ q = 72) rfl (fun _ h9 => h9) fl_X10_49 (fun _ h9 => h9) dX10_pathLine_219 (fun q_1293 eq_1293 hq_1293 => ?_)
            have w_1294 : paa = q_1293 := Option.some.inj (e_paa.symm.trans ((hF.r h_a (by decide) rfl _).symm.trans eq_1293))
            subst w_1294
            refine lv_iconst (v := 4) hx hb dX10_pathLine_222 (by decide) ?_
            refine lv_dup2_11 hx hb dX10_pathLine_223 rfl rfl ?_
            refine t_iald (n := 5) (i := 4) rfl (by decide) hx hb hK hT h_paa (hT.len h_paa (by decide)) ⟨by decide, by decide⟩ dX10_pathLine_224 (fun z_1295 ez_1295 rz_1295 => ?_)
            have w_1296 : p4 = z_1295 := k_1290.trans ez_1295.symm
            subst w_1296
            refine lv_iconst (v := 1) hx hb dX10_pathLine_225 (by decide) ?_
            refine lv_iadd hx hb dX10_pathLine_226 ?_
            refine lv_topi (fun z_1297 ez_1297 => ?_)
            have tz_1297 : z_1297.toInt = p4.toInt + 1 := add_t ez_1297 (show -2147483648 ≤ p4.toInt + 1 by omega) (show p4.toInt + 1 < 2147483648 by omega)
            refine t_iast (n := 5) (i := 4) (x := z_1297) rfl (by decide) hx hb hK hT hS h_paa (hT.len h_paa (by decide)) ⟨by decide, by decide⟩ (show 0 ≤ z_1297.toInt ∧ z_1297.toInt ≤ 8 from ⟨by omega, by omega⟩) dX10_pathLine_227 (fun H locs G_1298 eG_1298 hT hS => ?_)
            have hF := hF.wI eG_1298 h_paa rfl
            have eG_1298 : G_1298 = wI G_1289 paa 4 z_1297 := eG_1298
            have k_1300 : tp = G_1298.1 a 6 := by rw [eG_1298, wI_ne (Or.inl (tag_ne h_paa h_a (by decide)))]; exact k_1291
            have k_1301 : z_1288 = G_1298.1 a 7 := by rw [eG_1298, wI_ne (Or.inl (tag_ne h_paa h_a (by decide)))]; exact k_1292
            have k_1302 : z_1297 = G_1298.1 paa 4 := by rw [eG_1298, wI_at]
            exact ret_v hx hb hr hlocks ⟨⟨hS.1, hS.2.1⟩, G_1298, hF, ⟨rfl, ⟨(by first | (show a0.toInt ≤ (G_1298.1 a 7).toInt; rw [← k_1301]; done) | (show a0.toInt ≤ (G_1298.1 a 7).toInt; rw [← k_1301]; show a0.toInt ≤ z_1288.toInt; first | omega | assumption)), (by first | (show (G_1298.1 a 7).toInt ≤ tp.toInt; rw [← k_1301]; done) | (show (G_1298.1 a 7).toInt ≤ tp.toInt; rw [← k_1301]; show z_1288.toInt ≤ tp.toInt; first | omega | assumption)), (k_1300.symm.trans e_tp)⟩⟩, hT⟩ hS.2.2 (Nat.le_of_ble_eq_true rfl) (Nat.le_of_ble_eq_true rfl) dX10_pathLine_228
        · skip
          have tc_1191 : ¬ p4.toInt ≤ x1186_4.toInt := fun h => c_1191 ((fa_le _ _).mpr h)
          refine lv_aload_n hx hb dX10_pathLine_69 rfl (lv_at hl 4 rfl) ?_
          refine t_geti cf_11 hx hb hts hown hK hT h_a (k := 12) rfl fl_X10_163 (fun _ h9 => h9) dX10_pathLine_70 (fun z_1303 ez_1303 rz_1303 => ?_)
          have ez_1303 : z_1303 = G_1186.1 a 12 := ez_1303
          refine lv_if_ne (tgt := 163) hx hb dX10_pathLine_73 (by decide) (fun c_1304 => ?_) (fun c_1304 => ?_)
          · skip
            have tc_1304 : ¬ z_1303.toInt = 0 := fun h => c_1304 ((fa_eq _ _).mpr h)
            refine lv_iload_n hx hb dX10_pathLine_163 rfl (lv_at hl 0 rfl) ?_
            refine lv_if_eq (tgt := 172) hx hb dX10_pathLine_164 (by decide) (fun c_1305 => ?_) (fun c_1305 => ?_)
            · skip
              have tc_1305 : x1186_3.toInt = 0 := (fa_eq _ _).mp c_1305
              refine lv_aload_n hx hb dX10_pathLine_172 rfl (lv_at hl 4 rfl) ?_
              refine t_getr cf_11 hx hb hts hown hK hT h_a (k := 23) (P := fun q => τ q = 73) rfl (fun _ h9 => h9) fl_X10_52 (fun _ h9 => h9) dX10_pathLine_173 (fun q_1306 eq_1306 hq_1306 => ?_)
              have eq_1306 := (hF.r h_a (by decide) rfl _).symm.trans eq_1306
              refine lv_iload_n hx hb dX10_pathLine_176 rfl (lv_at hl 3 rfl) ?_
              refine lv_iload_n hx hb dX10_pathLine_177 rfl (lv_at hl 2 rfl) ?_
              refine t_iast (n := 120) (i := z_6) (x := r_10) rfl (by decide) hx hb hK hT hS hq_1306 (hT.len hq_1306 (by decide)) ⟨by omega, by omega⟩ trivial dX10_pathLine_178 (fun H locs G_1307 eG_1307 hT hS => ?_)
              have hF := hF.wI eG_1307 hq_1306 rfl
              have k_1308 : tp = G_1307.1 a 6 := by rw [eG_1307, wI_ne (Or.inl (tag_ne hq_1306 h_a (by decide)))]; exact i1186_6
              have k_1309 : p4 = G_1307.1 paa 4 := by rw [eG_1307, wI_ne (Or.inl (tag_ne hq_1306 h_paa (by decide)))]; exact i1186_7
              have k_1310 : x1186_at = G_1307.1 a 7 := by rw [eG_1307, wI_ne (Or.inl (tag_ne hq_1306 h_a (by decide)))]; exact i1186_8
              have k_1311 : z_1303 = G_1307.1 a 12 := by rw [eG_1307, wI_ne (Or.inl (tag_ne hq_1306 h_a (by decide)))]; exact ez_1303
              refine lv_aload_n hx hb dX10_pathLine_179 rfl (lv_at hl 4 rfl) ?_
              refine t_getr cf_11 hx hb hts hown hK hT h_a (k := 23) (P := fun q => τ q = 73) rfl (fun _ h9 => h9) fl_X10_52 (fun _ h9 => h9) dX10_pathLine_180 (fun q_1312 eq_1312 hq_1312 => ?_)
              have w_1313 : q_1306 = q_1312 := Option.some.inj (eq_1306.symm.trans ((hF.r h_a (by decide) rfl _).symm.trans eq_1312))
              subst w_1313
              refine lv_iload_n hx hb dX10_pathLine_183 rfl (lv_at hl 3 rfl) ?_
              refine lv_iconst (v := 1) hx hb dX10_pathLine_184 (by decide) ?_
              refine lv_iadd hx hb dX10_pathLine_185 ?_
              refine lv_topi (fun z_1314 ez_1314 => ?_)
              have tz_1314 : z_1314.toInt = z_6.toInt + 1 := add_t ez_1314 (show -2147483648 ≤ z_6.toInt + 1 by omega) (show z_6.toInt + 1 < 2147483648 by omega)
              refine lv_aload_n hx hb dX10_pathLine_186 rfl (lv_at hl 4 rfl) ?_
              refine lv_iconst (v := 0) hx hb dX10_pathLine_187 (by decide) ?_
              refine lv_aload_n hx hb dX10_pathLine_188 rfl (lv_at hl 4 rfl) ?_
              refine t_getr cf_11 hx hb hts hown hK hT h_a (k := 20) (P := fun q => τ q = 70) rfl (fun _ h9 => h9) fl_X10_43 (fun _ h9 => h9) dX10_pathLine_189 (fun q_1315 eq_1315 hq_1315 => ?_)
              have w_1316 : q_7 = q_1315 := Option.some.inj (eq_7.symm.trans ((hF.r h_a (by decide) rfl _).symm.trans eq_1315))
              subst w_1316
              refine lv_iconst (v := 4) hx hb dX10_pathLine_192 (by decide) ?_
              refine t_iald (n := 5) (i := 4) rfl (by decide) hx hb hK hT hq_7 (hT.len hq_7 (by decide)) ⟨by decide, by decide⟩ dX10_pathLine_193 (fun z_1317 ez_1317 rz_1317 => ?_)
              have w_1318 : z_8 = z_1317 := ez_8.trans (ez_1317.trans (hF.i hq_7 (by decide) rfl _)).symm
              subst w_1318
              refine lv_iconst (v := 1) hx hb dX10_pathLine_194 (by decide) ?_
              refine lv_isub hx hb dX10_pathLine_195 ?_
              refine lv_topi (fun z_1319 ez_1319 => ?_)
              have w_1320 : z_9 = z_1319 := ez_9.trans ez_1319.symm
              subst w_1320
              refine t_calli (runV (As := [.int 0, .int z_9]) (rest := [.int z_1314, .ref q_1306]) ⟨hx, hb, hml, hown, hts⟩ (t_X10_number l D cy base τ G_1307 a h_a 0 z_9 tp k_1308 ⟨by omega, by omega⟩ x1186_at k_1310 ⟨by omega, by omega⟩ (by show x1186_at.toInt ≤ tp.toInt; first | assumption | omega | decide)) sV_X10_186 hK (t_recv cf_11 hK hT h_a) ⟨Nat.le_trans hZ hS.1, hT⟩ ⟨Nat.le_of_ble_eq_true rfl, Nat.le_of_ble_eq_true rfl⟩ rfl hl.1 rfl (Nat.le_of_ble_eq_true rfl) dX10_pathLine_196 ⟨Nat.le_of_ble_eq_true rfl, Nat.le_of_ble_eq_true rfl⟩) hS (fun r_1321 G_1321 H locs hF_1321 hr_1321 hT hS => ?_)
              have hF := hF.tr hF_1321 rfl
              have k_1323 : p4 = G_1321.1 paa 4 := k_1309.trans (hF_1321.i h_paa (by decide) rfl _).symm
              obtain ⟨hr_1321_p0, hr_1321_p1, hr_1321_p2, hr_1321_s0⟩ := hr_1321
              have k_1326 : tp = G_1321.1 a 6 := k_1308.trans hr_1321_s0.symm
              obtain ⟨z_1327, ez_1327, hr_1321_p0, hr_1321_p1, hr_1321_p2⟩ : ∃ z_1327 : Int32, z_1327 = G_1321.1 a 7 ∧ (x1186_at.toInt ≤ z_1327.toInt) ∧ (z_1327.toInt ≤ tp.toInt) ∧ (r_1321.toInt = (0 : Int) ∨ ((0 : Int) ≤ r_1321.toInt ∧ r_1321.toInt ≤ z_9.toInt)) := ⟨_, rfl, hr_1321_p0, hr_1321_p1, hr_1321_p2⟩
              have rz_1327 : 0 ≤ z_1327.toInt ∧ z_1327.toInt ≤ 1600 := by rw [ez_1327]; exact hT.rgi h_a (by decide) 7
              refine t_iast (n := 120) (i := z_1314) (x := r_1321) rfl (by decide) hx hb hK hT hS hq_1306 (hT.len hq_1306 (by decide)) ⟨by omega, by omega⟩ trivial dX10_pathLine_199 (fun H locs G_1328 eG_1328 hT hS => ?_)
              have hF := hF.wI eG_1328 hq_1306 rfl
              have k_1329 : p4 = G_1328.1 paa 4 := by rw [eG_1328, wI_ne (Or.inl (tag_ne hq_1306 h_paa (by decide)))]; exact k_1323
              have k_1330 : tp = G_1328.1 a 6 := by rw [eG_1328, wI_ne (Or.inl (tag_ne hq_1306 h_a (by decide)))]; exact k_1326
              have k_1331 : z_1327 = G_1328.1 a 7 := by rw [eG_1328, wI_ne (Or.inl (tag_ne hq_1306 h_a (by decide)))]; exact ez_1327
              refine lv_aload_n hx hb dX10_pathLine_200 rfl (lv_at hl 4 rfl) ?_
              refine t_getr cf_11 hx hb hts hown hK hT h_a (k := 23) (P := fun q => τ q = 73) rfl (fun _ h9 => h9) fl_X10_52 (fun _ h9 => h9) dX10_pathLine_201 (fun q_1332 eq_1332 hq_1332 => ?_)
              have w_1333 : q_1306 = q_1332 := Option.some.inj (eq_1306.symm.trans ((hF.r h_a (by decide) rfl _).symm.trans eq_1332))
              subst w_1333
              refine lv_iload_n hx hb dX10_pathLine_204 rfl (lv_at hl 3 rfl) ?_
              refine lv_iconst (v := 2) hx hb dX10_pathLine_205 (by decide) ?_
              refine lv_iadd hx hb dX10_pathLine_206 ?_
              refine lv_topi (fun z_1334 ez_1334 => ?_)
              have tz_1334 : z_1334.toInt = z_6.toInt + 2 := add_t ez_1334 (show -2147483648 ≤ z_6.toInt + 2 by omega) (show z_6.toInt + 2 < 2147483648 by omega)
              refine lv_aload_n hx hb dX10_pathLine_207 rfl (lv_at hl 4 rfl) ?_
              refine lv_ldc2 (v := 80155) hx hb hown (hts _ kl_X10_195) dX10_pathLine_208 ?_
              refine lv_iconst (v := 1) hx hb dX10_pathLine_211 (by decide) ?_
              refine lv_bipush (v := 30) hx hb dX10_pathLine_212 (by decide) ?_
              refine t_calli (runV (As := [.long 80155, .int 1, .int 30]) (rest := [.int z_1334, .ref q_1306]) ⟨hx, hb, hml, hown, hts⟩ (t_X10_number_ l D cy base τ G_1328 a h_a 80155 1 30 tp k_1330 ⟨by omega, by omega⟩ z_1327 k_1331 ⟨by omega, by omega⟩ (by show z_1327.toInt ≤ tp.toInt; first | assumption | omega | decide)) sV_X10_197 hK (t_recv cf_11 hK hT h_a) ⟨Nat.le_trans hZ hS.1, hT⟩ ⟨Nat.le_of_ble_eq_true rfl, Nat.le_of_ble_eq_true rfl⟩ rfl hl.1 rfl (Nat.le_of_ble_eq_true rfl) dX10_pathLine_214 ⟨Nat.le_of_ble_eq_true rfl, Nat.le_of_ble_eq_true rfl⟩) hS (fun r_1335 G_1335 H locs hF_1335 hr_1335 hT hS => ?_)
              have hF := hF.tr hF_1335 rfl
              have k_1336 : p4 = G_1335.1 paa 4 := k_1329.trans (hF_1335.i h_paa (by decide) rfl _).symm
              obtain ⟨hr_1335_p0, hr_1335_p1, hr_1335_p2, hr_1335_s0⟩ := hr_1335
              have k_1339 : tp = G_1335.1 a 6 := k_1330.trans hr_1335_s0.symm
              obtain ⟨z_1340, ez_1340, hr_1335_p0, hr_1335_p1, hr_1335_p2⟩ : ∃ z_1340 : Int32, z_1340 = G_1335.1 a 7 ∧ (z_1327.toInt ≤ z_1340.toInt) ∧ (z_1340.toInt ≤ tp.toInt) ∧ (r_1335.toInt = (1 : Int) ∨ ((1 : Int) ≤ r_1335.toInt ∧ r_1335.toInt ≤ (30 : Int))) := ⟨_, rfl, hr_1335_p0, hr_1335_p1, hr_1335_p2⟩
              have rz_1340 : 0 ≤ z_1340.toInt ∧ z_1340.toInt ≤ 1600 := by rw [ez_1340]; exact hT.rgi h_a (by decide) 7
              refine t_iast (n := 120) (i := z_1334) (x := r_1335) rfl (by decide) hx hb hK hT hS hq_1306 (hT.len hq_1306 (by decide)) ⟨by omega, by omega⟩ trivial dX10_pathLine_217 (fun H locs G_1341 eG_1341 hT hS => ?_)
              have hF := hF.wI eG_1341 hq_1306 rfl
              have k_1342 : p4 = G_1341.1 paa 4 := by rw [eG_1341, wI_ne (Or.inl (tag_ne hq_1306 h_paa (by decide)))]; exact k_1336
              have k_1343 : tp = G_1341.1 a 6 := by rw [eG_1341, wI_ne (Or.inl (tag_ne hq_1306 h_a (by decide)))]; exact k_1339
              have k_1344 : z_1340 = G_1341.1 a 7 := by rw [eG_1341, wI_ne (Or.inl (tag_ne hq_1306 h_a (by decide)))]; exact ez_1340
              refine lv_aload_n hx hb dX10_pathLine_218 rfl (lv_at hl 4 rfl) ?_
              refine t_getr cf_11 hx hb hts hown hK hT h_a (k := 22) (P := fun q => τ q = 72) rfl (fun _ h9 => h9) fl_X10_49 (fun _ h9 => h9) dX10_pathLine_219 (fun q_1345 eq_1345 hq_1345 => ?_)
              have w_1346 : paa = q_1345 := Option.some.inj (e_paa.symm.trans ((hF.r h_a (by decide) rfl _).symm.trans eq_1345))
              subst w_1346
              refine lv_iconst (v := 4) hx hb dX10_pathLine_222 (by decide) ?_
              refine lv_dup2_11 hx hb dX10_pathLine_223 rfl rfl ?_
              refine t_iald (n := 5) (i := 4) rfl (by decide) hx hb hK hT h_paa (hT.len h_paa (by decide)) ⟨by decide, by decide⟩ dX10_pathLine_224 (fun z_1347 ez_1347 rz_1347 => ?_)
              have w_1348 : p4 = z_1347 := k_1342.trans ez_1347.symm
              subst w_1348
              refine lv_iconst (v := 1) hx hb dX10_pathLine_225 (by decide) ?_
              refine lv_iadd hx hb dX10_pathLine_226 ?_
              refine lv_topi (fun z_1349 ez_1349 => ?_)
              have tz_1349 : z_1349.toInt = p4.toInt + 1 := add_t ez_1349 (show -2147483648 ≤ p4.toInt + 1 by omega) (show p4.toInt + 1 < 2147483648 by omega)
              refine t_iast (n := 5) (i := 4) (x := z_1349) rfl (by decide) hx hb hK hT hS h_paa (hT.len h_paa (by decide)) ⟨by decide, by decide⟩ (show 0 ≤ z_1349.toInt ∧ z_1349.toInt ≤ 8 from ⟨by omega, by omega⟩) dX10_pathLine_227 (fun H locs G_1350 eG_1350 hT hS => ?_)
              have hF := hF.wI eG_1350 h_paa rfl
              have eG_1350 : G_1350 = wI G_1341 paa 4 z_1349 := eG_1350
              have k_1352 : tp = G_1350.1 a 6 := by rw [eG_1350, wI_ne (Or.inl (tag_ne h_paa h_a (by decide)))]; exact k_1343
              have k_1353 : z_1340 = G_1350.1 a 7 := by rw [eG_1350, wI_ne (Or.inl (tag_ne h_paa h_a (by decide)))]; exact k_1344
              have k_1354 : z_1349 = G_1350.1 paa 4 := by rw [eG_1350, wI_at]
              exact ret_v hx hb hr hlocks ⟨⟨hS.1, hS.2.1⟩, G_1350, hF, ⟨rfl, ⟨(by first | (show a0.toInt ≤ (G_1350.1 a 7).toInt; rw [← k_1353]; done) | (show a0.toInt ≤ (G_1350.1 a 7).toInt; rw [← k_1353]; show a0.toInt ≤ z_1340.toInt; first | omega | assumption)), (by first | (show (G_1350.1 a 7).toInt ≤ tp.toInt; rw [← k_1353]; done) | (show (G_1350.1 a 7).toInt ≤ tp.toInt; rw [← k_1353]; show z_1340.toInt ≤ tp.toInt; first | omega | assumption)), (k_1352.symm.trans e_tp)⟩⟩, hT⟩ hS.2.2 (Nat.le_of_ble_eq_true rfl) (Nat.le_of_ble_eq_true rfl) dX10_pathLine_228
            · skip
              have tc_1305 : ¬ x1186_3.toInt = 0 := fun h => c_1305 ((fa_eq _ _).mpr h)
              refine lv_aload_n hx hb dX10_pathLine_167 rfl (lv_at hl 4 rfl) ?_
              refine lv_iconst (v := 2) hx hb dX10_pathLine_168 (by decide) ?_
              obtain ⟨z_1355, ez_1355⟩ : ∃ y : Int32, y = G_1186.1 a 8 := ⟨_, rfl⟩
              refine t_callv (runV (As := [.int 2]) (rest := []) ⟨hx, hb, hml, hown, hts⟩ (t_X10_fails l D cy base τ G_1186 a h_a 2 (by decide) tp i1186_6 ⟨by omega, by omega⟩ x1186_at i1186_8 ⟨by omega, by omega⟩ z_1355 ez_1355 z_1303 ez_1303) sV_X10_179 hK (t_recv cf_11 hK hT h_a) ⟨Nat.le_trans hZ hS.1, hT⟩ ⟨Nat.le_of_ble_eq_true rfl, Nat.le_of_ble_eq_true rfl⟩ rfl hl.1 rfl (Nat.le_of_ble_eq_true rfl) dX10_pathLine_169 ⟨Nat.le_of_ble_eq_true rfl, Nat.le_of_ble_eq_true rfl⟩) hS (fun G_1356 H locs hF_1356 hr_1356 hT hS => ?_)
              have hF := hF.tr hF_1356 rfl
              have k_1358 : p4 = G_1356.1 paa 4 := i1186_7.trans (hF_1356.i h_paa (by decide) rfl _).symm
              obtain ⟨hr_1356_p0, hr_1356_s0, hr_1356_s1, hr_1356_s2⟩ := hr_1356
              have k_1362 : tp = G_1356.1 a 6 := i1186_6.trans hr_1356_s0.symm
              have k_1363 : x1186_at = G_1356.1 a 7 := i1186_8.trans hr_1356_s1.symm
              have k_1364 : z_1355 = G_1356.1 a 8 := ez_1355.trans hr_1356_s2.symm
              obtain ⟨z_1365, ez_1365, hr_1356_p0⟩ : ∃ z_1365 : Int32, z_1365 = G_1356.1 a 12 ∧ (z_1365.toInt ≠ 0) := ⟨_, rfl, hr_1356_p0⟩
              refine lv_aload_n hx hb dX10_pathLine_172 rfl (lv_at hl 4 rfl) ?_
              refine t_getr cf_11 hx hb hts hown hK hT h_a (k := 23) (P := fun q => τ q = 73) rfl (fun _ h9 => h9) fl_X10_52 (fun _ h9 => h9) dX10_pathLine_173 (fun q_1366 eq_1366 hq_1366 => ?_)
              have eq_1366 := (hF.r h_a (by decide) rfl _).symm.trans eq_1366
              refine lv_iload_n hx hb dX10_pathLine_176 rfl (lv_at hl 3 rfl) ?_
              refine lv_iload_n hx hb dX10_pathLine_177 rfl (lv_at hl 2 rfl) ?_
              refine t_iast (n := 120) (i := z_6) (x := r_10) rfl (by decide) hx hb hK hT hS hq_1366 (hT.len hq_1366 (by decide)) ⟨by omega, by omega⟩ trivial dX10_pathLine_178 (fun H locs G_1367 eG_1367 hT hS => ?_)
              have hF := hF.wI eG_1367 hq_1366 rfl
              have k_1368 : p4 = G_1367.1 paa 4 := by rw [eG_1367, wI_ne (Or.inl (tag_ne hq_1366 h_paa (by decide)))]; exact k_1358
              have k_1369 : tp = G_1367.1 a 6 := by rw [eG_1367, wI_ne (Or.inl (tag_ne hq_1366 h_a (by decide)))]; exact k_1362
              have k_1370 : x1186_at = G_1367.1 a 7 := by rw [eG_1367, wI_ne (Or.inl (tag_ne hq_1366 h_a (by decide)))]; exact k_1363
              have k_1371 : z_1355 = G_1367.1 a 8 := by rw [eG_1367, wI_ne (Or.inl (tag_ne hq_1366 h_a (by decide)))]; exact k_1364
              have k_1372 : z_1365 = G_1367.1 a 12 := by rw [eG_1367, wI_ne (Or.inl (tag_ne hq_1366 h_a (by decide)))]; exact ez_1365
              refine lv_aload_n hx hb dX10_pathLine_179 rfl (lv_at hl 4 rfl) ?_
              refine t_getr cf_11 hx hb hts hown hK hT h_a (k := 23) (P := fun q => τ q = 73) rfl (fun _ h9 => h9) fl_X10_52 (fun _ h9 => h9) dX10_pathLine_180 (fun q_1373 eq_1373 hq_1373 => ?_)
              have w_1374 : q_1366 = q_1373 := Option.some.inj (eq_1366.symm.trans ((hF.r h_a (by decide) rfl _).symm.trans eq_1373))
              subst w_1374
              refine lv_iload_n hx hb dX10_pathLine_183 rfl (lv_at hl 3 rfl) ?_
              refine lv_iconst (v := 1) hx hb dX10_pathLine_184 (by decide) ?_
              refine lv_iadd hx hb dX10_pathLine_185 ?_
              refine lv_topi (fun z_1375 ez_1375 => ?_)
              have tz_1375 : z_1375.toInt = z_6.toInt + 1 := add_t ez_1375 (show -2147483648 ≤ z_6.toInt + 1 by omega) (show z_6.toInt + 1 < 2147483648 by omega)
              refine lv_aload_n hx hb dX10_pathLine_186 rfl (lv_at hl 4 rfl) ?_
              refine lv_iconst (v := 0) hx hb dX10_pathLine_187 (by decide) ?_
              refine lv_aload_n hx hb dX10_pathLine_188 rfl (lv_at hl 4 rfl) ?_
              refine t_getr cf_11 hx hb hts hown hK hT h_a (k := 20) (P := fun q => τ q = 70) rfl (fun _ h9 => h9) fl_X10_43 (fun _ h9 => h9) dX10_pathLine_189 (fun q_1376 eq_1376 hq_1376 => ?_)
              have w_1377 : q_7 = q_1376 := Option.some.inj (eq_7.symm.trans ((hF.r h_a (by decide) rfl _).symm.trans eq_1376))
              subst w_1377
              refine lv_iconst (v := 4) hx hb dX10_pathLine_192 (by decide) ?_
              refine t_iald (n := 5) (i := 4) rfl (by decide) hx hb hK hT hq_7 (hT.len hq_7 (by decide)) ⟨by decide, by decide⟩ dX10_pathLine_193 (fun z_1378 ez_1378 rz_1378 => ?_)
              have w_1379 : z_8 = z_1378 := ez_8.trans (ez_1378.trans (hF.i hq_7 (by decide) rfl _)).symm
              subst w_1379
              refine lv_iconst (v := 1) hx hb dX10_pathLine_194 (by decide) ?_
              refine lv_isub hx hb dX10_pathLine_195 ?_
              refine lv_topi (fun z_1380 ez_1380 => ?_)
              have w_1381 : z_9 = z_1380 := ez_9.trans ez_1380.symm
              subst w_1381
              refine t_calli (runV (As := [.int 0, .int z_9]) (rest := [.int z_1375, .ref q_1366]) ⟨hx, hb, hml, hown, hts⟩ (t_X10_number l D cy base τ G_1367 a h_a 0 z_9 tp k_1369 ⟨by omega, by omega⟩ x1186_at k_1370 ⟨by omega, by omega⟩ (by show x1186_at.toInt ≤ tp.toInt; first | assumption | omega | decide)) sV_X10_186 hK (t_recv cf_11 hK hT h_a) ⟨Nat.le_trans hZ hS.1, hT⟩ ⟨Nat.le_of_ble_eq_true rfl, Nat.le_of_ble_eq_true rfl⟩ rfl hl.1 rfl (Nat.le_of_ble_eq_true rfl) dX10_pathLine_196 ⟨Nat.le_of_ble_eq_true rfl, Nat.le_of_ble_eq_true rfl⟩) hS (fun r_1382 G_1382 H locs hF_1382 hr_1382 hT hS => ?_)
              have hF := hF.tr hF_1382 rfl
              have k_1383 : p4 = G_1382.1 paa 4 := k_1368.trans (hF_1382.i h_paa (by decide) rfl _).symm
              obtain ⟨hr_1382_p0, hr_1382_p1, hr_1382_p2, hr_1382_s0⟩ := hr_1382
              have k_1388 : tp = G_1382.1 a 6 := k_1369.trans hr_1382_s0.symm
              obtain ⟨z_1389, ez_1389, hr_1382_p0, hr_1382_p1, hr_1382_p2⟩ : ∃ z_1389 : Int32, z_1389 = G_1382.1 a 7 ∧ (x1186_at.toInt ≤ z_1389.toInt) ∧ (z_1389.toInt ≤ tp.toInt) ∧ (r_1382.toInt = (0 : Int) ∨ ((0 : Int) ≤ r_1382.toInt ∧ r_1382.toInt ≤ z_9.toInt)) := ⟨_, rfl, hr_1382_p0, hr_1382_p1, hr_1382_p2⟩
              have rz_1389 : 0 ≤ z_1389.toInt ∧ z_1389.toInt ≤ 1600 := by rw [ez_1389]; exact hT.rgi h_a (by decide) 7
              refine t_iast (n := 120) (i := z_1375) (x := r_1382) rfl (by decide) hx hb hK hT hS hq_1366 (hT.len hq_1366 (by decide)) ⟨by omega, by omega⟩ trivial dX10_pathLine_199 (fun H locs G_1390 eG_1390 hT hS => ?_)
              have hF := hF.wI eG_1390 hq_1366 rfl
              have k_1391 : p4 = G_1390.1 paa 4 := by rw [eG_1390, wI_ne (Or.inl (tag_ne hq_1366 h_paa (by decide)))]; exact k_1383
              have k_1392 : tp = G_1390.1 a 6 := by rw [eG_1390, wI_ne (Or.inl (tag_ne hq_1366 h_a (by decide)))]; exact k_1388
              have k_1393 : z_1389 = G_1390.1 a 7 := by rw [eG_1390, wI_ne (Or.inl (tag_ne hq_1366 h_a (by decide)))]; exact ez_1389
              refine lv_aload_n hx hb dX10_pathLine_200 rfl (lv_at hl 4 rfl) ?_
              refine t_getr cf_11 hx hb hts hown hK hT h_a (k := 23) (P := fun q => τ q = 73) rfl (fun _ h9 => h9) fl_X10_52 (fun _ h9 => h9) dX10_pathLine_201 (fun q_1394 eq_1394 hq_1394 => ?_)
              have w_1395 : q_1366 = q_1394 := Option.some.inj (eq_1366.symm.trans ((hF.r h_a (by decide) rfl _).symm.trans eq_1394))
              subst w_1395
              refine lv_iload_n hx hb dX10_pathLine_204 rfl (lv_at hl 3 rfl) ?_
              refine lv_iconst (v := 2) hx hb dX10_pathLine_205 (by decide) ?_
              refine lv_iadd hx hb dX10_pathLine_206 ?_
              refine lv_topi (fun z_1396 ez_1396 => ?_)
              have tz_1396 : z_1396.toInt = z_6.toInt + 2 := add_t ez_1396 (show -2147483648 ≤ z_6.toInt + 2 by omega) (show z_6.toInt + 2 < 2147483648 by omega)
              refine lv_aload_n hx hb dX10_pathLine_207 rfl (lv_at hl 4 rfl) ?_
              refine lv_ldc2 (v := 80155) hx hb hown (hts _ kl_X10_195) dX10_pathLine_208 ?_
              refine lv_iconst (v := 1) hx hb dX10_pathLine_211 (by decide) ?_
              refine lv_bipush (v := 30) hx hb dX10_pathLine_212 (by decide) ?_
              refine t_calli (runV (As := [.long 80155, .int 1, .int 30]) (rest := [.int z_1396, .ref q_1366]) ⟨hx, hb, hml, hown, hts⟩ (t_X10_number_ l D cy base τ G_1390 a h_a 80155 1 30 tp k_1392 ⟨by omega, by omega⟩ z_1389 k_1393 ⟨by omega, by omega⟩ (by show z_1389.toInt ≤ tp.toInt; first | assumption | omega | decide)) sV_X10_197 hK (t_recv cf_11 hK hT h_a) ⟨Nat.le_trans hZ hS.1, hT⟩ ⟨Nat.le_of_ble_eq_true rfl, Nat.le_of_ble_eq_true rfl⟩ rfl hl.1 rfl (Nat.le_of_ble_eq_true rfl) dX10_pathLine_214 ⟨Nat.le_of_ble_eq_true rfl, Nat.le_of_ble_eq_true rfl⟩) hS (fun r_1397 G_1397 H locs hF_1397 hr_1397 hT hS => ?_)
              have hF := hF.tr hF_1397 rfl
              have k_1398 : p4 = G_1397.1 paa 4 := k_1391.trans (hF_1397.i h_paa (by decide) rfl _).symm
              obtain ⟨hr_1397_p0, hr_1397_p1, hr_1397_p2, hr_1397_s0⟩ := hr_1397
              have k_1401 : tp = G_1397.1 a 6 := k_1392.trans hr_1397_s0.symm
              obtain ⟨z_1402, ez_1402, hr_1397_p0, hr_1397_p1, hr_1397_p2⟩ : ∃ z_1402 : Int32, z_1402 = G_1397.1 a 7 ∧ (z_1389.toInt ≤ z_1402.toInt) ∧ (z_1402.toInt ≤ tp.toInt) ∧ (r_1397.toInt = (1 : Int) ∨ ((1 : Int) ≤ r_1397.toInt ∧ r_1397.toInt ≤ (30 : Int))) := ⟨_, rfl, hr_1397_p0, hr_1397_p1, hr_1397_p2⟩
              have rz_1402 : 0 ≤ z_1402.toInt ∧ z_1402.toInt ≤ 1600 := by rw [ez_1402]; exact hT.rgi h_a (by decide) 7
              refine t_iast (n := 120) (i := z_1396) (x := r_1397) rfl (by decide) hx hb hK hT hS hq_1366 (hT.len hq_1366 (by decide)) ⟨by omega, by omega⟩ trivial dX10_pathLine_217 (fun H locs G_1403 eG_1403 hT hS => ?_)
              have hF := hF.wI eG_1403 hq_1366 rfl
              have k_1404 : p4 = G_1403.1 paa 4 := by rw [eG_1403, wI_ne (Or.inl (tag_ne hq_1366 h_paa (by decide)))]; exact k_1398
              have k_1405 : tp = G_1403.1 a 6 := by rw [eG_1403, wI_ne (Or.inl (tag_ne hq_1366 h_a (by decide)))]; exact k_1401
              have k_1406 : z_1402 = G_1403.1 a 7 := by rw [eG_1403, wI_ne (Or.inl (tag_ne hq_1366 h_a (by decide)))]; exact ez_1402
              refine lv_aload_n hx hb dX10_pathLine_218 rfl (lv_at hl 4 rfl) ?_
              refine t_getr cf_11 hx hb hts hown hK hT h_a (k := 22) (P := fun q => τ q = 72) rfl (fun _ h9 => h9) fl_X10_49 (fun _ h9 => h9) dX10_pathLine_219 (fun q_1407 eq_1407 hq_1407 => ?_)
              have w_1408 : paa = q_1407 := Option.some.inj (e_paa.symm.trans ((hF.r h_a (by decide) rfl _).symm.trans eq_1407))
              subst w_1408
              refine lv_iconst (v := 4) hx hb dX10_pathLine_222 (by decide) ?_
              refine lv_dup2_11 hx hb dX10_pathLine_223 rfl rfl ?_
              refine t_iald (n := 5) (i := 4) rfl (by decide) hx hb hK hT h_paa (hT.len h_paa (by decide)) ⟨by decide, by decide⟩ dX10_pathLine_224 (fun z_1409 ez_1409 rz_1409 => ?_)
              have w_1410 : p4 = z_1409 := k_1404.trans ez_1409.symm
              subst w_1410
              refine lv_iconst (v := 1) hx hb dX10_pathLine_225 (by decide) ?_
              refine lv_iadd hx hb dX10_pathLine_226 ?_
              refine lv_topi (fun z_1411 ez_1411 => ?_)
              have tz_1411 : z_1411.toInt = p4.toInt + 1 := add_t ez_1411 (show -2147483648 ≤ p4.toInt + 1 by omega) (show p4.toInt + 1 < 2147483648 by omega)
              refine t_iast (n := 5) (i := 4) (x := z_1411) rfl (by decide) hx hb hK hT hS h_paa (hT.len h_paa (by decide)) ⟨by decide, by decide⟩ (show 0 ≤ z_1411.toInt ∧ z_1411.toInt ≤ 8 from ⟨by omega, by omega⟩) dX10_pathLine_227 (fun H locs G_1412 eG_1412 hT hS => ?_)
              have hF := hF.wI eG_1412 h_paa rfl
              have eG_1412 : G_1412 = wI G_1403 paa 4 z_1411 := eG_1412
              have k_1414 : tp = G_1412.1 a 6 := by rw [eG_1412, wI_ne (Or.inl (tag_ne h_paa h_a (by decide)))]; exact k_1405
              have k_1415 : z_1402 = G_1412.1 a 7 := by rw [eG_1412, wI_ne (Or.inl (tag_ne h_paa h_a (by decide)))]; exact k_1406
              have k_1416 : z_1411 = G_1412.1 paa 4 := by rw [eG_1412, wI_at]
              exact ret_v hx hb hr hlocks ⟨⟨hS.1, hS.2.1⟩, G_1412, hF, ⟨rfl, ⟨(by first | (show a0.toInt ≤ (G_1412.1 a 7).toInt; rw [← k_1415]; done) | (show a0.toInt ≤ (G_1412.1 a 7).toInt; rw [← k_1415]; show a0.toInt ≤ z_1402.toInt; first | omega | assumption)), (by first | (show (G_1412.1 a 7).toInt ≤ tp.toInt; rw [← k_1415]; done) | (show (G_1412.1 a 7).toInt ≤ tp.toInt; rw [← k_1415]; show z_1402.toInt ≤ tp.toInt; first | omega | assumption)), (k_1414.symm.trans e_tp)⟩⟩, hT⟩ hS.2.2 (Nat.le_of_ble_eq_true rfl) (Nat.le_of_ble_eq_true rfl) dX10_pathLine_228
          · skip
            have tc_1304 : z_1303.toInt = 0 := (fa_eq _ _).mp c_1304
            refine lv_aload_n hx hb dX10_pathLine_76 rfl (lv_at hl 4 rfl) ?_
            refine t_geti cf_11 hx hb hts hown hK hT h_a (k := 8) rfl fl_X10_152 (fun _ h9 => h9) dX10_pathLine_77 (fun z_1417 ez_1417 rz_1417 => ?_)
            have ez_1417 : z_1417 = G_1186.1 a 8 := ez_1417
            refine lv_iconst (v := 2) hx hb dX10_pathLine_80 (by decide) ?_
            refine lv_icmp_ne (tgt := 163) hx hb dX10_pathLine_81 (by decide) (fun c_1418 => ?_) (fun c_1418 => ?_)
            · skip
              have tc_1418 : ¬ z_1417.toInt = 2 := fun h => c_1418 ((fa_eq _ _).mpr h)
              refine lv_iload_n hx hb dX10_pathLine_163 rfl (lv_at hl 0 rfl) ?_
              refine lv_if_eq (tgt := 172) hx hb dX10_pathLine_164 (by decide) (fun c_1419 => ?_) (fun c_1419 => ?_)
              · skip
                have tc_1419 : x1186_3.toInt = 0 := (fa_eq _ _).mp c_1419
                refine lv_aload_n hx hb dX10_pathLine_172 rfl (lv_at hl 4 rfl) ?_
                refine t_getr cf_11 hx hb hts hown hK hT h_a (k := 23) (P := fun q => τ q = 73) rfl (fun _ h9 => h9) fl_X10_52 (fun _ h9 => h9) dX10_pathLine_173 (fun q_1420 eq_1420 hq_1420 => ?_)
                have eq_1420 := (hF.r h_a (by decide) rfl _).symm.trans eq_1420
                refine lv_iload_n hx hb dX10_pathLine_176 rfl (lv_at hl 3 rfl) ?_
                refine lv_iload_n hx hb dX10_pathLine_177 rfl (lv_at hl 2 rfl) ?_
                refine t_iast (n := 120) (i := z_6) (x := r_10) rfl (by decide) hx hb hK hT hS hq_1420 (hT.len hq_1420 (by decide)) ⟨by omega, by omega⟩ trivial dX10_pathLine_178 (fun H locs G_1421 eG_1421 hT hS => ?_)
                have hF := hF.wI eG_1421 hq_1420 rfl
                have k_1422 : tp = G_1421.1 a 6 := by rw [eG_1421, wI_ne (Or.inl (tag_ne hq_1420 h_a (by decide)))]; exact i1186_6
                have k_1423 : p4 = G_1421.1 paa 4 := by rw [eG_1421, wI_ne (Or.inl (tag_ne hq_1420 h_paa (by decide)))]; exact i1186_7
                have k_1424 : x1186_at = G_1421.1 a 7 := by rw [eG_1421, wI_ne (Or.inl (tag_ne hq_1420 h_a (by decide)))]; exact i1186_8
                have k_1425 : z_1303 = G_1421.1 a 12 := by rw [eG_1421, wI_ne (Or.inl (tag_ne hq_1420 h_a (by decide)))]; exact ez_1303
                have k_1426 : z_1417 = G_1421.1 a 8 := by rw [eG_1421, wI_ne (Or.inl (tag_ne hq_1420 h_a (by decide)))]; exact ez_1417
                refine lv_aload_n hx hb dX10_pathLine_179 rfl (lv_at hl 4 rfl) ?_
                refine t_getr cf_11 hx hb hts hown hK hT h_a (k := 23) (P := fun q => τ q = 73) rfl (fun _ h9 => h9) fl_X10_52 (fun _ h9 => h9) dX10_pathLine_180 (fun q_1427 eq_1427 hq_1427 => ?_)
                have w_1428 : q_1420 = q_1427 := Option.some.inj (eq_1420.symm.trans ((hF.r h_a (by decide) rfl _).symm.trans eq_1427))
                subst w_1428
                refine lv_iload_n hx hb dX10_pathLine_183 rfl (lv_at hl 3 rfl) ?_
                refine lv_iconst (v := 1) hx hb dX10_pathLine_184 (by decide) ?_
                refine lv_iadd hx hb dX10_pathLine_185 ?_
                refine lv_topi (fun z_1429 ez_1429 => ?_)
                have tz_1429 : z_1429.toInt = z_6.toInt + 1 := add_t ez_1429 (show -2147483648 ≤ z_6.toInt + 1 by omega) (show z_6.toInt + 1 < 2147483648 by omega)
                refine lv_aload_n hx hb dX10_pathLine_186 rfl (lv_at hl 4 rfl) ?_
                refine lv_iconst (v := 0) hx hb dX10_pathLine_187 (by decide) ?_
                refine lv_aload_n hx hb dX10_pathLine_188 rfl (lv_at hl 4 rfl) ?_
                refine t_getr cf_11 hx hb hts hown hK hT h_a (k := 20) (P := fun q => τ q = 70) rfl (fun _ h9 => h9) fl_X10_43 (fun _ h9 => h9) dX10_pathLine_189 (fun q_1430 eq_1430 hq_1430 => ?_)
                have w_1431 : q_7 = q_1430 := Option.some.inj (eq_7.symm.trans ((hF.r h_a (by decide) rfl _).symm.trans eq_1430))
                subst w_1431
                refine lv_iconst (v := 4) hx hb dX10_pathLine_192 (by decide) ?_
                refine t_iald (n := 5) (i := 4) rfl (by decide) hx hb hK hT hq_7 (hT.len hq_7 (by decide)) ⟨by decide, by decide⟩ dX10_pathLine_193 (fun z_1432 ez_1432 rz_1432 => ?_)
                have w_1433 : z_8 = z_1432 := ez_8.trans (ez_1432.trans (hF.i hq_7 (by decide) rfl _)).symm
                subst w_1433
                refine lv_iconst (v := 1) hx hb dX10_pathLine_194 (by decide) ?_
                refine lv_isub hx hb dX10_pathLine_195 ?_
                refine lv_topi (fun z_1434 ez_1434 => ?_)
                have w_1435 : z_9 = z_1434 := ez_9.trans ez_1434.symm
                subst w_1435
                refine t_calli (runV (As := [.int 0, .int z_9]) (rest := [.int z_1429, .ref q_1420]) ⟨hx, hb, hml, hown, hts⟩ (t_X10_number l D cy base τ G_1421 a h_a 0 z_9 tp k_1422 ⟨by omega, by omega⟩ x1186_at k_1424 ⟨by omega, by omega⟩ (by show x1186_at.toInt ≤ tp.toInt; first | assumption | omega | decide)) sV_X10_186 hK (t_recv cf_11 hK hT h_a) ⟨Nat.le_trans hZ hS.1, hT⟩ ⟨Nat.le_of_ble_eq_true rfl, Nat.le_of_ble_eq_true rfl⟩ rfl hl.1 rfl (Nat.le_of_ble_eq_true rfl) dX10_pathLine_196 ⟨Nat.le_of_ble_eq_true rfl, Nat.le_of_ble_eq_true rfl⟩) hS (fun r_1436 G_1436 H locs hF_1436 hr_1436 hT hS => ?_)
                have hF := hF.tr hF_1436 rfl
                have k_1438 : p4 = G_1436.1 paa 4 := k_1423.trans (hF_1436.i h_paa (by decide) rfl _).symm
                obtain ⟨hr_1436_p0, hr_1436_p1, hr_1436_p2, hr_1436_s0⟩ := hr_1436
                have k_1442 : tp = G_1436.1 a 6 := k_1422.trans hr_1436_s0.symm
                obtain ⟨z_1443, ez_1443, hr_1436_p0, hr_1436_p1, hr_1436_p2⟩ : ∃ z_1443 : Int32, z_1443 = G_1436.1 a 7 ∧ (x1186_at.toInt ≤ z_1443.toInt) ∧ (z_1443.toInt ≤ tp.toInt) ∧ (r_1436.toInt = (0 : Int) ∨ ((0 : Int) ≤ r_1436.toInt ∧ r_1436.toInt ≤ z_9.toInt)) := ⟨_, rfl, hr_1436_p0, hr_1436_p1, hr_1436_p2⟩
                have rz_1443 : 0 ≤ z_1443.toInt ∧ z_1443.toInt ≤ 1600 := by rw [ez_1443]; exact hT.rgi h_a (by decide) 7
                refine t_iast (n := 120) (i := z_1429) (x := r_1436) rfl (by decide) hx hb hK hT hS hq_1420 (hT.len hq_1420 (by decide)) ⟨by omega, by omega⟩ trivial dX10_pathLine_199 (fun H locs G_1444 eG_1444 hT hS => ?_)
                have hF := hF.wI eG_1444 hq_1420 rfl
                have k_1445 : p4 = G_1444.1 paa 4 := by rw [eG_1444, wI_ne (Or.inl (tag_ne hq_1420 h_paa (by decide)))]; exact k_1438
                have k_1446 : tp = G_1444.1 a 6 := by rw [eG_1444, wI_ne (Or.inl (tag_ne hq_1420 h_a (by decide)))]; exact k_1442
                have k_1447 : z_1443 = G_1444.1 a 7 := by rw [eG_1444, wI_ne (Or.inl (tag_ne hq_1420 h_a (by decide)))]; exact ez_1443
                refine lv_aload_n hx hb dX10_pathLine_200 rfl (lv_at hl 4 rfl) ?_
                refine t_getr cf_11 hx hb hts hown hK hT h_a (k := 23) (P := fun q => τ q = 73) rfl (fun _ h9 => h9) fl_X10_52 (fun _ h9 => h9) dX10_pathLine_201 (fun q_1448 eq_1448 hq_1448 => ?_)
                have w_1449 : q_1420 = q_1448 := Option.some.inj (eq_1420.symm.trans ((hF.r h_a (by decide) rfl _).symm.trans eq_1448))
                subst w_1449
                refine lv_iload_n hx hb dX10_pathLine_204 rfl (lv_at hl 3 rfl) ?_
                refine lv_iconst (v := 2) hx hb dX10_pathLine_205 (by decide) ?_
                refine lv_iadd hx hb dX10_pathLine_206 ?_
                refine lv_topi (fun z_1450 ez_1450 => ?_)
                have tz_1450 : z_1450.toInt = z_6.toInt + 2 := add_t ez_1450 (show -2147483648 ≤ z_6.toInt + 2 by omega) (show z_6.toInt + 2 < 2147483648 by omega)
                refine lv_aload_n hx hb dX10_pathLine_207 rfl (lv_at hl 4 rfl) ?_
                refine lv_ldc2 (v := 80155) hx hb hown (hts _ kl_X10_195) dX10_pathLine_208 ?_
                refine lv_iconst (v := 1) hx hb dX10_pathLine_211 (by decide) ?_
                refine lv_bipush (v := 30) hx hb dX10_pathLine_212 (by decide) ?_
                refine t_calli (runV (As := [.long 80155, .int 1, .int 30]) (rest := [.int z_1450, .ref q_1420]) ⟨hx, hb, hml, hown, hts⟩ (t_X10_number_ l D cy base τ G_1444 a h_a 80155 1 30 tp k_1446 ⟨by omega, by omega⟩ z_1443 k_1447 ⟨by omega, by omega⟩ (by show z_1443.toInt ≤ tp.toInt; first | assumption | omega | decide)) sV_X10_197 hK (t_recv cf_11 hK hT h_a) ⟨Nat.le_trans hZ hS.1, hT⟩ ⟨Nat.le_of_ble_eq_true rfl, Nat.le_of_ble_eq_true rfl⟩ rfl hl.1 rfl (Nat.le_of_ble_eq_true rfl) dX10_pathLine_214 ⟨Nat.le_of_ble_eq_true rfl, Nat.le_of_ble_eq_true rfl⟩) hS (fun r_1451 G_1451 H locs hF_1451 hr_1451 hT hS => ?_)
                have hF := hF.tr hF_1451 rfl
                have k_1452 : p4 = G_1451.1 paa 4 := k_1445.trans (hF_1451.i h_paa (by decide) rfl _).symm
                obtain ⟨hr_1451_p0, hr_1451_p1, hr_1451_p2, hr_1451_s0⟩ := hr_1451
                have k_1455 : tp = G_1451.1 a 6 := k_1446.trans hr_1451_s0.symm
                obtain ⟨z_1456, ez_1456, hr_1451_p0, hr_1451_p1, hr_1451_p2⟩ : ∃ z_1456 : Int32, z_1456 = G_1451.1 a 7 ∧ (z_1443.toInt ≤ z_1456.toInt) ∧ (z_1456.toInt ≤ tp.toInt) ∧ (r_1451.toInt = (1 : Int) ∨ ((1 : Int) ≤ r_1451.toInt ∧ r_1451.toInt ≤ (30 : Int))) := ⟨_, rfl, hr_1451_p0, hr_1451_p1, hr_1451_p2⟩
                have rz_1456 : 0 ≤ z_1456.toInt ∧ z_1456.toInt ≤ 1600 := by rw [ez_1456]; exact hT.rgi h_a (by decide) 7
                refine t_iast (n := 120) (i := z_1450) (x := r_1451) rfl (by decide) hx hb hK hT hS hq_1420 (hT.len hq_1420 (by decide)) ⟨by omega, by omega⟩ trivial dX10_pathLine_217 (fun H locs G_1457 eG_1457 hT hS => ?_)
                have hF := hF.wI eG_1457 hq_1420 rfl
                have k_1458 : p4 = G_1457.1 paa 4 := by rw [eG_1457, wI_ne (Or.inl (tag_ne hq_1420 h_paa (by decide)))]; exact k_1452
                have k_1459 : tp = G_1457.1 a 6 := by rw [eG_1457, wI_ne (Or.inl (tag_ne hq_1420 h_a (by decide)))]; exact k_1455
                have k_1460 : z_1456 = G_1457.1 a 7 := by rw [eG_1457, wI_ne (Or.inl (tag_ne hq_1420 h_a (by decide)))]; exact ez_1456
                refine lv_aload_n hx hb dX10_pathLine_218 rfl (lv_at hl 4 rfl) ?_
                refine t_getr cf_11 hx hb hts hown hK hT h_a (k := 22) (P := fun q => τ q = 72) rfl (fun _ h9 => h9) fl_X10_49 (fun _ h9 => h9) dX10_pathLine_219 (fun q_1461 eq_1461 hq_1461 => ?_)
                have w_1462 : paa = q_1461 := Option.some.inj (e_paa.symm.trans ((hF.r h_a (by decide) rfl _).symm.trans eq_1461))
                subst w_1462
                refine lv_iconst (v := 4) hx hb dX10_pathLine_222 (by decide) ?_
                refine lv_dup2_11 hx hb dX10_pathLine_223 rfl rfl ?_
                refine t_iald (n := 5) (i := 4) rfl (by decide) hx hb hK hT h_paa (hT.len h_paa (by decide)) ⟨by decide, by decide⟩ dX10_pathLine_224 (fun z_1463 ez_1463 rz_1463 => ?_)
                have w_1464 : p4 = z_1463 := k_1458.trans ez_1463.symm
                subst w_1464
                refine lv_iconst (v := 1) hx hb dX10_pathLine_225 (by decide) ?_
                refine lv_iadd hx hb dX10_pathLine_226 ?_
                refine lv_topi (fun z_1465 ez_1465 => ?_)
                have tz_1465 : z_1465.toInt = p4.toInt + 1 := add_t ez_1465 (show -2147483648 ≤ p4.toInt + 1 by omega) (show p4.toInt + 1 < 2147483648 by omega)
                refine t_iast (n := 5) (i := 4) (x := z_1465) rfl (by decide) hx hb hK hT hS h_paa (hT.len h_paa (by decide)) ⟨by decide, by decide⟩ (show 0 ≤ z_1465.toInt ∧ z_1465.toInt ≤ 8 from ⟨by omega, by omega⟩) dX10_pathLine_227 (fun H locs G_1466 eG_1466 hT hS => ?_)
                have hF := hF.wI eG_1466 h_paa rfl
                have eG_1466 : G_1466 = wI G_1457 paa 4 z_1465 := eG_1466
                have k_1468 : tp = G_1466.1 a 6 := by rw [eG_1466, wI_ne (Or.inl (tag_ne h_paa h_a (by decide)))]; exact k_1459
                have k_1469 : z_1456 = G_1466.1 a 7 := by rw [eG_1466, wI_ne (Or.inl (tag_ne h_paa h_a (by decide)))]; exact k_1460
                have k_1470 : z_1465 = G_1466.1 paa 4 := by rw [eG_1466, wI_at]
                exact ret_v hx hb hr hlocks ⟨⟨hS.1, hS.2.1⟩, G_1466, hF, ⟨rfl, ⟨(by first | (show a0.toInt ≤ (G_1466.1 a 7).toInt; rw [← k_1469]; done) | (show a0.toInt ≤ (G_1466.1 a 7).toInt; rw [← k_1469]; show a0.toInt ≤ z_1456.toInt; first | omega | assumption)), (by first | (show (G_1466.1 a 7).toInt ≤ tp.toInt; rw [← k_1469]; done) | (show (G_1466.1 a 7).toInt ≤ tp.toInt; rw [← k_1469]; show z_1456.toInt ≤ tp.toInt; first | omega | assumption)), (k_1468.symm.trans e_tp)⟩⟩, hT⟩ hS.2.2 (Nat.le_of_ble_eq_true rfl) (Nat.le_of_ble_eq_true rfl) dX10_pathLine_228
              · skip
                have tc_1419 : ¬ x1186_3.toInt = 0 := fun h => c_1419 ((fa_eq _ _).mpr h)
                refine lv_aload_n hx hb dX10_pathLine_167 rfl (lv_at hl 4 rfl) ?_
                refine lv_iconst (v := 2) hx hb dX10_pathLine_168 (by decide) ?_
                refine t_callv (runV (As := [.int 2]) (rest := []) ⟨hx, hb, hml, hown, hts⟩ (t_X10_fails l D cy base τ G_1186 a h_a 2 (by decide) tp i1186_6 ⟨by omega, by omega⟩ x1186_at i1186_8 ⟨by omega, by omega⟩ z_1417 ez_1417 z_1303 ez_1303) sV_X10_179 hK (t_recv cf_11 hK hT h_a) ⟨Nat.le_trans hZ hS.1, hT⟩ ⟨Nat.le_of_ble_eq_true rfl, Nat.le_of_ble_eq_true rfl⟩ rfl hl.1 rfl (Nat.le_of_ble_eq_true rfl) dX10_pathLine_169 ⟨Nat.le_of_ble_eq_true rfl, Nat.le_of_ble_eq_true rfl⟩) hS (fun G_1471 H locs hF_1471 hr_1471 hT hS => ?_)
                have hF := hF.tr hF_1471 rfl
                have k_1473 : p4 = G_1471.1 paa 4 := i1186_7.trans (hF_1471.i h_paa (by decide) rfl _).symm
                obtain ⟨hr_1471_p0, hr_1471_s0, hr_1471_s1, hr_1471_s2⟩ := hr_1471
                have k_1477 : tp = G_1471.1 a 6 := i1186_6.trans hr_1471_s0.symm
                have k_1478 : x1186_at = G_1471.1 a 7 := i1186_8.trans hr_1471_s1.symm
                have k_1479 : z_1417 = G_1471.1 a 8 := ez_1417.trans hr_1471_s2.symm
                obtain ⟨z_1480, ez_1480, hr_1471_p0⟩ : ∃ z_1480 : Int32, z_1480 = G_1471.1 a 12 ∧ (z_1480.toInt ≠ 0) := ⟨_, rfl, hr_1471_p0⟩
                refine lv_aload_n hx hb dX10_pathLine_172 rfl (lv_at hl 4 rfl) ?_
                refine t_getr cf_11 hx hb hts hown hK hT h_a (k := 23) (P := fun q => τ q = 73) rfl (fun _ h9 => h9) fl_X10_52 (fun _ h9 => h9) dX10_pathLine_173 (fun q_1481 eq_1481 hq_1481 => ?_)
                have eq_1481 := (hF.r h_a (by decide) rfl _).symm.trans eq_1481
                refine lv_iload_n hx hb dX10_pathLine_176 rfl (lv_at hl 3 rfl) ?_
                refine lv_iload_n hx hb dX10_pathLine_177 rfl (lv_at hl 2 rfl) ?_
                refine t_iast (n := 120) (i := z_6) (x := r_10) rfl (by decide) hx hb hK hT hS hq_1481 (hT.len hq_1481 (by decide)) ⟨by omega, by omega⟩ trivial dX10_pathLine_178 (fun H locs G_1482 eG_1482 hT hS => ?_)
                have hF := hF.wI eG_1482 hq_1481 rfl
                have k_1483 : p4 = G_1482.1 paa 4 := by rw [eG_1482, wI_ne (Or.inl (tag_ne hq_1481 h_paa (by decide)))]; exact k_1473
                have k_1484 : tp = G_1482.1 a 6 := by rw [eG_1482, wI_ne (Or.inl (tag_ne hq_1481 h_a (by decide)))]; exact k_1477
                have k_1485 : x1186_at = G_1482.1 a 7 := by rw [eG_1482, wI_ne (Or.inl (tag_ne hq_1481 h_a (by decide)))]; exact k_1478
                have k_1486 : z_1417 = G_1482.1 a 8 := by rw [eG_1482, wI_ne (Or.inl (tag_ne hq_1481 h_a (by decide)))]; exact k_1479
                have k_1487 : z_1480 = G_1482.1 a 12 := by rw [eG_1482, wI_ne (Or.inl (tag_ne hq_1481 h_a (by decide)))]; exact ez_1480
                refine lv_aload_n hx hb dX10_pathLine_179 rfl (lv_at hl 4 rfl) ?_
                refine t_getr cf_11 hx hb hts hown hK hT h_a (k := 23) (P := fun q => τ q = 73) rfl (fun _ h9 => h9) fl_X10_52 (fun _ h9 => h9) dX10_pathLine_180 (fun q_1488 eq_1488 hq_1488 => ?_)
                have w_1489 : q_1481 = q_1488 := Option.some.inj (eq_1481.symm.trans ((hF.r h_a (by decide) rfl _).symm.trans eq_1488))
                subst w_1489
                refine lv_iload_n hx hb dX10_pathLine_183 rfl (lv_at hl 3 rfl) ?_
                refine lv_iconst (v := 1) hx hb dX10_pathLine_184 (by decide) ?_
                refine lv_iadd hx hb dX10_pathLine_185 ?_
                refine lv_topi (fun z_1490 ez_1490 => ?_)
                have tz_1490 : z_1490.toInt = z_6.toInt + 1 := add_t ez_1490 (show -2147483648 ≤ z_6.toInt + 1 by omega) (show z_6.toInt + 1 < 2147483648 by omega)
                refine lv_aload_n hx hb dX10_pathLine_186 rfl (lv_at hl 4 rfl) ?_
                refine lv_iconst (v := 0) hx hb dX10_pathLine_187 (by decide) ?_
                refine lv_aload_n hx hb dX10_pathLine_188 rfl (lv_at hl 4 rfl) ?_
                refine t_getr cf_11 hx hb hts hown hK hT h_a (k := 20) (P := fun q => τ q = 70) rfl (fun _ h9 => h9) fl_X10_43 (fun _ h9 => h9) dX10_pathLine_189 (fun q_1491 eq_1491 hq_1491 => ?_)
                have w_1492 : q_7 = q_1491 := Option.some.inj (eq_7.symm.trans ((hF.r h_a (by decide) rfl _).symm.trans eq_1491))
                subst w_1492
                refine lv_iconst (v := 4) hx hb dX10_pathLine_192 (by decide) ?_
                refine t_iald (n := 5) (i := 4) rfl (by decide) hx hb hK hT hq_7 (hT.len hq_7 (by decide)) ⟨by decide, by decide⟩ dX10_pathLine_193 (fun z_1493 ez_1493 rz_1493 => ?_)
                have w_1494 : z_8 = z_1493 := ez_8.trans (ez_1493.trans (hF.i hq_7 (by decide) rfl _)).symm
                subst w_1494
                refine lv_iconst (v := 1) hx hb dX10_pathLine_194 (by decide) ?_
                refine lv_isub hx hb dX10_pathLine_195 ?_
                refine lv_topi (fun z_1495 ez_1495 => ?_)
                have w_1496 : z_9 = z_1495 := ez_9.trans ez_1495.symm
                subst w_1496
                refine t_calli (runV (As := [.int 0, .int z_9]) (rest := [.int z_1490, .ref q_1481]) ⟨hx, hb, hml, hown, hts⟩ (t_X10_number l D cy base τ G_1482 a h_a 0 z_9 tp k_1484 ⟨by omega, by omega⟩ x1186_at k_1485 ⟨by omega, by omega⟩ (by show x1186_at.toInt ≤ tp.toInt; first | assumption | omega | decide)) sV_X10_186 hK (t_recv cf_11 hK hT h_a) ⟨Nat.le_trans hZ hS.1, hT⟩ ⟨Nat.le_of_ble_eq_true rfl, Nat.le_of_ble_eq_true rfl⟩ rfl hl.1 rfl (Nat.le_of_ble_eq_true rfl) dX10_pathLine_196 ⟨Nat.le_of_ble_eq_true rfl, Nat.le_of_ble_eq_true rfl⟩) hS (fun r_1497 G_1497 H locs hF_1497 hr_1497 hT hS => ?_)
                have hF := hF.tr hF_1497 rfl
                have k_1498 : p4 = G_1497.1 paa 4 := k_1483.trans (hF_1497.i h_paa (by decide) rfl _).symm
                obtain ⟨hr_1497_p0, hr_1497_p1, hr_1497_p2, hr_1497_s0⟩ := hr_1497
                have k_1503 : tp = G_1497.1 a 6 := k_1484.trans hr_1497_s0.symm
                obtain ⟨z_1504, ez_1504, hr_1497_p0, hr_1497_p1, hr_1497_p2⟩ : ∃ z_1504 : Int32, z_1504 = G_1497.1 a 7 ∧ (x1186_at.toInt ≤ z_1504.toInt) ∧ (z_1504.toInt ≤ tp.toInt) ∧ (r_1497.toInt = (0 : Int) ∨ ((0 : Int) ≤ r_1497.toInt ∧ r_1497.toInt ≤ z_9.toInt)) := ⟨_, rfl, hr_1497_p0, hr_1497_p1, hr_1497_p2⟩
                have rz_1504 : 0 ≤ z_1504.toInt ∧ z_1504.toInt ≤ 1600 := by rw [ez_1504]; exact hT.rgi h_a (by decide) 7
                refine t_iast (n := 120) (i := z_1490) (x := r_1497) rfl (by decide) hx hb hK hT hS hq_1481 (hT.len hq_1481 (by decide)) ⟨by omega, by omega⟩ trivial dX10_pathLine_199 (fun H locs G_1505 eG_1505 hT hS => ?_)
                have hF := hF.wI eG_1505 hq_1481 rfl
                have k_1506 : p4 = G_1505.1 paa 4 := by rw [eG_1505, wI_ne (Or.inl (tag_ne hq_1481 h_paa (by decide)))]; exact k_1498
                have k_1507 : tp = G_1505.1 a 6 := by rw [eG_1505, wI_ne (Or.inl (tag_ne hq_1481 h_a (by decide)))]; exact k_1503
                have k_1508 : z_1504 = G_1505.1 a 7 := by rw [eG_1505, wI_ne (Or.inl (tag_ne hq_1481 h_a (by decide)))]; exact ez_1504
                refine lv_aload_n hx hb dX10_pathLine_200 rfl (lv_at hl 4 rfl) ?_
                refine t_getr cf_11 hx hb hts hown hK hT h_a (k := 23) (P := fun q => τ q = 73) rfl (fun _ h9 => h9) fl_X10_52 (fun _ h9 => h9) dX10_pathLine_201 (fun q_1509 eq_1509 hq_1509 => ?_)
                have w_1510 : q_1481 = q_1509 := Option.some.inj (eq_1481.symm.trans ((hF.r h_a (by decide) rfl _).symm.trans eq_1509))
                subst w_1510
                refine lv_iload_n hx hb dX10_pathLine_204 rfl (lv_at hl 3 rfl) ?_
                refine lv_iconst (v := 2) hx hb dX10_pathLine_205 (by decide) ?_
                refine lv_iadd hx hb dX10_pathLine_206 ?_
                refine lv_topi (fun z_1511 ez_1511 => ?_)
                have tz_1511 : z_1511.toInt = z_6.toInt + 2 := add_t ez_1511 (show -2147483648 ≤ z_6.toInt + 2 by omega) (show z_6.toInt + 2 < 2147483648 by omega)
                refine lv_aload_n hx hb dX10_pathLine_207 rfl (lv_at hl 4 rfl) ?_
                refine lv_ldc2 (v := 80155) hx hb hown (hts _ kl_X10_195) dX10_pathLine_208 ?_
                refine lv_iconst (v := 1) hx hb dX10_pathLine_211 (by decide) ?_
                refine lv_bipush (v := 30) hx hb dX10_pathLine_212 (by decide) ?_
                refine t_calli (runV (As := [.long 80155, .int 1, .int 30]) (rest := [.int z_1511, .ref q_1481]) ⟨hx, hb, hml, hown, hts⟩ (t_X10_number_ l D cy base τ G_1505 a h_a 80155 1 30 tp k_1507 ⟨by omega, by omega⟩ z_1504 k_1508 ⟨by omega, by omega⟩ (by show z_1504.toInt ≤ tp.toInt; first | assumption | omega | decide)) sV_X10_197 hK (t_recv cf_11 hK hT h_a) ⟨Nat.le_trans hZ hS.1, hT⟩ ⟨Nat.le_of_ble_eq_true rfl, Nat.le_of_ble_eq_true rfl⟩ rfl hl.1 rfl (Nat.le_of_ble_eq_true rfl) dX10_pathLine_214 ⟨Nat.le_of_ble_eq_true rfl, Nat.le_of_ble_eq_true rfl⟩) hS (fun r_1512 G_1512 H locs hF_1512 hr_1512 hT hS => ?_)
                have hF := hF.tr hF_1512 rfl
                have k_1513 : p4 = G_1512.1 paa 4 := k_1506.trans (hF_1512.i h_paa (by decide) rfl _).symm
                obtain ⟨hr_1512_p0, hr_1512_p1, hr_1512_p2, hr_1512_s0⟩ := hr_1512
                have k_1516 : tp = G_1512.1 a 6 := k_1507.trans hr_1512_s0.symm
                obtain ⟨z_1517, ez_1517, hr_1512_p0, hr_1512_p1, hr_1512_p2⟩ : ∃ z_1517 : Int32, z_1517 = G_1512.1 a 7 ∧ (z_1504.toInt ≤ z_1517.toInt) ∧ (z_1517.toInt ≤ tp.toInt) ∧ (r_1512.toInt = (1 : Int) ∨ ((1 : Int) ≤ r_1512.toInt ∧ r_1512.toInt ≤ (30 : Int))) := ⟨_, rfl, hr_1512_p0, hr_1512_p1, hr_1512_p2⟩
                have rz_1517 : 0 ≤ z_1517.toInt ∧ z_1517.toInt ≤ 1600 := by rw [ez_1517]; exact hT.rgi h_a (by decide) 7
                refine t_iast (n := 120) (i := z_1511) (x := r_1512) rfl (by decide) hx hb hK hT hS hq_1481 (hT.len hq_1481 (by decide)) ⟨by omega, by omega⟩ trivial dX10_pathLine_217 (fun H locs G_1518 eG_1518 hT hS => ?_)
                have hF := hF.wI eG_1518 hq_1481 rfl
                have k_1519 : p4 = G_1518.1 paa 4 := by rw [eG_1518, wI_ne (Or.inl (tag_ne hq_1481 h_paa (by decide)))]; exact k_1513
                have k_1520 : tp = G_1518.1 a 6 := by rw [eG_1518, wI_ne (Or.inl (tag_ne hq_1481 h_a (by decide)))]; exact k_1516
                have k_1521 : z_1517 = G_1518.1 a 7 := by rw [eG_1518, wI_ne (Or.inl (tag_ne hq_1481 h_a (by decide)))]; exact ez_1517
                refine lv_aload_n hx hb dX10_pathLine_218 rfl (lv_at hl 4 rfl) ?_
                refine t_getr cf_11 hx hb hts hown hK hT h_a (k := 22) (P := fun q => τ q = 72) rfl (fun _ h9 => h9) fl_X10_49 (fun _ h9 => h9) dX10_pathLine_219 (fun q_1522 eq_1522 hq_1522 => ?_)
                have w_1523 : paa = q_1522 := Option.some.inj (e_paa.symm.trans ((hF.r h_a (by decide) rfl _).symm.trans eq_1522))
                subst w_1523
                refine lv_iconst (v := 4) hx hb dX10_pathLine_222 (by decide) ?_
                refine lv_dup2_11 hx hb dX10_pathLine_223 rfl rfl ?_
                refine t_iald (n := 5) (i := 4) rfl (by decide) hx hb hK hT h_paa (hT.len h_paa (by decide)) ⟨by decide, by decide⟩ dX10_pathLine_224 (fun z_1524 ez_1524 rz_1524 => ?_)
                have w_1525 : p4 = z_1524 := k_1519.trans ez_1524.symm
                subst w_1525
                refine lv_iconst (v := 1) hx hb dX10_pathLine_225 (by decide) ?_
                refine lv_iadd hx hb dX10_pathLine_226 ?_
                refine lv_topi (fun z_1526 ez_1526 => ?_)
                have tz_1526 : z_1526.toInt = p4.toInt + 1 := add_t ez_1526 (show -2147483648 ≤ p4.toInt + 1 by omega) (show p4.toInt + 1 < 2147483648 by omega)
                refine t_iast (n := 5) (i := 4) (x := z_1526) rfl (by decide) hx hb hK hT hS h_paa (hT.len h_paa (by decide)) ⟨by decide, by decide⟩ (show 0 ≤ z_1526.toInt ∧ z_1526.toInt ≤ 8 from ⟨by omega, by omega⟩) dX10_pathLine_227 (fun H locs G_1527 eG_1527 hT hS => ?_)
                have hF := hF.wI eG_1527 h_paa rfl
                have eG_1527 : G_1527 = wI G_1518 paa 4 z_1526 := eG_1527
                have k_1529 : tp = G_1527.1 a 6 := by rw [eG_1527, wI_ne (Or.inl (tag_ne h_paa h_a (by decide)))]; exact k_1520
                have k_1530 : z_1517 = G_1527.1 a 7 := by rw [eG_1527, wI_ne (Or.inl (tag_ne h_paa h_a (by decide)))]; exact k_1521
                have k_1531 : z_1526 = G_1527.1 paa 4 := by rw [eG_1527, wI_at]
                exact ret_v hx hb hr hlocks ⟨⟨hS.1, hS.2.1⟩, G_1527, hF, ⟨rfl, ⟨(by first | (show a0.toInt ≤ (G_1527.1 a 7).toInt; rw [← k_1530]; done) | (show a0.toInt ≤ (G_1527.1 a 7).toInt; rw [← k_1530]; show a0.toInt ≤ z_1517.toInt; first | omega | assumption)), (by first | (show (G_1527.1 a 7).toInt ≤ tp.toInt; rw [← k_1530]; done) | (show (G_1527.1 a 7).toInt ≤ tp.toInt; rw [← k_1530]; show z_1517.toInt ≤ tp.toInt; first | omega | assumption)), (k_1529.symm.trans e_tp)⟩⟩, hT⟩ hS.2.2 (Nat.le_of_ble_eq_true rfl) (Nat.le_of_ble_eq_true rfl) dX10_pathLine_228
            · skip
              have tc_1418 : z_1417.toInt = 2 := (fa_eq _ _).mp c_1418
              refine lv_iconst (v := 3) hx hb dX10_pathLine_84 (by decide) ?_
              refine lv_bipush (v := 32) hx hb dX10_pathLine_85 (by decide) ?_
              refine lv_iload hx hb dX10_pathLine_87 (lv_at hl 1 rfl) ?_
              refine lv_iadd hx hb dX10_pathLine_89 ?_
              refine lv_topi (fun z_1532 ez_1532 => ?_)
              have tz_1532 : z_1532.toInt = 32 + x1186_4.toInt := add_t ez_1532 (show -2147483648 ≤ 32 + x1186_4.toInt by omega) (show 32 + x1186_4.toInt < 2147483648 by omega)
              refine lv_imul hx hb dX10_pathLine_90 ?_
              refine lv_topi (fun z_1533 ez_1533 => ?_)
              have tz_1533 : z_1533.toInt = 3 * z_1532.toInt := mul_t ez_1533 (show -2147483648 ≤ 3 * z_1532.toInt by omega) (show 3 * z_1532.toInt < 2147483648 by omega)
              refine lv_istore (lv' := [(5, .int z_1533), (3, .int x1186_3), (4, .int x1186_4), (2, .int r_10), (1, .int z_6), (0, .ref a)]) hx hb dX10_pathLine_91 hl (by decide) rfl (fun ls hl => ?_)
              refine lv_iload_n hx hb dX10_pathLine_93 rfl (lv_at hl 1 rfl) ?_
              refine lv_if_ne (tgt := 151) hx hb dX10_pathLine_94 (by decide) (fun c_1534 => ?_) (fun c_1534 => ?_)
              · skip
                have tc_1534 : ¬ x1186_3.toInt = 0 := fun h => c_1534 ((fa_eq _ _).mpr h)
                refine lv_iconst (v := 1) hx hb dX10_pathLine_151 (by decide) ?_
                refine lv_goto (tgt := 156) hx hb dX10_pathLine_152 (by decide) ?_
                refine lv_istore_n (lv' := [(3, .int 1), (5, .int z_1533), (4, .int x1186_4), (2, .int r_10), (1, .int z_6), (0, .ref a)]) hx hb dX10_pathLine_156 rfl hl (by decide) rfl (fun ls hl => ?_)
                obtain ⟨z_1535, ez_1535⟩ : ∃ y : Int32, y = x1186_4 + 1 := ⟨_, rfl⟩
                have tz_1535 : z_1535.toInt = x1186_4.toInt + 1 := add_t ez_1535 (show -2147483648 ≤ x1186_4.toInt + 1 by omega) (show x1186_4.toInt + 1 < 2147483648 by omega)
                refine lv_iinc (v := z_1535) (lv' := [(4, .int z_1535), (3, .int 1), (5, .int z_1533), (2, .int r_10), (1, .int z_6), (0, .ref a)]) hx hb dX10_pathLine_157 hl (k := 2) rfl (by rw [ez_1535]; rfl) (by decide) rfl (fun ls hl => ?_)
                refine lv_goto (tgt := 58) hx hb dX10_pathLine_160 (by decide) ?_
                exact ih1186 ((1 : Int32), z_1535, x1186_at, G_1186) _ _ _ (by show (8 - z_1535.toInt).toNat < (8 - x1186_4.toInt).toNat; omega) ⟨(by show 0 ≤ z_1535.toInt; omega), (by show z_1535.toInt ≤ 8; omega), (by show 0 ≤ x1186_at.toInt; omega), (by show x1186_at.toInt ≤ 1600; omega), by show a0.toInt ≤ x1186_at.toInt; first | omega | assumption, by show x1186_at.toInt ≤ tp.toInt; first | omega | assumption, (show tp = G_1186.1 a 6 from by first | exact i1186_6 | omega), (show p4 = G_1186.1 paa 4 from by first | exact i1186_7 | omega), i1186_8, hF, hT, hS, lv_sub hl [1, 0, 3, 4, 5] rfl⟩
              · skip
                have tc_1534 : x1186_3.toInt = 0 := (fa_eq _ _).mp c_1534
                refine lv_aload_n hx hb dX10_pathLine_97 rfl (lv_at hl 5 rfl) ?_
                refine t_getr cf_11 hx hb hts hown hK hT h_a (k := 23) (P := fun q => τ q = 73) rfl (fun _ h9 => h9) fl_X10_52 (fun _ h9 => h9) dX10_pathLine_98 (fun q_1536 eq_1536 hq_1536 => ?_)
                have eq_1536 := (hF.r h_a (by decide) rfl _).symm.trans eq_1536
                refine lv_iload hx hb dX10_pathLine_101 (lv_at hl 0 rfl) ?_
                refine t_iald (n := 120) (i := z_1533) rfl (by decide) hx hb hK hT hq_1536 (hT.len hq_1536 (by decide)) ⟨by omega, by omega⟩ dX10_pathLine_103 (fun z_1537 ez_1537 rz_1537 => ?_)
                refine lv_iload_n hx hb dX10_pathLine_104 rfl (lv_at hl 3 rfl) ?_
                refine lv_icmp_ne (tgt := 124) hx hb dX10_pathLine_105 (by decide) (fun c_1538 => ?_) (fun c_1538 => ?_)
                · skip
                  have tc_1538 : ¬ z_1537.toInt = r_10.toInt := fun h => c_1538 ((fa_eq _ _).mpr h)
                  refine lv_aload_n hx hb dX10_pathLine_124 rfl (lv_at hl 5 rfl) ?_
                  refine t_getr cf_11 hx hb hts hown hK hT h_a (k := 23) (P := fun q => τ q = 73) rfl (fun _ h9 => h9) fl_X10_52 (fun _ h9 => h9) dX10_pathLine_125 (fun q_1539 eq_1539 hq_1539 => ?_)
                  have w_1540 : q_1536 = q_1539 := Option.some.inj (eq_1536.symm.trans ((hF.r h_a (by decide) rfl _).symm.trans eq_1539))
                  subst w_1540
                  refine lv_iload hx hb dX10_pathLine_128 (lv_at hl 0 rfl) ?_
                  refine t_iald (n := 120) (i := z_1533) rfl (by decide) hx hb hK hT hq_1536 (hT.len hq_1536 (by decide)) ⟨by omega, by omega⟩ dX10_pathLine_130 (fun z_1541 ez_1541 rz_1541 => ?_)
                  refine lv_aload_n hx hb dX10_pathLine_131 rfl (lv_at hl 5 rfl) ?_
                  refine t_geti cf_11 hx hb hts hown hK hT h_a (k := 10) rfl fl_X10_145 (fun _ h9 => h9) dX10_pathLine_132 (fun z_1542 ez_1542 rz_1542 => ?_)
                  have ez_1542 : z_1542 = G_1186.1 a 10 := ez_1542
                  refine lv_icmp_ne (tgt := 155) hx hb dX10_pathLine_135 (by decide) (fun c_1543 => ?_) (fun c_1543 => ?_)
                  · skip
                    have tc_1543 : ¬ z_1541.toInt = z_1542.toInt := fun h => c_1543 ((fa_eq _ _).mpr h)
                    refine lv_iconst (v := 0) hx hb dX10_pathLine_155 (by decide) ?_
                    refine lv_istore_n (lv' := [(3, .int 0), (5, .int z_1533), (4, .int x1186_4), (2, .int r_10), (1, .int z_6), (0, .ref a)]) hx hb dX10_pathLine_156 rfl hl (by decide) rfl (fun ls hl => ?_)
                    obtain ⟨z_1544, ez_1544⟩ : ∃ y : Int32, y = x1186_4 + 1 := ⟨_, rfl⟩
                    have tz_1544 : z_1544.toInt = x1186_4.toInt + 1 := add_t ez_1544 (show -2147483648 ≤ x1186_4.toInt + 1 by omega) (show x1186_4.toInt + 1 < 2147483648 by omega)
                    refine lv_iinc (v := z_1544) (lv' := [(4, .int z_1544), (3, .int 0), (5, .int z_1533), (2, .int r_10), (1, .int z_6), (0, .ref a)]) hx hb dX10_pathLine_157 hl (k := 2) rfl (by rw [ez_1544]; rfl) (by decide) rfl (fun ls hl => ?_)
                    refine lv_goto (tgt := 58) hx hb dX10_pathLine_160 (by decide) ?_
                    exact ih1186 ((0 : Int32), z_1544, x1186_at, G_1186) _ _ _ (by show (8 - z_1544.toInt).toNat < (8 - x1186_4.toInt).toNat; omega) ⟨(by show 0 ≤ z_1544.toInt; omega), (by show z_1544.toInt ≤ 8; omega), (by show 0 ≤ x1186_at.toInt; omega), (by show x1186_at.toInt ≤ 1600; omega), by show a0.toInt ≤ x1186_at.toInt; first | omega | assumption, by show x1186_at.toInt ≤ tp.toInt; first | omega | assumption, (show tp = G_1186.1 a 6 from by first | exact i1186_6 | omega), (show p4 = G_1186.1 paa 4 from by first | exact i1186_7 | omega), i1186_8, hF, hT, hS, lv_sub hl [1, 0, 3, 4, 5] rfl⟩
                  · skip
                    have tc_1543 : z_1541.toInt = z_1542.toInt := (fa_eq _ _).mp c_1543
                    refine lv_aload_n hx hb dX10_pathLine_138 rfl (lv_at hl 5 rfl) ?_
                    refine t_getr cf_11 hx hb hts hown hK hT h_a (k := 23) (P := fun q => τ q = 73) rfl (fun _ h9 => h9) fl_X10_52 (fun _ h9 => h9) dX10_pathLine_139 (fun q_1545 eq_1545 hq_1545 => ?_)
                    have w_1546 : q_1536 = q_1545 := Option.some.inj (eq_1536.symm.trans ((hF.r h_a (by decide) rfl _).symm.trans eq_1545))
                    subst w_1546
                    refine lv_iload hx hb dX10_pathLine_142 (lv_at hl 0 rfl) ?_
                    refine lv_iconst (v := 1) hx hb dX10_pathLine_144 (by decide) ?_
                    refine lv_iadd hx hb dX10_pathLine_145 ?_
                    refine lv_topi (fun z_1547 ez_1547 => ?_)
                    have tz_1547 : z_1547.toInt = z_1533.toInt + 1 := add_t ez_1547 (show -2147483648 ≤ z_1533.toInt + 1 by omega) (show z_1533.toInt + 1 < 2147483648 by omega)
                    refine t_iald (n := 120) (i := z_1547) rfl (by decide) hx hb hK hT hq_1536 (hT.len hq_1536 (by decide)) ⟨by omega, by omega⟩ dX10_pathLine_146 (fun z_1548 ez_1548 rz_1548 => ?_)
                    refine lv_iload_n hx hb dX10_pathLine_147 rfl (lv_at hl 3 rfl) ?_
                    refine lv_icmp_ne (tgt := 155) hx hb dX10_pathLine_148 (by decide) (fun c_1549 => ?_) (fun c_1549 => ?_)
                    · skip
                      have tc_1549 : ¬ z_1548.toInt = r_10.toInt := fun h => c_1549 ((fa_eq _ _).mpr h)
                      refine lv_iconst (v := 0) hx hb dX10_pathLine_155 (by decide) ?_
                      refine lv_istore_n (lv' := [(3, .int 0), (5, .int z_1533), (4, .int x1186_4), (2, .int r_10), (1, .int z_6), (0, .ref a)]) hx hb dX10_pathLine_156 rfl hl (by decide) rfl (fun ls hl => ?_)
                      obtain ⟨z_1550, ez_1550⟩ : ∃ y : Int32, y = x1186_4 + 1 := ⟨_, rfl⟩
                      have tz_1550 : z_1550.toInt = x1186_4.toInt + 1 := add_t ez_1550 (show -2147483648 ≤ x1186_4.toInt + 1 by omega) (show x1186_4.toInt + 1 < 2147483648 by omega)
                      refine lv_iinc (v := z_1550) (lv' := [(4, .int z_1550), (3, .int 0), (5, .int z_1533), (2, .int r_10), (1, .int z_6), (0, .ref a)]) hx hb dX10_pathLine_157 hl (k := 2) rfl (by rw [ez_1550]; rfl) (by decide) rfl (fun ls hl => ?_)
                      refine lv_goto (tgt := 58) hx hb dX10_pathLine_160 (by decide) ?_
                      exact ih1186 ((0 : Int32), z_1550, x1186_at, G_1186) _ _ _ (by show (8 - z_1550.toInt).toNat < (8 - x1186_4.toInt).toNat; omega) ⟨(by show 0 ≤ z_1550.toInt; omega), (by show z_1550.toInt ≤ 8; omega), (by show 0 ≤ x1186_at.toInt; omega), (by show x1186_at.toInt ≤ 1600; omega), by show a0.toInt ≤ x1186_at.toInt; first | omega | assumption, by show x1186_at.toInt ≤ tp.toInt; first | omega | assumption, (show tp = G_1186.1 a 6 from by first | exact i1186_6 | omega), (show p4 = G_1186.1 paa 4 from by first | exact i1186_7 | omega), i1186_8, hF, hT, hS, lv_sub hl [1, 0, 3, 4, 5] rfl⟩
                    · skip
                      have tc_1549 : z_1548.toInt = r_10.toInt := (fa_eq _ _).mp c_1549
                      refine lv_iconst (v := 1) hx hb dX10_pathLine_151 (by decide) ?_
                      refine lv_goto (tgt := 156) hx hb dX10_pathLine_152 (by decide) ?_
                      refine lv_istore_n (lv' := [(3, .int 1), (5, .int z_1533), (4, .int x1186_4), (2, .int r_10), (1, .int z_6), (0, .ref a)]) hx hb dX10_pathLine_156 rfl hl (by decide) rfl (fun ls hl => ?_)
                      obtain ⟨z_1551, ez_1551⟩ : ∃ y : Int32, y = x1186_4 + 1 := ⟨_, rfl⟩
                      have tz_1551 : z_1551.toInt = x1186_4.toInt + 1 := add_t ez_1551 (show -2147483648 ≤ x1186_4.toInt + 1 by omega) (show x1186_4.toInt + 1 < 2147483648 by omega)
                      refine lv_iinc (v := z_1551) (lv' := [(4, .int z_1551), (3, .int 1), (5, .int z_1533), (2, .int r_10), (1, .int z_6), (0, .ref a)]) hx hb dX10_pathLine_157 hl (k := 2) rfl (by rw [ez_1551]; rfl) (by decide) rfl (fun ls hl => ?_)
                      refine lv_goto (tgt := 58) hx hb dX10_pathLine_160 (by decide) ?_
                      exact ih1186 ((1 : Int32), z_1551, x1186_at, G_1186) _ _ _ (by show (8 - z_1551.toInt).toNat < (8 - x1186_4.toInt).toNat; omega) ⟨(by show 0 ≤ z_1551.toInt; omega), (by show z_1551.toInt ≤ 8; omega), (by show 0 ≤ x1186_at.toInt; omega), (by show x1186_at.toInt ≤ 1600; omega), by show a0.toInt ≤ x1186_at.toInt; first | omega | assumption, by show x1186_at.toInt ≤ tp.toInt; first | omega | assumption, (show tp = G_1186.1 a 6 from by first | exact i1186_6 | omega), (show p4 = G_1186.1 paa 4 from by first | exact i1186_7 | omega), i1186_8, hF, hT, hS, lv_sub hl [1, 0, 3, 4, 5] rfl⟩
                · skip
                  have tc_1538 : z_1537.toInt = r_10.toInt := (fa_eq _ _).mp c_1538
                  refine lv_aload_n hx hb dX10_pathLine_108 rfl (lv_at hl 5 rfl) ?_
                  refine t_getr cf_11 hx hb hts hown hK hT h_a (k := 23) (P := fun q => τ q = 73) rfl (fun _ h9 => h9) fl_X10_52 (fun _ h9 => h9) dX10_pathLine_109 (fun q_1552 eq_1552 hq_1552 => ?_)
                  have w_1553 : q_1536 = q_1552 := Option.some.inj (eq_1536.symm.trans ((hF.r h_a (by decide) rfl _).symm.trans eq_1552))
                  subst w_1553
                  refine lv_iload hx hb dX10_pathLine_112 (lv_at hl 0 rfl) ?_
                  refine lv_iconst (v := 1) hx hb dX10_pathLine_114 (by decide) ?_
                  refine lv_iadd hx hb dX10_pathLine_115 ?_
                  refine lv_topi (fun z_1554 ez_1554 => ?_)
                  have tz_1554 : z_1554.toInt = z_1533.toInt + 1 := add_t ez_1554 (show -2147483648 ≤ z_1533.toInt + 1 by omega) (show z_1533.toInt + 1 < 2147483648 by omega)
                  refine t_iald (n := 120) (i := z_1554) rfl (by decide) hx hb hK hT hq_1536 (hT.len hq_1536 (by decide)) ⟨by omega, by omega⟩ dX10_pathLine_116 (fun z_1555 ez_1555 rz_1555 => ?_)
                  refine lv_aload_n hx hb dX10_pathLine_117 rfl (lv_at hl 5 rfl) ?_
                  refine t_geti cf_11 hx hb hts hown hK hT h_a (k := 10) rfl fl_X10_145 (fun _ h9 => h9) dX10_pathLine_118 (fun z_1556 ez_1556 rz_1556 => ?_)
                  have ez_1556 : z_1556 = G_1186.1 a 10 := ez_1556
                  refine lv_icmp_eq (tgt := 151) hx hb dX10_pathLine_121 (by decide) (fun c_1557 => ?_) (fun c_1557 => ?_)
                  · skip
                    have tc_1557 : z_1555.toInt = z_1556.toInt := (fa_eq _ _).mp c_1557
                    refine lv_iconst (v := 1) hx hb dX10_pathLine_151 (by decide) ?_
                    refine lv_goto (tgt := 156) hx hb dX10_pathLine_152 (by decide) ?_
                    refine lv_istore_n (lv' := [(3, .int 1), (5, .int z_1533), (4, .int x1186_4), (2, .int r_10), (1, .int z_6), (0, .ref a)]) hx hb dX10_pathLine_156 rfl hl (by decide) rfl (fun ls hl => ?_)
                    obtain ⟨z_1558, ez_1558⟩ : ∃ y : Int32, y = x1186_4 + 1 := ⟨_, rfl⟩
                    have tz_1558 : z_1558.toInt = x1186_4.toInt + 1 := add_t ez_1558 (show -2147483648 ≤ x1186_4.toInt + 1 by omega) (show x1186_4.toInt + 1 < 2147483648 by omega)
                    refine lv_iinc (v := z_1558) (lv' := [(4, .int z_1558), (3, .int 1), (5, .int z_1533), (2, .int r_10), (1, .int z_6), (0, .ref a)]) hx hb dX10_pathLine_157 hl (k := 2) rfl (by rw [ez_1558]; rfl) (by decide) rfl (fun ls hl => ?_)
                    refine lv_goto (tgt := 58) hx hb dX10_pathLine_160 (by decide) ?_
                    exact ih1186 ((1 : Int32), z_1558, x1186_at, G_1186) _ _ _ (by show (8 - z_1558.toInt).toNat < (8 - x1186_4.toInt).toNat; omega) ⟨(by show 0 ≤ z_1558.toInt; omega), (by show z_1558.toInt ≤ 8; omega), (by show 0 ≤ x1186_at.toInt; omega), (by show x1186_at.toInt ≤ 1600; omega), by show a0.toInt ≤ x1186_at.toInt; first | omega | assumption, by show x1186_at.toInt ≤ tp.toInt; first | omega | assumption, (show tp = G_1186.1 a 6 from by first | exact i1186_6 | omega), (show p4 = G_1186.1 paa 4 from by first | exact i1186_7 | omega), i1186_8, hF, hT, hS, lv_sub hl [1, 0, 3, 4, 5] rfl⟩
                  · skip
                    have tc_1557 : ¬ z_1555.toInt = z_1556.toInt := fun h => c_1557 ((fa_eq _ _).mpr h)
                    refine lv_aload_n hx hb dX10_pathLine_124 rfl (lv_at hl 5 rfl) ?_
                    refine t_getr cf_11 hx hb hts hown hK hT h_a (k := 23) (P := fun q => τ q = 73) rfl (fun _ h9 => h9) fl_X10_52 (fun _ h9 => h9) dX10_pathLine_125 (fun q_1559 eq_1559 hq_1559 => ?_)
                    have w_1560 : q_1536 = q_1559 := Option.some.inj (eq_1536.symm.trans ((hF.r h_a (by decide) rfl _).symm.trans eq_1559))
                    subst w_1560
                    refine lv_iload hx hb dX10_pathLine_128 (lv_at hl 0 rfl) ?_
                    refine t_iald (n := 120) (i := z_1533) rfl (by decide) hx hb hK hT hq_1536 (hT.len hq_1536 (by decide)) ⟨by omega, by omega⟩ dX10_pathLine_130 (fun z_1561 ez_1561 rz_1561 => ?_)
                    refine lv_aload_n hx hb dX10_pathLine_131 rfl (lv_at hl 5 rfl) ?_
                    refine t_geti cf_11 hx hb hts hown hK hT h_a (k := 10) rfl fl_X10_145 (fun _ h9 => h9) dX10_pathLine_132 (fun z_1562 ez_1562 rz_1562 => ?_)
                    have w_1563 : z_1556 = z_1562 := ez_1556.trans ez_1562.symm
                    subst w_1563
                    refine lv_icmp_ne (tgt := 155) hx hb dX10_pathLine_135 (by decide) (fun c_1564 => ?_) (fun c_1564 => ?_)
                    · skip
                      have tc_1564 : ¬ z_1561.toInt = z_1556.toInt := fun h => c_1564 ((fa_eq _ _).mpr h)
                      refine lv_iconst (v := 0) hx hb dX10_pathLine_155 (by decide) ?_
                      refine lv_istore_n (lv' := [(3, .int 0), (5, .int z_1533), (4, .int x1186_4), (2, .int r_10), (1, .int z_6), (0, .ref a)]) hx hb dX10_pathLine_156 rfl hl (by decide) rfl (fun ls hl => ?_)
                      obtain ⟨z_1565, ez_1565⟩ : ∃ y : Int32, y = x1186_4 + 1 := ⟨_, rfl⟩
                      have tz_1565 : z_1565.toInt = x1186_4.toInt + 1 := add_t ez_1565 (show -2147483648 ≤ x1186_4.toInt + 1 by omega) (show x1186_4.toInt + 1 < 2147483648 by omega)
                      refine lv_iinc (v := z_1565) (lv' := [(4, .int z_1565), (3, .int 0), (5, .int z_1533), (2, .int r_10), (1, .int z_6), (0, .ref a)]) hx hb dX10_pathLine_157 hl (k := 2) rfl (by rw [ez_1565]; rfl) (by decide) rfl (fun ls hl => ?_)
                      refine lv_goto (tgt := 58) hx hb dX10_pathLine_160 (by decide) ?_
                      exact ih1186 ((0 : Int32), z_1565, x1186_at, G_1186) _ _ _ (by show (8 - z_1565.toInt).toNat < (8 - x1186_4.toInt).toNat; omega) ⟨(by show 0 ≤ z_1565.toInt; omega), (by show z_1565.toInt ≤ 8; omega), (by show 0 ≤ x1186_at.toInt; omega), (by show x1186_at.toInt ≤ 1600; omega), by show a0.toInt ≤ x1186_at.toInt; first | omega | assumption, by show x1186_at.toInt ≤ tp.toInt; first | omega | assumption, (show tp = G_1186.1 a 6 from by first | exact i1186_6 | omega), (show p4 = G_1186.1 paa 4 from by first | exact i1186_7 | omega), i1186_8, hF, hT, hS, lv_sub hl [1, 0, 3, 4, 5] rfl⟩
                    · skip
                      have tc_1564 : z_1561.toInt = z_1556.toInt := (fa_eq _ _).mp c_1564
                      refine lv_aload_n hx hb dX10_pathLine_138 rfl (lv_at hl 5 rfl) ?_
                      refine t_getr cf_11 hx hb hts hown hK hT h_a (k := 23) (P := fun q => τ q = 73) rfl (fun _ h9 => h9) fl_X10_52 (fun _ h9 => h9) dX10_pathLine_139 (fun q_1566 eq_1566 hq_1566 => ?_)
                      have w_1567 : q_1536 = q_1566 := Option.some.inj (eq_1536.symm.trans ((hF.r h_a (by decide) rfl _).symm.trans eq_1566))
                      subst w_1567
                      refine lv_iload hx hb dX10_pathLine_142 (lv_at hl 0 rfl) ?_
                      refine lv_iconst (v := 1) hx hb dX10_pathLine_144 (by decide) ?_
                      refine lv_iadd hx hb dX10_pathLine_145 ?_
                      refine lv_topi (fun z_1568 ez_1568 => ?_)
                      have w_1569 : z_1554 = z_1568 := ez_1554.trans ez_1568.symm
                      subst w_1569
                      refine t_iald (n := 120) (i := z_1554) rfl (by decide) hx hb hK hT hq_1536 (hT.len hq_1536 (by decide)) ⟨by omega, by omega⟩ dX10_pathLine_146 (fun z_1570 ez_1570 rz_1570 => ?_)
                      refine lv_iload_n hx hb dX10_pathLine_147 rfl (lv_at hl 3 rfl) ?_
                      refine lv_icmp_ne (tgt := 155) hx hb dX10_pathLine_148 (by decide) (fun c_1571 => ?_) (fun c_1571 => ?_)
                      · skip
                        have tc_1571 : ¬ z_1570.toInt = r_10.toInt := fun h => c_1571 ((fa_eq _ _).mpr h)
                        refine lv_iconst (v := 0) hx hb dX10_pathLine_155 (by decide) ?_
                        refine lv_istore_n (lv' := [(3, .int 0), (5, .int z_1533), (4, .int x1186_4), (2, .int r_10), (1, .int z_6), (0, .ref a)]) hx hb dX10_pathLine_156 rfl hl (by decide) rfl (fun ls hl => ?_)
                        obtain ⟨z_1572, ez_1572⟩ : ∃ y : Int32, y = x1186_4 + 1 := ⟨_, rfl⟩
                        have tz_1572 : z_1572.toInt = x1186_4.toInt + 1 := add_t ez_1572 (show -2147483648 ≤ x1186_4.toInt + 1 by omega) (show x1186_4.toInt + 1 < 2147483648 by omega)
                        refine lv_iinc (v := z_1572) (lv' := [(4, .int z_1572), (3, .int 0), (5, .int z_1533), (2, .int r_10), (1, .int z_6), (0, .ref a)]) hx hb dX10_pathLine_157 hl (k := 2) rfl (by rw [ez_1572]; rfl) (by decide) rfl (fun ls hl => ?_)
                        refine lv_goto (tgt := 58) hx hb dX10_pathLine_160 (by decide) ?_
                        exact ih1186 ((0 : Int32), z_1572, x1186_at, G_1186) _ _ _ (by show (8 - z_1572.toInt).toNat < (8 - x1186_4.toInt).toNat; omega) ⟨(by show 0 ≤ z_1572.toInt; omega), (by show z_1572.toInt ≤ 8; omega), (by show 0 ≤ x1186_at.toInt; omega), (by show x1186_at.toInt ≤ 1600; omega), by show a0.toInt ≤ x1186_at.toInt; first | omega | assumption, by show x1186_at.toInt ≤ tp.toInt; first | omega | assumption, (show tp = G_1186.1 a 6 from by first | exact i1186_6 | omega), (show p4 = G_1186.1 paa 4 from by first | exact i1186_7 | omega), i1186_8, hF, hT, hS, lv_sub hl [1, 0, 3, 4, 5] rfl⟩
                      · skip
                        have tc_1571 : z_1570.toInt = r_10.toInt := (fa_eq _ _).mp c_1571
                        refine lv_iconst (v := 1) hx hb dX10_pathLine_151 (by decide) ?_
                        refine lv_goto (tgt := 156) hx hb dX10_pathLine_152 (by decide) ?_
                        refine lv_istore_n (lv' := [(3, .int 1), (5, .int z_1533), (4, .int x1186_4), (2, .int r_10), (1, .int z_6), (0, .ref a)]) hx hb dX10_pathLine_156 rfl hl (by decide) rfl (fun ls hl => ?_)
                        obtain ⟨z_1573, ez_1573⟩ : ∃ y : Int32, y = x1186_4 + 1 := ⟨_, rfl⟩
                        have tz_1573 : z_1573.toInt = x1186_4.toInt + 1 := add_t ez_1573 (show -2147483648 ≤ x1186_4.toInt + 1 by omega) (show x1186_4.toInt + 1 < 2147483648 by omega)
                        refine lv_iinc (v := z_1573) (lv' := [(4, .int z_1573), (3, .int 1), (5, .int z_1533), (2, .int r_10), (1, .int z_6), (0, .ref a)]) hx hb dX10_pathLine_157 hl (k := 2) rfl (by rw [ez_1573]; rfl) (by decide) rfl (fun ls hl => ?_)
                        refine lv_goto (tgt := 58) hx hb dX10_pathLine_160 (by decide) ?_
                        exact ih1186 ((1 : Int32), z_1573, x1186_at, G_1186) _ _ _ (by show (8 - z_1573.toInt).toNat < (8 - x1186_4.toInt).toNat; omega) ⟨(by show 0 ≤ z_1573.toInt; omega), (by show z_1573.toInt ≤ 8; omega), (by show 0 ≤ x1186_at.toInt; omega), (by show x1186_at.toInt ≤ 1600; omega), by show a0.toInt ≤ x1186_at.toInt; first | omega | assumption, by show x1186_at.toInt ≤ tp.toInt; first | omega | assumption, (show tp = G_1186.1 a 6 from by first | exact i1186_6 | omega), (show p4 = G_1186.1 paa 4 from by first | exact i1186_7 | omega), i1186_8, hF, hT, hS, lv_sub hl [1, 0, 3, 4, 5] rfl⟩
set_option maxHeartbeats 4000000 in
set_option maxRecDepth 100000 in
theorem t_X10_onceLine (l : Launch) (D : va_G) (cy : Nat → ClassId) (base : Nat) (τ : Nat → Nat) (G : Gh) (a : Nat) (h_a : τ a = 11) (k : Int32) (r_k : 0 ≤ k.toInt ∧ k.toInt ≤ 2) (sa : Nat) (h_sa : τ sa = 74) (e_sa : G.2.2.1 a 24 = some sa) (tp : Int32) (e_tp : tp = G.1 a 6) (r_tp : 0 ≤ tp.toInt ∧ tp.toInt ≤ 1600) (a0 : Int32) (e_a0 : a0 = G.1 a 7) (r_a0 : 0 ≤ a0.toInt ∧ a0.toInt ≤ 1600) (sc : Int32) (e_sc : sc = G.1 sa 25) (r_sc : 1 ≤ sc.toInt ∧ sc.toInt ≤ 50) (hat : a0.toInt ≤ tp.toInt) : MM l yX10_onceLine cX10_onceLine 3 none 5 0 0 D cy [.ref a, .int k] (PT D cy base τ G) (QT D cy base τ G [11, 74, 75] (fun v g => v = none ∧ ((a0.toInt ≤ (g.1 a 7).toInt) ∧ ((g.1 a 7).toInt ≤ tp.toInt) ∧ (1 ≤ (g.1 sa 25).toInt) ∧ g.1 a 6 = G.1 a 6 ∧ (∀ j : Nat, j < 24 → g.1 sa j = G.1 sa j)))) (RA base) := by
  refine MM.of (by decide) (Nat.le_of_ble_eq_true rfl) ?_
  intro p e s m below meth c C hPT ls hl
  obtain ⟨hx, hb, hr, hml, hown, hts, hlocks, hK, hnm⟩ := C
  obtain ⟨hZ, hT⟩ := hPT
  have hS : va_S (RA base) s.heap s.heap [] := va_S.rf
  have hF : Fr τ [11, 74, 75] G G := Fr.rf
  have kx0 : ∀ j : Nat, j < 24 → G.1 sa j = G.1 sa j := fun _ _ => rfl
  have hl : lv_has ls 3 [(0, .ref a), (1, .int k)] := hl
  refine lv_aload_n hx hb dX10_onceLine_0 rfl (lv_at hl 0 rfl) ?_
  refine t_getr cf_11 hx hb hts hown hK hT h_a (k := 25) (P := fun q => τ q = 75) rfl (fun _ h9 => h9) fl_X10_58 (fun _ h9 => h9) dX10_onceLine_1 (fun q_1 eq_1 hq_1 => ?_)
  refine lv_bipush (v := 12) hx hb dX10_onceLine_4 (by decide) ?_
  refine lv_iload_n hx hb dX10_onceLine_6 rfl (lv_at hl 1 rfl) ?_
  refine lv_iadd hx hb dX10_onceLine_7 ?_
  refine lv_topi (fun z_2 ez_2 => ?_)
  have tz_2 : z_2.toInt = 12 + k.toInt := add_t ez_2 (show -2147483648 ≤ 12 + k.toInt by omega) (show 12 + k.toInt < 2147483648 by omega)
  refine t_zald (n := 15) (i := z_2) rfl (by decide) hx hb hK hT hq_1 (hT.len hq_1 (by decide)) ⟨by omega, by omega⟩ dX10_onceLine_8 (fun z_3 ez_3 rz_3 => ?_)
  refine lv_if_eq (tgt := 17) hx hb dX10_onceLine_9 (by decide) (fun c_4 => ?_) (fun c_4 => ?_)
  · skip
    have tc_4 : z_3.toInt = 0 := (fa_eq _ _).mp c_4
    refine lv_aload_n hx hb dX10_onceLine_17 rfl (lv_at hl 0 rfl) ?_
    refine t_geti cf_11 hx hb hts hown hK hT h_a (k := 12) rfl fl_X10_163 (fun _ h9 => h9) dX10_onceLine_18 (fun z_5 ez_5 rz_5 => ?_)
    have ez_5 : z_5 = G.1 a 12 := ez_5
    refine lv_if_eq (tgt := 25) hx hb dX10_onceLine_21 (by decide) (fun c_6 => ?_) (fun c_6 => ?_)
    · skip
      have tc_6 : z_5.toInt = 0 := (fa_eq _ _).mp c_6
      refine lv_aload_n hx hb dX10_onceLine_25 rfl (lv_at hl 0 rfl) ?_
      obtain ⟨q_7, eq_7, hq_7⟩ := (show ∃ q, G.2.2.1 a 5 = some q ∧ τ q = 55 from hT.rgr h_a (by decide) 5)
      refine t_callv (runV (As := []) (rest := []) ⟨hx, hb, hml, hown, hts⟩ (t_X10_next l D cy base τ G a h_a q_7 hq_7 eq_7 tp e_tp ⟨by omega, by omega⟩ a0 e_a0 ⟨by omega, by omega⟩ z_5 ez_5 (by show a0.toInt ≤ tp.toInt; first | assumption | omega | decide)) sV_X10_173 hK (t_recv cf_11 hK hT h_a) ⟨Nat.le_trans hZ hS.1, hT⟩ ⟨Nat.le_of_ble_eq_true rfl, Nat.le_of_ble_eq_true rfl⟩ rfl hl.1 rfl (Nat.le_of_ble_eq_true rfl) dX10_onceLine_26 ⟨Nat.le_of_ble_eq_true rfl, Nat.le_of_ble_eq_true rfl⟩) hS (fun G_8 H locs hF_8 hr_8 hT hS => ?_)
      have hF := hF.tr hF_8 rfl
      have kx0 : ∀ j : Nat, j < 24 → G_8.1 sa j = G.1 sa j := fun j hj => (hF_8.i h_sa (by decide) rfl j).trans (kx0 j hj)
      have k_11 : sc = G_8.1 sa 25 := e_sc.trans (hF_8.i h_sa (by decide) rfl _).symm
      obtain ⟨hr_8_p0, hr_8_p1, hr_8_p2, hr_8_s0, hr_8_s1⟩ := hr_8
      have k_13 : tp = G_8.1 a 6 := e_tp.trans hr_8_s0.symm
      have k_14 : z_5 = G_8.1 a 12 := ez_5.trans hr_8_s1.symm
      obtain ⟨z_15, z_16, ez_15, ez_16, hr_8_p0, hr_8_p1, hr_8_p2⟩ : ∃ z_15 z_16 : Int32, z_15 = G_8.1 a 7 ∧ z_16 = G_8.1 a 8 ∧ (a0.toInt ≤ z_15.toInt) ∧ (z_15.toInt ≤ tp.toInt) ∧ (z_16.toInt = 0 ∨ a0.toInt < z_15.toInt) := ⟨_, _, rfl, rfl, hr_8_p0, hr_8_p1, hr_8_p2⟩
      have rz_15 : 0 ≤ z_15.toInt ∧ z_15.toInt ≤ 1600 := by rw [ez_15]; exact hT.rgi h_a (by decide) 7
      refine lv_aload_n hx hb dX10_onceLine_29 rfl (lv_at hl 0 rfl) ?_
      refine t_getr cf_11 hx hb hts hown hK hT h_a (k := 25) (P := fun q => τ q = 75) rfl (fun _ h9 => h9) fl_X10_58 (fun _ h9 => h9) dX10_onceLine_30 (fun q_17 eq_17 hq_17 => ?_)
      have w_18 : q_1 = q_17 := Option.some.inj (eq_1.symm.trans ((hF.r h_a (by decide) rfl _).symm.trans eq_17))
      subst w_18
      refine lv_bipush (v := 12) hx hb dX10_onceLine_33 (by decide) ?_
      refine lv_iload_n hx hb dX10_onceLine_35 rfl (lv_at hl 1 rfl) ?_
      refine lv_iadd hx hb dX10_onceLine_36 ?_
      refine lv_topi (fun z_19 ez_19 => ?_)
      have w_20 : z_2 = z_19 := ez_2.trans ez_19.symm
      subst w_20
      refine lv_iconst (v := 1) hx hb dX10_onceLine_37 (by decide) ?_
      refine t_zast (n := 15) (i := z_2) (x := 1) rfl (by decide) hx hb hK hT hS hq_1 (hT.len hq_1 (by decide)) ⟨by omega, by omega⟩ trivial dX10_onceLine_38 (fun H locs G_21 eG_21 hT hS => ?_)
      have hF := hF.wI eG_21 hq_1 rfl
      have kx0 : ∀ j : Nat, j < 24 → G_21.1 sa j = G.1 sa j := fun j hj => (by rw [eG_21]; exact (wI_ne (Or.inl (tag_ne hq_1 h_sa (by decide)))).trans (kx0 j hj))
      have k_22 : sc = G_21.1 sa 25 := by rw [eG_21, wI_ne (Or.inl (tag_ne hq_1 h_sa (by decide)))]; exact k_11
      have k_23 : tp = G_21.1 a 6 := by rw [eG_21, wI_ne (Or.inl (tag_ne hq_1 h_a (by decide)))]; exact k_13
      have k_24 : z_5 = G_21.1 a 12 := by rw [eG_21, wI_ne (Or.inl (tag_ne hq_1 h_a (by decide)))]; exact k_14
      have k_25 : z_15 = G_21.1 a 7 := by rw [eG_21, wI_ne (Or.inl (tag_ne hq_1 h_a (by decide)))]; exact ez_15
      have k_26 : z_16 = G_21.1 a 8 := by rw [eG_21, wI_ne (Or.inl (tag_ne hq_1 h_a (by decide)))]; exact ez_16
      refine lv_bipush (v := 24) hx hb dX10_onceLine_39 (by decide) ?_
      refine lv_istore_n (lv' := [(2, .int 24), (0, .ref a), (1, .int k)]) hx hb dX10_onceLine_41 rfl hl (by decide) rfl (fun ls hl => ?_)
      refine lv_iload_n hx hb dX10_onceLine_42 rfl (lv_at hl 2 rfl) ?_
      refine lv_if_ne (tgt := 104) hx hb dX10_onceLine_43 (by decide) (fun c_27 => ?_) (fun c_27 => ?_)
      · skip
        have tc_27 : ¬ k.toInt = 0 := fun h => c_27 ((fa_eq _ _).mpr h)
        refine lv_iload_n hx hb dX10_onceLine_104 rfl (lv_at hl 2 rfl) ?_
        refine lv_iconst (v := 1) hx hb dX10_onceLine_105 (by decide) ?_
        refine lv_icmp_ne (tgt := 149) hx hb dX10_onceLine_106 (by decide) (fun c_28 => ?_) (fun c_28 => ?_)
        · skip
          have tc_28 : ¬ k.toInt = 1 := fun h => c_28 ((fa_eq _ _).mpr h)
          refine lv_aload_n hx hb dX10_onceLine_149 rfl (lv_at hl 1 rfl) ?_
          refine t_getr cf_11 hx hb hts hown hK hT h_a (k := 24) (P := fun q => τ q = 74) rfl (fun _ h9 => h9) fl_X10_55 (fun _ h9 => h9) dX10_onceLine_150 (fun q_29 eq_29 hq_29 => ?_)
          have w_30 : sa = q_29 := Option.some.inj (e_sa.symm.trans ((hF.r h_a (by decide) rfl _).symm.trans eq_29))
          subst w_30
          refine lv_iload_n hx hb dX10_onceLine_153 rfl (lv_at hl 0 rfl) ?_
          refine lv_iconst (v := 5) hx hb dX10_onceLine_154 (by decide) ?_
          refine lv_iadd hx hb dX10_onceLine_155 ?_
          refine lv_topi (fun z_31 ez_31 => ?_)
          have ez_31 : z_31 = 29 := ez_31.trans (by decide)
          subst ez_31
          refine lv_aload_n hx hb dX10_onceLine_156 rfl (lv_at hl 1 rfl) ?_
          refine lv_iconst (v := 0) hx hb dX10_onceLine_157 (by decide) ?_
          refine lv_bipush (v := 99) hx hb dX10_onceLine_158 (by decide) ?_
          refine t_calli (runV (As := [.int 0, .int 99]) (rest := [.int 29, .ref sa]) ⟨hx, hb, hml, hown, hts⟩ (t_X10_number l D cy base τ G_21 a h_a 0 99 tp k_23 ⟨by omega, by omega⟩ z_15 k_25 ⟨by omega, by omega⟩ (by show z_15.toInt ≤ tp.toInt; first | assumption | omega | decide)) sV_X10_186 hK (t_recv cf_11 hK hT h_a) ⟨Nat.le_trans hZ hS.1, hT⟩ ⟨Nat.le_of_ble_eq_true rfl, Nat.le_of_ble_eq_true rfl⟩ rfl hl.1 rfl (Nat.le_of_ble_eq_true rfl) dX10_onceLine_160 ⟨Nat.le_of_ble_eq_true rfl, Nat.le_of_ble_eq_true rfl⟩) hS (fun r_32 G_32 H locs hF_32 hr_32 hT hS => ?_)
          have hF := hF.tr hF_32 rfl
          have kx0 : ∀ j : Nat, j < 24 → G_32.1 sa j = G.1 sa j := fun j hj => (hF_32.i h_sa (by decide) rfl j).trans (kx0 j hj)
          have k_33 : sc = G_32.1 sa 25 := k_22.trans (hF_32.i h_sa (by decide) rfl _).symm
          obtain ⟨hr_32_p0, hr_32_p1, hr_32_p2, hr_32_s0⟩ := hr_32
          have k_38 : tp = G_32.1 a 6 := k_23.trans hr_32_s0.symm
          obtain ⟨z_39, ez_39, hr_32_p0, hr_32_p1, hr_32_p2⟩ : ∃ z_39 : Int32, z_39 = G_32.1 a 7 ∧ (z_15.toInt ≤ z_39.toInt) ∧ (z_39.toInt ≤ tp.toInt) ∧ (r_32.toInt = (0 : Int) ∨ ((0 : Int) ≤ r_32.toInt ∧ r_32.toInt ≤ (99 : Int))) := ⟨_, rfl, hr_32_p0, hr_32_p1, hr_32_p2⟩
          have rz_39 : 0 ≤ z_39.toInt ∧ z_39.toInt ≤ 1600 := by rw [ez_39]; exact hT.rgi h_a (by decide) 7
          refine t_iast (n := 30) (i := 29) (x := r_32) rfl (by decide) hx hb hK hT hS h_sa (hT.len h_sa (by decide)) ⟨by decide, by decide⟩ (show (29 % 6 = 0 → 0 ≤ r_32.toInt ∧ r_32.toInt ≤ 9) ∧ (29 % 6 = 1 → 0 ≤ r_32.toInt ∧ r_32.toInt ≤ 50) ∧ (29 % 6 = 3 → 0 ≤ r_32.toInt ∧ r_32.toInt ≤ 50) from by omega) dX10_onceLine_163 (fun H locs G_40 eG_40 hT hS => ?_)
          have hF := hF.wI eG_40 h_sa rfl
          have kx0 : ∀ j : Nat, j < 24 → G_40.1 sa j = G.1 sa j := fun j hj => (by rw [eG_40]; exact (wI_ne (k := 29) (Or.inr (by omega))).trans (kx0 j hj))
          have k_41 : sc = G_40.1 sa 25 := by rw [eG_40, wI_ne (Or.inr (by decide))]; exact k_33
          have k_42 : tp = G_40.1 a 6 := by rw [eG_40, wI_ne (Or.inl (tag_ne h_sa h_a (by decide)))]; exact k_38
          have k_43 : z_39 = G_40.1 a 7 := by rw [eG_40, wI_ne (Or.inl (tag_ne h_sa h_a (by decide)))]; exact ez_39
          exact ret_v hx hb hr hlocks ⟨⟨hS.1, hS.2.1⟩, G_40, hF, ⟨rfl, ⟨(by first | (show a0.toInt ≤ (G_40.1 a 7).toInt; rw [← k_43]; done) | (show a0.toInt ≤ (G_40.1 a 7).toInt; rw [← k_43]; show a0.toInt ≤ z_39.toInt; first | omega | assumption)), (by first | (show (G_40.1 a 7).toInt ≤ tp.toInt; rw [← k_43]; done) | (show (G_40.1 a 7).toInt ≤ tp.toInt; rw [← k_43]; show z_39.toInt ≤ tp.toInt; first | omega | assumption)), (by first | (show 1 ≤ (G_40.1 sa 25).toInt; rw [← k_41]; done) | (show 1 ≤ (G_40.1 sa 25).toInt; rw [← k_41]; show 1 ≤ sc.toInt; first | omega | assumption)), (k_42.symm.trans e_tp), kx0⟩⟩, hT⟩ hS.2.2 (Nat.le_of_ble_eq_true rfl) (Nat.le_of_ble_eq_true rfl) dX10_onceLine_164
        · skip
          have tc_28 : k.toInt = 1 := (fa_eq _ _).mp c_28
          refine lv_aload_n hx hb dX10_onceLine_109 rfl (lv_at hl 1 rfl) ?_
          refine t_getr cf_11 hx hb hts hown hK hT h_a (k := 24) (P := fun q => τ q = 74) rfl (fun _ h9 => h9) fl_X10_55 (fun _ h9 => h9) dX10_onceLine_110 (fun q_44 eq_44 hq_44 => ?_)
          have w_45 : sa = q_44 := Option.some.inj (e_sa.symm.trans ((hF.r h_a (by decide) rfl _).symm.trans eq_44))
          subst w_45
          refine lv_iload_n hx hb dX10_onceLine_113 rfl (lv_at hl 0 rfl) ?_
          refine lv_iconst (v := 3) hx hb dX10_onceLine_114 (by decide) ?_
          refine lv_iadd hx hb dX10_onceLine_115 ?_
          refine lv_topi (fun z_46 ez_46 => ?_)
          have ez_46 : z_46 = 27 := ez_46.trans (by decide)
          subst ez_46
          refine lv_aload_n hx hb dX10_onceLine_116 rfl (lv_at hl 1 rfl) ?_
          refine lv_ldc2 (v := 1627639) hx hb hown (hts _ kl_X10_220) dX10_onceLine_117 ?_
          refine lv_iconst (v := 1) hx hb dX10_onceLine_120 (by decide) ?_
          refine lv_bipush (v := 50) hx hb dX10_onceLine_121 (by decide) ?_
          refine t_calli (runV (As := [.long 1627639, .int 1, .int 50]) (rest := [.int 27, .ref sa]) ⟨hx, hb, hml, hown, hts⟩ (t_X10_number_ l D cy base τ G_21 a h_a 1627639 1 50 tp k_23 ⟨by omega, by omega⟩ z_15 k_25 ⟨by omega, by omega⟩ (by show z_15.toInt ≤ tp.toInt; first | assumption | omega | decide)) sV_X10_197 hK (t_recv cf_11 hK hT h_a) ⟨Nat.le_trans hZ hS.1, hT⟩ ⟨Nat.le_of_ble_eq_true rfl, Nat.le_of_ble_eq_true rfl⟩ rfl hl.1 rfl (Nat.le_of_ble_eq_true rfl) dX10_onceLine_123 ⟨Nat.le_of_ble_eq_true rfl, Nat.le_of_ble_eq_true rfl⟩) hS (fun r_47 G_47 H locs hF_47 hr_47 hT hS => ?_)
          have hF := hF.tr hF_47 rfl
          have kx0 : ∀ j : Nat, j < 24 → G_47.1 sa j = G.1 sa j := fun j hj => (hF_47.i h_sa (by decide) rfl j).trans (kx0 j hj)
          have k_48 : sc = G_47.1 sa 25 := k_22.trans (hF_47.i h_sa (by decide) rfl _).symm
          obtain ⟨hr_47_p0, hr_47_p1, hr_47_p2, hr_47_s0⟩ := hr_47
          have k_53 : tp = G_47.1 a 6 := k_23.trans hr_47_s0.symm
          obtain ⟨z_54, ez_54, hr_47_p0, hr_47_p1, hr_47_p2⟩ : ∃ z_54 : Int32, z_54 = G_47.1 a 7 ∧ (z_15.toInt ≤ z_54.toInt) ∧ (z_54.toInt ≤ tp.toInt) ∧ (r_47.toInt = (1 : Int) ∨ ((1 : Int) ≤ r_47.toInt ∧ r_47.toInt ≤ (50 : Int))) := ⟨_, rfl, hr_47_p0, hr_47_p1, hr_47_p2⟩
          have rz_54 : 0 ≤ z_54.toInt ∧ z_54.toInt ≤ 1600 := by rw [ez_54]; exact hT.rgi h_a (by decide) 7
          refine t_iast (n := 30) (i := 27) (x := r_47) rfl (by decide) hx hb hK hT hS h_sa (hT.len h_sa (by decide)) ⟨by decide, by decide⟩ (show (27 % 6 = 0 → 0 ≤ r_47.toInt ∧ r_47.toInt ≤ 9) ∧ (27 % 6 = 1 → 0 ≤ r_47.toInt ∧ r_47.toInt ≤ 50) ∧ (27 % 6 = 3 → 0 ≤ r_47.toInt ∧ r_47.toInt ≤ 50) from by omega) dX10_onceLine_126 (fun H locs G_55 eG_55 hT hS => ?_)
          have hF := hF.wI eG_55 h_sa rfl
          have kx0 : ∀ j : Nat, j < 24 → G_55.1 sa j = G.1 sa j := fun j hj => (by rw [eG_55]; exact (wI_ne (k := 27) (Or.inr (by omega))).trans (kx0 j hj))
          have k_56 : sc = G_55.1 sa 25 := by rw [eG_55, wI_ne (Or.inr (by decide))]; exact k_48
          have k_57 : tp = G_55.1 a 6 := by rw [eG_55, wI_ne (Or.inl (tag_ne h_sa h_a (by decide)))]; exact k_53
          have k_58 : z_54 = G_55.1 a 7 := by rw [eG_55, wI_ne (Or.inl (tag_ne h_sa h_a (by decide)))]; exact ez_54
          refine lv_aload_n hx hb dX10_onceLine_127 rfl (lv_at hl 1 rfl) ?_
          refine t_getr cf_11 hx hb hts hown hK hT h_a (k := 24) (P := fun q => τ q = 74) rfl (fun _ h9 => h9) fl_X10_55 (fun _ h9 => h9) dX10_onceLine_128 (fun q_59 eq_59 hq_59 => ?_)
          have w_60 : sa = q_59 := Option.some.inj (e_sa.symm.trans ((hF.r h_a (by decide) rfl _).symm.trans eq_59))
          subst w_60
          refine lv_iload_n hx hb dX10_onceLine_131 rfl (lv_at hl 0 rfl) ?_
          refine lv_iconst (v := 4) hx hb dX10_onceLine_132 (by decide) ?_
          refine lv_iadd hx hb dX10_onceLine_133 ?_
          refine lv_topi (fun z_61 ez_61 => ?_)
          have ez_61 : z_61 = 28 := ez_61.trans (by decide)
          subst ez_61
          refine lv_aload_n hx hb dX10_onceLine_134 rfl (lv_at hl 1 rfl) ?_
          refine lv_ldc2 (v := 70517) hx hb hown (hts _ kl_X10_222) dX10_onceLine_135 ?_
          refine lv_iconst (v := 0) hx hb dX10_onceLine_138 (by decide) ?_
          refine lv_sipush (v := 9999) hx hb dX10_onceLine_139 (by decide) ?_
          refine t_calli (runV (As := [.long 70517, .int 0, .int 9999]) (rest := [.int 28, .ref sa]) ⟨hx, hb, hml, hown, hts⟩ (t_X10_number_ l D cy base τ G_55 a h_a 70517 0 9999 tp k_57 ⟨by omega, by omega⟩ z_54 k_58 ⟨by omega, by omega⟩ (by show z_54.toInt ≤ tp.toInt; first | assumption | omega | decide)) sV_X10_197 hK (t_recv cf_11 hK hT h_a) ⟨Nat.le_trans hZ hS.1, hT⟩ ⟨Nat.le_of_ble_eq_true rfl, Nat.le_of_ble_eq_true rfl⟩ rfl hl.1 rfl (Nat.le_of_ble_eq_true rfl) dX10_onceLine_142 ⟨Nat.le_of_ble_eq_true rfl, Nat.le_of_ble_eq_true rfl⟩) hS (fun r_62 G_62 H locs hF_62 hr_62 hT hS => ?_)
          have hF := hF.tr hF_62 rfl
          have kx0 : ∀ j : Nat, j < 24 → G_62.1 sa j = G.1 sa j := fun j hj => (hF_62.i h_sa (by decide) rfl j).trans (kx0 j hj)
          have k_63 : sc = G_62.1 sa 25 := k_56.trans (hF_62.i h_sa (by decide) rfl _).symm
          obtain ⟨hr_62_p0, hr_62_p1, hr_62_p2, hr_62_s0⟩ := hr_62
          have k_66 : tp = G_62.1 a 6 := k_57.trans hr_62_s0.symm
          obtain ⟨z_67, ez_67, hr_62_p0, hr_62_p1, hr_62_p2⟩ : ∃ z_67 : Int32, z_67 = G_62.1 a 7 ∧ (z_54.toInt ≤ z_67.toInt) ∧ (z_67.toInt ≤ tp.toInt) ∧ (r_62.toInt = (0 : Int) ∨ ((0 : Int) ≤ r_62.toInt ∧ r_62.toInt ≤ (9999 : Int))) := ⟨_, rfl, hr_62_p0, hr_62_p1, hr_62_p2⟩
          have rz_67 : 0 ≤ z_67.toInt ∧ z_67.toInt ≤ 1600 := by rw [ez_67]; exact hT.rgi h_a (by decide) 7
          refine t_iast (n := 30) (i := 28) (x := r_62) rfl (by decide) hx hb hK hT hS h_sa (hT.len h_sa (by decide)) ⟨by decide, by decide⟩ (show (28 % 6 = 0 → 0 ≤ r_62.toInt ∧ r_62.toInt ≤ 9) ∧ (28 % 6 = 1 → 0 ≤ r_62.toInt ∧ r_62.toInt ≤ 50) ∧ (28 % 6 = 3 → 0 ≤ r_62.toInt ∧ r_62.toInt ≤ 50) from by omega) dX10_onceLine_145 (fun H locs G_68 eG_68 hT hS => ?_)
          have hF := hF.wI eG_68 h_sa rfl
          have kx0 : ∀ j : Nat, j < 24 → G_68.1 sa j = G.1 sa j := fun j hj => (by rw [eG_68]; exact (wI_ne (k := 28) (Or.inr (by omega))).trans (kx0 j hj))
          have k_69 : sc = G_68.1 sa 25 := by rw [eG_68, wI_ne (Or.inr (by decide))]; exact k_63
          have k_70 : tp = G_68.1 a 6 := by rw [eG_68, wI_ne (Or.inl (tag_ne h_sa h_a (by decide)))]; exact k_66
          have k_71 : z_67 = G_68.1 a 7 := by rw [eG_68, wI_ne (Or.inl (tag_ne h_sa h_a (by decide)))]; exact ez_67
          refine lv_goto (tgt := 164) hx hb dX10_onceLine_146 (by decide) ?_
          exact ret_v hx hb hr hlocks ⟨⟨hS.1, hS.2.1⟩, G_68, hF, ⟨rfl, ⟨(by first | (show a0.toInt ≤ (G_68.1 a 7).toInt; rw [← k_71]; done) | (show a0.toInt ≤ (G_68.1 a 7).toInt; rw [← k_71]; show a0.toInt ≤ z_67.toInt; first | omega | assumption)), (by first | (show (G_68.1 a 7).toInt ≤ tp.toInt; rw [← k_71]; done) | (show (G_68.1 a 7).toInt ≤ tp.toInt; rw [← k_71]; show z_67.toInt ≤ tp.toInt; first | omega | assumption)), (by first | (show 1 ≤ (G_68.1 sa 25).toInt; rw [← k_69]; done) | (show 1 ≤ (G_68.1 sa 25).toInt; rw [← k_69]; show 1 ≤ sc.toInt; first | omega | assumption)), (k_70.symm.trans e_tp), kx0⟩⟩, hT⟩ hS.2.2 (Nat.le_of_ble_eq_true rfl) (Nat.le_of_ble_eq_true rfl) dX10_onceLine_164
      · skip
        have tc_27 : k.toInt = 0 := (fa_eq _ _).mp c_27
        refine lv_aload_n hx hb dX10_onceLine_46 rfl (lv_at hl 1 rfl) ?_
        refine t_getr cf_11 hx hb hts hown hK hT h_a (k := 24) (P := fun q => τ q = 74) rfl (fun _ h9 => h9) fl_X10_55 (fun _ h9 => h9) dX10_onceLine_47 (fun q_72 eq_72 hq_72 => ?_)
        have w_73 : sa = q_72 := Option.some.inj (e_sa.symm.trans ((hF.r h_a (by decide) rfl _).symm.trans eq_72))
        subst w_73
        refine lv_iload_n hx hb dX10_onceLine_50 rfl (lv_at hl 0 rfl) ?_
        refine lv_iconst (v := 0) hx hb dX10_onceLine_51 (by decide) ?_
        refine lv_iadd hx hb dX10_onceLine_52 ?_
        refine lv_topi (fun z_74 ez_74 => ?_)
        have ez_74 : z_74 = 24 := ez_74.trans (by decide)
        subst ez_74
        refine lv_aload_n hx hb dX10_onceLine_53 rfl (lv_at hl 1 rfl) ?_
        refine lv_ldc2 (v := 257011) hx hb hown (hts _ kl_X10_218) dX10_onceLine_54 ?_
        refine lv_iconst (v := 1) hx hb dX10_onceLine_57 (by decide) ?_
        refine lv_bipush (v := 9) hx hb dX10_onceLine_58 (by decide) ?_
        refine t_calli (runV (As := [.long 257011, .int 1, .int 9]) (rest := [.int 24, .ref sa]) ⟨hx, hb, hml, hown, hts⟩ (t_X10_number_ l D cy base τ G_21 a h_a 257011 1 9 tp k_23 ⟨by omega, by omega⟩ z_15 k_25 ⟨by omega, by omega⟩ (by show z_15.toInt ≤ tp.toInt; first | assumption | omega | decide)) sV_X10_197 hK (t_recv cf_11 hK hT h_a) ⟨Nat.le_trans hZ hS.1, hT⟩ ⟨Nat.le_of_ble_eq_true rfl, Nat.le_of_ble_eq_true rfl⟩ rfl hl.1 rfl (Nat.le_of_ble_eq_true rfl) dX10_onceLine_60 ⟨Nat.le_of_ble_eq_true rfl, Nat.le_of_ble_eq_true rfl⟩) hS (fun r_75 G_75 H locs hF_75 hr_75 hT hS => ?_)
        have hF := hF.tr hF_75 rfl
        have kx0 : ∀ j : Nat, j < 24 → G_75.1 sa j = G.1 sa j := fun j hj => (hF_75.i h_sa (by decide) rfl j).trans (kx0 j hj)
        have k_76 : sc = G_75.1 sa 25 := k_22.trans (hF_75.i h_sa (by decide) rfl _).symm
        obtain ⟨hr_75_p0, hr_75_p1, hr_75_p2, hr_75_s0⟩ := hr_75
        have k_81 : tp = G_75.1 a 6 := k_23.trans hr_75_s0.symm
        obtain ⟨z_82, ez_82, hr_75_p0, hr_75_p1, hr_75_p2⟩ : ∃ z_82 : Int32, z_82 = G_75.1 a 7 ∧ (z_15.toInt ≤ z_82.toInt) ∧ (z_82.toInt ≤ tp.toInt) ∧ (r_75.toInt = (1 : Int) ∨ ((1 : Int) ≤ r_75.toInt ∧ r_75.toInt ≤ (9 : Int))) := ⟨_, rfl, hr_75_p0, hr_75_p1, hr_75_p2⟩
        have rz_82 : 0 ≤ z_82.toInt ∧ z_82.toInt ≤ 1600 := by rw [ez_82]; exact hT.rgi h_a (by decide) 7
        refine t_iast (n := 30) (i := 24) (x := r_75) rfl (by decide) hx hb hK hT hS h_sa (hT.len h_sa (by decide)) ⟨by decide, by decide⟩ (show (24 % 6 = 0 → 0 ≤ r_75.toInt ∧ r_75.toInt ≤ 9) ∧ (24 % 6 = 1 → 0 ≤ r_75.toInt ∧ r_75.toInt ≤ 50) ∧ (24 % 6 = 3 → 0 ≤ r_75.toInt ∧ r_75.toInt ≤ 50) from by omega) dX10_onceLine_63 (fun H locs G_83 eG_83 hT hS => ?_)
        have hF := hF.wI eG_83 h_sa rfl
        have kx0 : ∀ j : Nat, j < 24 → G_83.1 sa j = G.1 sa j := fun j hj => (by rw [eG_83]; exact (wI_ne (k := 24) (Or.inr (by omega))).trans (kx0 j hj))
        have k_84 : sc = G_83.1 sa 25 := by rw [eG_83, wI_ne (Or.inr (by decide))]; exact k_76
        have k_85 : tp = G_83.1 a 6 := by rw [eG_83, wI_ne (Or.inl (tag_ne h_sa h_a (by decide)))]; exact k_81
        have k_86 : z_82 = G_83.1 a 7 := by rw [eG_83, wI_ne (Or.inl (tag_ne h_sa h_a (by decide)))]; exact ez_82
        refine lv_aload_n hx hb dX10_onceLine_64 rfl (lv_at hl 1 rfl) ?_
        refine t_getr cf_11 hx hb hts hown hK hT h_a (k := 24) (P := fun q => τ q = 74) rfl (fun _ h9 => h9) fl_X10_55 (fun _ h9 => h9) dX10_onceLine_65 (fun q_87 eq_87 hq_87 => ?_)
        have w_88 : sa = q_87 := Option.some.inj (e_sa.symm.trans ((hF.r h_a (by decide) rfl _).symm.trans eq_87))
        subst w_88
        refine lv_iload_n hx hb dX10_onceLine_68 rfl (lv_at hl 0 rfl) ?_
        refine lv_iconst (v := 1) hx hb dX10_onceLine_69 (by decide) ?_
        refine lv_iadd hx hb dX10_onceLine_70 ?_
        refine lv_topi (fun z_89 ez_89 => ?_)
        have ez_89 : z_89 = 25 := ez_89.trans (by decide)
        subst ez_89
        refine lv_aload_n hx hb dX10_onceLine_71 rfl (lv_at hl 1 rfl) ?_
        refine lv_ldc2 (v := 1627639) hx hb hown (hts _ kl_X10_220) dX10_onceLine_72 ?_
        refine lv_iconst (v := 1) hx hb dX10_onceLine_75 (by decide) ?_
        refine lv_bipush (v := 50) hx hb dX10_onceLine_76 (by decide) ?_
        refine t_calli (runV (As := [.long 1627639, .int 1, .int 50]) (rest := [.int 25, .ref sa]) ⟨hx, hb, hml, hown, hts⟩ (t_X10_number_ l D cy base τ G_83 a h_a 1627639 1 50 tp k_85 ⟨by omega, by omega⟩ z_82 k_86 ⟨by omega, by omega⟩ (by show z_82.toInt ≤ tp.toInt; first | assumption | omega | decide)) sV_X10_197 hK (t_recv cf_11 hK hT h_a) ⟨Nat.le_trans hZ hS.1, hT⟩ ⟨Nat.le_of_ble_eq_true rfl, Nat.le_of_ble_eq_true rfl⟩ rfl hl.1 rfl (Nat.le_of_ble_eq_true rfl) dX10_onceLine_78 ⟨Nat.le_of_ble_eq_true rfl, Nat.le_of_ble_eq_true rfl⟩) hS (fun r_90 G_90 H locs hF_90 hr_90 hT hS => ?_)
        have hF := hF.tr hF_90 rfl
        have kx0 : ∀ j : Nat, j < 24 → G_90.1 sa j = G.1 sa j := fun j hj => (hF_90.i h_sa (by decide) rfl j).trans (kx0 j hj)
        have k_91 : sc = G_90.1 sa 25 := k_84.trans (hF_90.i h_sa (by decide) rfl _).symm
        obtain ⟨hr_90_p0, hr_90_p1, hr_90_p2, hr_90_s0⟩ := hr_90
        have k_94 : tp = G_90.1 a 6 := k_85.trans hr_90_s0.symm
        obtain ⟨z_95, ez_95, hr_90_p0, hr_90_p1, hr_90_p2⟩ : ∃ z_95 : Int32, z_95 = G_90.1 a 7 ∧ (z_82.toInt ≤ z_95.toInt) ∧ (z_95.toInt ≤ tp.toInt) ∧ (r_90.toInt = (1 : Int) ∨ ((1 : Int) ≤ r_90.toInt ∧ r_90.toInt ≤ (50 : Int))) := ⟨_, rfl, hr_90_p0, hr_90_p1, hr_90_p2⟩
        have rz_95 : 0 ≤ z_95.toInt ∧ z_95.toInt ≤ 1600 := by rw [ez_95]; exact hT.rgi h_a (by decide) 7
        refine t_iast (n := 30) (i := 25) (x := r_90) rfl (by decide) hx hb hK hT hS h_sa (hT.len h_sa (by decide)) ⟨by decide, by decide⟩ (show (25 % 6 = 0 → 0 ≤ r_90.toInt ∧ r_90.toInt ≤ 9) ∧ (25 % 6 = 1 → 0 ≤ r_90.toInt ∧ r_90.toInt ≤ 50) ∧ (25 % 6 = 3 → 0 ≤ r_90.toInt ∧ r_90.toInt ≤ 50) from by omega) dX10_onceLine_81 (fun H locs G_96 eG_96 hT hS => ?_)
        have hF := hF.wI eG_96 h_sa rfl
        have eG_96 : G_96 = wI G_90 sa 25 r_90 := eG_96
        have kx0 : ∀ j : Nat, j < 24 → G_96.1 sa j = G.1 sa j := fun j hj => (by rw [eG_96]; exact (wI_ne (k := 25) (Or.inr (by omega))).trans (kx0 j hj))
        have k_98 : tp = G_96.1 a 6 := by rw [eG_96, wI_ne (Or.inl (tag_ne h_sa h_a (by decide)))]; exact k_94
        have k_99 : z_95 = G_96.1 a 7 := by rw [eG_96, wI_ne (Or.inl (tag_ne h_sa h_a (by decide)))]; exact ez_95
        have k_100 : r_90 = G_96.1 sa 25 := by rw [eG_96, wI_at]
        refine lv_aload_n hx hb dX10_onceLine_82 rfl (lv_at hl 1 rfl) ?_
        refine t_getr cf_11 hx hb hts hown hK hT h_a (k := 24) (P := fun q => τ q = 74) rfl (fun _ h9 => h9) fl_X10_55 (fun _ h9 => h9) dX10_onceLine_83 (fun q_101 eq_101 hq_101 => ?_)
        have w_102 : sa = q_101 := Option.some.inj (e_sa.symm.trans ((hF.r h_a (by decide) rfl _).symm.trans eq_101))
        subst w_102
        refine lv_iload_n hx hb dX10_onceLine_86 rfl (lv_at hl 0 rfl) ?_
        refine lv_iconst (v := 2) hx hb dX10_onceLine_87 (by decide) ?_
        refine lv_iadd hx hb dX10_onceLine_88 ?_
        refine lv_topi (fun z_103 ez_103 => ?_)
        have ez_103 : z_103 = 26 := ez_103.trans (by decide)
        subst ez_103
        refine lv_aload_n hx hb dX10_onceLine_89 rfl (lv_at hl 1 rfl) ?_
        refine lv_ldc2 (v := 70517) hx hb hown (hts _ kl_X10_222) dX10_onceLine_90 ?_
        refine lv_iconst (v := 0) hx hb dX10_onceLine_93 (by decide) ?_
        refine lv_sipush (v := 999) hx hb dX10_onceLine_94 (by decide) ?_
        refine t_calli (runV (As := [.long 70517, .int 0, .int 999]) (rest := [.int 26, .ref sa]) ⟨hx, hb, hml, hown, hts⟩ (t_X10_number_ l D cy base τ G_96 a h_a 70517 0 999 tp k_98 ⟨by omega, by omega⟩ z_95 k_99 ⟨by omega, by omega⟩ (by show z_95.toInt ≤ tp.toInt; first | assumption | omega | decide)) sV_X10_197 hK (t_recv cf_11 hK hT h_a) ⟨Nat.le_trans hZ hS.1, hT⟩ ⟨Nat.le_of_ble_eq_true rfl, Nat.le_of_ble_eq_true rfl⟩ rfl hl.1 rfl (Nat.le_of_ble_eq_true rfl) dX10_onceLine_97 ⟨Nat.le_of_ble_eq_true rfl, Nat.le_of_ble_eq_true rfl⟩) hS (fun r_104 G_104 H locs hF_104 hr_104 hT hS => ?_)
        have hF := hF.tr hF_104 rfl
        have kx0 : ∀ j : Nat, j < 24 → G_104.1 sa j = G.1 sa j := fun j hj => (hF_104.i h_sa (by decide) rfl j).trans (kx0 j hj)
        have k_107 : r_90 = G_104.1 sa 25 := k_100.trans (hF_104.i h_sa (by decide) rfl _).symm
        obtain ⟨hr_104_p0, hr_104_p1, hr_104_p2, hr_104_s0⟩ := hr_104
        have k_108 : tp = G_104.1 a 6 := k_98.trans hr_104_s0.symm
        obtain ⟨z_109, ez_109, hr_104_p0, hr_104_p1, hr_104_p2⟩ : ∃ z_109 : Int32, z_109 = G_104.1 a 7 ∧ (z_95.toInt ≤ z_109.toInt) ∧ (z_109.toInt ≤ tp.toInt) ∧ (r_104.toInt = (0 : Int) ∨ ((0 : Int) ≤ r_104.toInt ∧ r_104.toInt ≤ (999 : Int))) := ⟨_, rfl, hr_104_p0, hr_104_p1, hr_104_p2⟩
        have rz_109 : 0 ≤ z_109.toInt ∧ z_109.toInt ≤ 1600 := by rw [ez_109]; exact hT.rgi h_a (by decide) 7
        refine t_iast (n := 30) (i := 26) (x := r_104) rfl (by decide) hx hb hK hT hS h_sa (hT.len h_sa (by decide)) ⟨by decide, by decide⟩ (show (26 % 6 = 0 → 0 ≤ r_104.toInt ∧ r_104.toInt ≤ 9) ∧ (26 % 6 = 1 → 0 ≤ r_104.toInt ∧ r_104.toInt ≤ 50) ∧ (26 % 6 = 3 → 0 ≤ r_104.toInt ∧ r_104.toInt ≤ 50) from by omega) dX10_onceLine_100 (fun H locs G_110 eG_110 hT hS => ?_)
        have hF := hF.wI eG_110 h_sa rfl
        have kx0 : ∀ j : Nat, j < 24 → G_110.1 sa j = G.1 sa j := fun j hj => (by rw [eG_110]; exact (wI_ne (k := 26) (Or.inr (by omega))).trans (kx0 j hj))
        have k_111 : r_90 = G_110.1 sa 25 := by rw [eG_110, wI_ne (Or.inr (by decide))]; exact k_107
        have k_112 : tp = G_110.1 a 6 := by rw [eG_110, wI_ne (Or.inl (tag_ne h_sa h_a (by decide)))]; exact k_108
        have k_113 : z_109 = G_110.1 a 7 := by rw [eG_110, wI_ne (Or.inl (tag_ne h_sa h_a (by decide)))]; exact ez_109
        refine lv_goto (tgt := 164) hx hb dX10_onceLine_101 (by decide) ?_
        exact ret_v hx hb hr hlocks ⟨⟨hS.1, hS.2.1⟩, G_110, hF, ⟨rfl, ⟨(by first | (show a0.toInt ≤ (G_110.1 a 7).toInt; rw [← k_113]; done) | (show a0.toInt ≤ (G_110.1 a 7).toInt; rw [← k_113]; show a0.toInt ≤ z_109.toInt; first | omega | assumption)), (by first | (show (G_110.1 a 7).toInt ≤ tp.toInt; rw [← k_113]; done) | (show (G_110.1 a 7).toInt ≤ tp.toInt; rw [← k_113]; show z_109.toInt ≤ tp.toInt; first | omega | assumption)), (by first | (show 1 ≤ (G_110.1 sa 25).toInt; rw [← k_111]; done) | (show 1 ≤ (G_110.1 sa 25).toInt; rw [← k_111]; show 1 ≤ r_90.toInt; first | omega | assumption)), (k_112.symm.trans e_tp), kx0⟩⟩, hT⟩ hS.2.2 (Nat.le_of_ble_eq_true rfl) (Nat.le_of_ble_eq_true rfl) dX10_onceLine_164
    · skip
      have tc_6 : ¬ z_5.toInt = 0 := fun h => c_6 ((fa_eq _ _).mpr h)
      exact ret_v hx hb hr hlocks ⟨⟨hS.1, hS.2.1⟩, G, hF, ⟨rfl, ⟨(by first | (show a0.toInt ≤ (G.1 a 7).toInt; rw [← e_a0]; done) | (show a0.toInt ≤ (G.1 a 7).toInt; rw [← e_a0]; show a0.toInt ≤ a0.toInt; first | omega | assumption)), (by first | (show (G.1 a 7).toInt ≤ tp.toInt; rw [← e_a0]; done) | (show (G.1 a 7).toInt ≤ tp.toInt; rw [← e_a0]; show a0.toInt ≤ tp.toInt; first | omega | assumption)), (by first | (show 1 ≤ (G.1 sa 25).toInt; rw [← e_sc]; done) | (show 1 ≤ (G.1 sa 25).toInt; rw [← e_sc]; show 1 ≤ sc.toInt; first | omega | assumption)), rfl, kx0⟩⟩, hT⟩ hS.2.2 (Nat.le_of_ble_eq_true rfl) (Nat.le_of_ble_eq_true rfl) dX10_onceLine_24
  · skip
    have tc_4 : ¬ z_3.toInt = 0 := fun h => c_4 ((fa_eq _ _).mpr h)
    refine lv_aload_n hx hb dX10_onceLine_12 rfl (lv_at hl 0 rfl) ?_
    refine lv_iconst (v := 2) hx hb dX10_onceLine_13 (by decide) ?_
    obtain ⟨z_114, ez_114⟩ : ∃ y : Int32, y = G.1 a 8 := ⟨_, rfl⟩
    obtain ⟨z_115, ez_115⟩ : ∃ y : Int32, y = G.1 a 12 := ⟨_, rfl⟩
    refine t_callv (runV (As := [.int 2]) (rest := []) ⟨hx, hb, hml, hown, hts⟩ (t_X10_fails l D cy base τ G a h_a 2 (by decide) tp e_tp ⟨by omega, by omega⟩ a0 e_a0 ⟨by omega, by omega⟩ z_114 ez_114 z_115 ez_115) sV_X10_179 hK (t_recv cf_11 hK hT h_a) ⟨Nat.le_trans hZ hS.1, hT⟩ ⟨Nat.le_of_ble_eq_true rfl, Nat.le_of_ble_eq_true rfl⟩ rfl hl.1 rfl (Nat.le_of_ble_eq_true rfl) dX10_onceLine_14 ⟨Nat.le_of_ble_eq_true rfl, Nat.le_of_ble_eq_true rfl⟩) hS (fun G_116 H locs hF_116 hr_116 hT hS => ?_)
    have hF := hF.tr hF_116 rfl
    have kx0 : ∀ j : Nat, j < 24 → G_116.1 sa j = G.1 sa j := fun j hj => (hF_116.i h_sa (by decide) rfl j).trans (kx0 j hj)
    have k_119 : sc = G_116.1 sa 25 := e_sc.trans (hF_116.i h_sa (by decide) rfl _).symm
    obtain ⟨hr_116_p0, hr_116_s0, hr_116_s1, hr_116_s2⟩ := hr_116
    have k_122 : tp = G_116.1 a 6 := e_tp.trans hr_116_s0.symm
    have k_123 : a0 = G_116.1 a 7 := e_a0.trans hr_116_s1.symm
    have k_124 : z_114 = G_116.1 a 8 := ez_114.trans hr_116_s2.symm
    obtain ⟨z_125, ez_125, hr_116_p0⟩ : ∃ z_125 : Int32, z_125 = G_116.1 a 12 ∧ (z_125.toInt ≠ 0) := ⟨_, rfl, hr_116_p0⟩
    refine lv_aload_n hx hb dX10_onceLine_17 rfl (lv_at hl 0 rfl) ?_
    refine t_geti cf_11 hx hb hts hown hK hT h_a (k := 12) rfl fl_X10_163 (fun _ h9 => h9) dX10_onceLine_18 (fun z_126 ez_126 rz_126 => ?_)
    have w_127 : z_125 = z_126 := ez_125.trans ez_126.symm
    subst w_127
    refine lv_if_eq (tgt := 25) hx hb dX10_onceLine_21 (by decide) (fun c_128 => ?_) (fun c_128 => ?_)
    · skip
      have tc_128 : z_125.toInt = 0 := (fa_eq _ _).mp c_128
      refine lv_aload_n hx hb dX10_onceLine_25 rfl (lv_at hl 0 rfl) ?_
      obtain ⟨q_129, eq_129, hq_129⟩ := (show ∃ q, G_116.2.2.1 a 5 = some q ∧ τ q = 55 from hT.rgr h_a (by decide) 5)
      have eq_129 := (hF.r h_a (by decide) rfl _).symm.trans eq_129
      refine t_callv (runV (As := []) (rest := []) ⟨hx, hb, hml, hown, hts⟩ (t_X10_next l D cy base τ G_116 a h_a q_129 hq_129 ((hF.r h_a (by decide) rfl _).trans eq_129) tp k_122 ⟨by omega, by omega⟩ a0 k_123 ⟨by omega, by omega⟩ z_125 ez_125 (by show a0.toInt ≤ tp.toInt; first | assumption | omega | decide)) sV_X10_173 hK (t_recv cf_11 hK hT h_a) ⟨Nat.le_trans hZ hS.1, hT⟩ ⟨Nat.le_of_ble_eq_true rfl, Nat.le_of_ble_eq_true rfl⟩ rfl hl.1 rfl (Nat.le_of_ble_eq_true rfl) dX10_onceLine_26 ⟨Nat.le_of_ble_eq_true rfl, Nat.le_of_ble_eq_true rfl⟩) hS (fun G_130 H locs hF_130 hr_130 hT hS => ?_)
      have hF := hF.tr hF_130 rfl
      have kx0 : ∀ j : Nat, j < 24 → G_130.1 sa j = G.1 sa j := fun j hj => (hF_130.i h_sa (by decide) rfl j).trans (kx0 j hj)
      have k_131 : sc = G_130.1 sa 25 := k_119.trans (hF_130.i h_sa (by decide) rfl _).symm
      obtain ⟨hr_130_p0, hr_130_p1, hr_130_p2, hr_130_s0, hr_130_s1⟩ := hr_130
      have k_136 : tp = G_130.1 a 6 := k_122.trans hr_130_s0.symm
      have k_137 : z_125 = G_130.1 a 12 := ez_125.trans hr_130_s1.symm
      obtain ⟨z_138, z_139, ez_138, ez_139, hr_130_p0, hr_130_p1, hr_130_p2⟩ : ∃ z_138 z_139 : Int32, z_138 = G_130.1 a 7 ∧ z_139 = G_130.1 a 8 ∧ (a0.toInt ≤ z_138.toInt) ∧ (z_138.toInt ≤ tp.toInt) ∧ (z_139.toInt = 0 ∨ a0.toInt < z_138.toInt) := ⟨_, _, rfl, rfl, hr_130_p0, hr_130_p1, hr_130_p2⟩
      have rz_138 : 0 ≤ z_138.toInt ∧ z_138.toInt ≤ 1600 := by rw [ez_138]; exact hT.rgi h_a (by decide) 7
      refine lv_aload_n hx hb dX10_onceLine_29 rfl (lv_at hl 0 rfl) ?_
      refine t_getr cf_11 hx hb hts hown hK hT h_a (k := 25) (P := fun q => τ q = 75) rfl (fun _ h9 => h9) fl_X10_58 (fun _ h9 => h9) dX10_onceLine_30 (fun q_140 eq_140 hq_140 => ?_)
      have w_141 : q_1 = q_140 := Option.some.inj (eq_1.symm.trans ((hF.r h_a (by decide) rfl _).symm.trans eq_140))
      subst w_141
      refine lv_bipush (v := 12) hx hb dX10_onceLine_33 (by decide) ?_
      refine lv_iload_n hx hb dX10_onceLine_35 rfl (lv_at hl 1 rfl) ?_
      refine lv_iadd hx hb dX10_onceLine_36 ?_
      refine lv_topi (fun z_142 ez_142 => ?_)
      have w_143 : z_2 = z_142 := ez_2.trans ez_142.symm
      subst w_143
      refine lv_iconst (v := 1) hx hb dX10_onceLine_37 (by decide) ?_
      refine t_zast (n := 15) (i := z_2) (x := 1) rfl (by decide) hx hb hK hT hS hq_1 (hT.len hq_1 (by decide)) ⟨by omega, by omega⟩ trivial dX10_onceLine_38 (fun H locs G_144 eG_144 hT hS => ?_)
      have hF := hF.wI eG_144 hq_1 rfl
      have kx0 : ∀ j : Nat, j < 24 → G_144.1 sa j = G.1 sa j := fun j hj => (by rw [eG_144]; exact (wI_ne (Or.inl (tag_ne hq_1 h_sa (by decide)))).trans (kx0 j hj))
      have k_145 : sc = G_144.1 sa 25 := by rw [eG_144, wI_ne (Or.inl (tag_ne hq_1 h_sa (by decide)))]; exact k_131
      have k_146 : tp = G_144.1 a 6 := by rw [eG_144, wI_ne (Or.inl (tag_ne hq_1 h_a (by decide)))]; exact k_136
      have k_147 : z_125 = G_144.1 a 12 := by rw [eG_144, wI_ne (Or.inl (tag_ne hq_1 h_a (by decide)))]; exact k_137
      have k_148 : z_138 = G_144.1 a 7 := by rw [eG_144, wI_ne (Or.inl (tag_ne hq_1 h_a (by decide)))]; exact ez_138
      have k_149 : z_139 = G_144.1 a 8 := by rw [eG_144, wI_ne (Or.inl (tag_ne hq_1 h_a (by decide)))]; exact ez_139
      refine lv_bipush (v := 24) hx hb dX10_onceLine_39 (by decide) ?_
      refine lv_istore_n (lv' := [(2, .int 24), (0, .ref a), (1, .int k)]) hx hb dX10_onceLine_41 rfl hl (by decide) rfl (fun ls hl => ?_)
      refine lv_iload_n hx hb dX10_onceLine_42 rfl (lv_at hl 2 rfl) ?_
      refine lv_if_ne (tgt := 104) hx hb dX10_onceLine_43 (by decide) (fun c_150 => ?_) (fun c_150 => ?_)
      · skip
        have tc_150 : ¬ k.toInt = 0 := fun h => c_150 ((fa_eq _ _).mpr h)
        refine lv_iload_n hx hb dX10_onceLine_104 rfl (lv_at hl 2 rfl) ?_
        refine lv_iconst (v := 1) hx hb dX10_onceLine_105 (by decide) ?_
        refine lv_icmp_ne (tgt := 149) hx hb dX10_onceLine_106 (by decide) (fun c_151 => ?_) (fun c_151 => ?_)
        · skip
          have tc_151 : ¬ k.toInt = 1 := fun h => c_151 ((fa_eq _ _).mpr h)
          refine lv_aload_n hx hb dX10_onceLine_149 rfl (lv_at hl 1 rfl) ?_
          refine t_getr cf_11 hx hb hts hown hK hT h_a (k := 24) (P := fun q => τ q = 74) rfl (fun _ h9 => h9) fl_X10_55 (fun _ h9 => h9) dX10_onceLine_150 (fun q_152 eq_152 hq_152 => ?_)
          have w_153 : sa = q_152 := Option.some.inj (e_sa.symm.trans ((hF.r h_a (by decide) rfl _).symm.trans eq_152))
          subst w_153
          refine lv_iload_n hx hb dX10_onceLine_153 rfl (lv_at hl 0 rfl) ?_
          refine lv_iconst (v := 5) hx hb dX10_onceLine_154 (by decide) ?_
          refine lv_iadd hx hb dX10_onceLine_155 ?_
          refine lv_topi (fun z_154 ez_154 => ?_)
          have ez_154 : z_154 = 29 := ez_154.trans (by decide)
          subst ez_154
          refine lv_aload_n hx hb dX10_onceLine_156 rfl (lv_at hl 1 rfl) ?_
          refine lv_iconst (v := 0) hx hb dX10_onceLine_157 (by decide) ?_
          refine lv_bipush (v := 99) hx hb dX10_onceLine_158 (by decide) ?_
          refine t_calli (runV (As := [.int 0, .int 99]) (rest := [.int 29, .ref sa]) ⟨hx, hb, hml, hown, hts⟩ (t_X10_number l D cy base τ G_144 a h_a 0 99 tp k_146 ⟨by omega, by omega⟩ z_138 k_148 ⟨by omega, by omega⟩ (by show z_138.toInt ≤ tp.toInt; first | assumption | omega | decide)) sV_X10_186 hK (t_recv cf_11 hK hT h_a) ⟨Nat.le_trans hZ hS.1, hT⟩ ⟨Nat.le_of_ble_eq_true rfl, Nat.le_of_ble_eq_true rfl⟩ rfl hl.1 rfl (Nat.le_of_ble_eq_true rfl) dX10_onceLine_160 ⟨Nat.le_of_ble_eq_true rfl, Nat.le_of_ble_eq_true rfl⟩) hS (fun r_155 G_155 H locs hF_155 hr_155 hT hS => ?_)
          have hF := hF.tr hF_155 rfl
          have kx0 : ∀ j : Nat, j < 24 → G_155.1 sa j = G.1 sa j := fun j hj => (hF_155.i h_sa (by decide) rfl j).trans (kx0 j hj)
          have k_156 : sc = G_155.1 sa 25 := k_145.trans (hF_155.i h_sa (by decide) rfl _).symm
          obtain ⟨hr_155_p0, hr_155_p1, hr_155_p2, hr_155_s0⟩ := hr_155
          have k_161 : tp = G_155.1 a 6 := k_146.trans hr_155_s0.symm
          obtain ⟨z_162, ez_162, hr_155_p0, hr_155_p1, hr_155_p2⟩ : ∃ z_162 : Int32, z_162 = G_155.1 a 7 ∧ (z_138.toInt ≤ z_162.toInt) ∧ (z_162.toInt ≤ tp.toInt) ∧ (r_155.toInt = (0 : Int) ∨ ((0 : Int) ≤ r_155.toInt ∧ r_155.toInt ≤ (99 : Int))) := ⟨_, rfl, hr_155_p0, hr_155_p1, hr_155_p2⟩
          have rz_162 : 0 ≤ z_162.toInt ∧ z_162.toInt ≤ 1600 := by rw [ez_162]; exact hT.rgi h_a (by decide) 7
          refine t_iast (n := 30) (i := 29) (x := r_155) rfl (by decide) hx hb hK hT hS h_sa (hT.len h_sa (by decide)) ⟨by decide, by decide⟩ (show (29 % 6 = 0 → 0 ≤ r_155.toInt ∧ r_155.toInt ≤ 9) ∧ (29 % 6 = 1 → 0 ≤ r_155.toInt ∧ r_155.toInt ≤ 50) ∧ (29 % 6 = 3 → 0 ≤ r_155.toInt ∧ r_155.toInt ≤ 50) from by omega) dX10_onceLine_163 (fun H locs G_163 eG_163 hT hS => ?_)
          have hF := hF.wI eG_163 h_sa rfl
          have kx0 : ∀ j : Nat, j < 24 → G_163.1 sa j = G.1 sa j := fun j hj => (by rw [eG_163]; exact (wI_ne (k := 29) (Or.inr (by omega))).trans (kx0 j hj))
          have k_164 : sc = G_163.1 sa 25 := by rw [eG_163, wI_ne (Or.inr (by decide))]; exact k_156
          have k_165 : tp = G_163.1 a 6 := by rw [eG_163, wI_ne (Or.inl (tag_ne h_sa h_a (by decide)))]; exact k_161
          have k_166 : z_162 = G_163.1 a 7 := by rw [eG_163, wI_ne (Or.inl (tag_ne h_sa h_a (by decide)))]; exact ez_162
          exact ret_v hx hb hr hlocks ⟨⟨hS.1, hS.2.1⟩, G_163, hF, ⟨rfl, ⟨(by first | (show a0.toInt ≤ (G_163.1 a 7).toInt; rw [← k_166]; done) | (show a0.toInt ≤ (G_163.1 a 7).toInt; rw [← k_166]; show a0.toInt ≤ z_162.toInt; first | omega | assumption)), (by first | (show (G_163.1 a 7).toInt ≤ tp.toInt; rw [← k_166]; done) | (show (G_163.1 a 7).toInt ≤ tp.toInt; rw [← k_166]; show z_162.toInt ≤ tp.toInt; first | omega | assumption)), (by first | (show 1 ≤ (G_163.1 sa 25).toInt; rw [← k_164]; done) | (show 1 ≤ (G_163.1 sa 25).toInt; rw [← k_164]; show 1 ≤ sc.toInt; first | omega | assumption)), (k_165.symm.trans e_tp), kx0⟩⟩, hT⟩ hS.2.2 (Nat.le_of_ble_eq_true rfl) (Nat.le_of_ble_eq_true rfl) dX10_onceLine_164
        · skip
          have tc_151 : k.toInt = 1 := (fa_eq _ _).mp c_151
          refine lv_aload_n hx hb dX10_onceLine_109 rfl (lv_at hl 1 rfl) ?_
          refine t_getr cf_11 hx hb hts hown hK hT h_a (k := 24) (P := fun q => τ q = 74) rfl (fun _ h9 => h9) fl_X10_55 (fun _ h9 => h9) dX10_onceLine_110 (fun q_167 eq_167 hq_167 => ?_)
          have w_168 : sa = q_167 := Option.some.inj (e_sa.symm.trans ((hF.r h_a (by decide) rfl _).symm.trans eq_167))
          subst w_168
          refine lv_iload_n hx hb dX10_onceLine_113 rfl (lv_at hl 0 rfl) ?_
          refine lv_iconst (v := 3) hx hb dX10_onceLine_114 (by decide) ?_
          refine lv_iadd hx hb dX10_onceLine_115 ?_
          refine lv_topi (fun z_169 ez_169 => ?_)
          have ez_169 : z_169 = 27 := ez_169.trans (by decide)
          subst ez_169
          refine lv_aload_n hx hb dX10_onceLine_116 rfl (lv_at hl 1 rfl) ?_
          refine lv_ldc2 (v := 1627639) hx hb hown (hts _ kl_X10_220) dX10_onceLine_117 ?_
          refine lv_iconst (v := 1) hx hb dX10_onceLine_120 (by decide) ?_
          refine lv_bipush (v := 50) hx hb dX10_onceLine_121 (by decide) ?_
          refine t_calli (runV (As := [.long 1627639, .int 1, .int 50]) (rest := [.int 27, .ref sa]) ⟨hx, hb, hml, hown, hts⟩ (t_X10_number_ l D cy base τ G_144 a h_a 1627639 1 50 tp k_146 ⟨by omega, by omega⟩ z_138 k_148 ⟨by omega, by omega⟩ (by show z_138.toInt ≤ tp.toInt; first | assumption | omega | decide)) sV_X10_197 hK (t_recv cf_11 hK hT h_a) ⟨Nat.le_trans hZ hS.1, hT⟩ ⟨Nat.le_of_ble_eq_true rfl, Nat.le_of_ble_eq_true rfl⟩ rfl hl.1 rfl (Nat.le_of_ble_eq_true rfl) dX10_onceLine_123 ⟨Nat.le_of_ble_eq_true rfl, Nat.le_of_ble_eq_true rfl⟩) hS (fun r_170 G_170 H locs hF_170 hr_170 hT hS => ?_)
          have hF := hF.tr hF_170 rfl
          have kx0 : ∀ j : Nat, j < 24 → G_170.1 sa j = G.1 sa j := fun j hj => (hF_170.i h_sa (by decide) rfl j).trans (kx0 j hj)
          have k_171 : sc = G_170.1 sa 25 := k_145.trans (hF_170.i h_sa (by decide) rfl _).symm
          obtain ⟨hr_170_p0, hr_170_p1, hr_170_p2, hr_170_s0⟩ := hr_170
          have k_176 : tp = G_170.1 a 6 := k_146.trans hr_170_s0.symm
          obtain ⟨z_177, ez_177, hr_170_p0, hr_170_p1, hr_170_p2⟩ : ∃ z_177 : Int32, z_177 = G_170.1 a 7 ∧ (z_138.toInt ≤ z_177.toInt) ∧ (z_177.toInt ≤ tp.toInt) ∧ (r_170.toInt = (1 : Int) ∨ ((1 : Int) ≤ r_170.toInt ∧ r_170.toInt ≤ (50 : Int))) := ⟨_, rfl, hr_170_p0, hr_170_p1, hr_170_p2⟩
          have rz_177 : 0 ≤ z_177.toInt ∧ z_177.toInt ≤ 1600 := by rw [ez_177]; exact hT.rgi h_a (by decide) 7
          refine t_iast (n := 30) (i := 27) (x := r_170) rfl (by decide) hx hb hK hT hS h_sa (hT.len h_sa (by decide)) ⟨by decide, by decide⟩ (show (27 % 6 = 0 → 0 ≤ r_170.toInt ∧ r_170.toInt ≤ 9) ∧ (27 % 6 = 1 → 0 ≤ r_170.toInt ∧ r_170.toInt ≤ 50) ∧ (27 % 6 = 3 → 0 ≤ r_170.toInt ∧ r_170.toInt ≤ 50) from by omega) dX10_onceLine_126 (fun H locs G_178 eG_178 hT hS => ?_)
          have hF := hF.wI eG_178 h_sa rfl
          have kx0 : ∀ j : Nat, j < 24 → G_178.1 sa j = G.1 sa j := fun j hj => (by rw [eG_178]; exact (wI_ne (k := 27) (Or.inr (by omega))).trans (kx0 j hj))
          have k_179 : sc = G_178.1 sa 25 := by rw [eG_178, wI_ne (Or.inr (by decide))]; exact k_171
          have k_180 : tp = G_178.1 a 6 := by rw [eG_178, wI_ne (Or.inl (tag_ne h_sa h_a (by decide)))]; exact k_176
          have k_181 : z_177 = G_178.1 a 7 := by rw [eG_178, wI_ne (Or.inl (tag_ne h_sa h_a (by decide)))]; exact ez_177
          refine lv_aload_n hx hb dX10_onceLine_127 rfl (lv_at hl 1 rfl) ?_
          refine t_getr cf_11 hx hb hts hown hK hT h_a (k := 24) (P := fun q => τ q = 74) rfl (fun _ h9 => h9) fl_X10_55 (fun _ h9 => h9) dX10_onceLine_128 (fun q_182 eq_182 hq_182 => ?_)
          have w_183 : sa = q_182 := Option.some.inj (e_sa.symm.trans ((hF.r h_a (by decide) rfl _).symm.trans eq_182))
          subst w_183
          refine lv_iload_n hx hb dX10_onceLine_131 rfl (lv_at hl 0 rfl) ?_
          refine lv_iconst (v := 4) hx hb dX10_onceLine_132 (by decide) ?_
          refine lv_iadd hx hb dX10_onceLine_133 ?_
          refine lv_topi (fun z_184 ez_184 => ?_)
          have ez_184 : z_184 = 28 := ez_184.trans (by decide)
          subst ez_184
          refine lv_aload_n hx hb dX10_onceLine_134 rfl (lv_at hl 1 rfl) ?_
          refine lv_ldc2 (v := 70517) hx hb hown (hts _ kl_X10_222) dX10_onceLine_135 ?_
          refine lv_iconst (v := 0) hx hb dX10_onceLine_138 (by decide) ?_
          refine lv_sipush (v := 9999) hx hb dX10_onceLine_139 (by decide) ?_
          refine t_calli (runV (As := [.long 70517, .int 0, .int 9999]) (rest := [.int 28, .ref sa]) ⟨hx, hb, hml, hown, hts⟩ (t_X10_number_ l D cy base τ G_178 a h_a 70517 0 9999 tp k_180 ⟨by omega, by omega⟩ z_177 k_181 ⟨by omega, by omega⟩ (by show z_177.toInt ≤ tp.toInt; first | assumption | omega | decide)) sV_X10_197 hK (t_recv cf_11 hK hT h_a) ⟨Nat.le_trans hZ hS.1, hT⟩ ⟨Nat.le_of_ble_eq_true rfl, Nat.le_of_ble_eq_true rfl⟩ rfl hl.1 rfl (Nat.le_of_ble_eq_true rfl) dX10_onceLine_142 ⟨Nat.le_of_ble_eq_true rfl, Nat.le_of_ble_eq_true rfl⟩) hS (fun r_185 G_185 H locs hF_185 hr_185 hT hS => ?_)
          have hF := hF.tr hF_185 rfl
          have kx0 : ∀ j : Nat, j < 24 → G_185.1 sa j = G.1 sa j := fun j hj => (hF_185.i h_sa (by decide) rfl j).trans (kx0 j hj)
          have k_186 : sc = G_185.1 sa 25 := k_179.trans (hF_185.i h_sa (by decide) rfl _).symm
          obtain ⟨hr_185_p0, hr_185_p1, hr_185_p2, hr_185_s0⟩ := hr_185
          have k_189 : tp = G_185.1 a 6 := k_180.trans hr_185_s0.symm
          obtain ⟨z_190, ez_190, hr_185_p0, hr_185_p1, hr_185_p2⟩ : ∃ z_190 : Int32, z_190 = G_185.1 a 7 ∧ (z_177.toInt ≤ z_190.toInt) ∧ (z_190.toInt ≤ tp.toInt) ∧ (r_185.toInt = (0 : Int) ∨ ((0 : Int) ≤ r_185.toInt ∧ r_185.toInt ≤ (9999 : Int))) := ⟨_, rfl, hr_185_p0, hr_185_p1, hr_185_p2⟩
          have rz_190 : 0 ≤ z_190.toInt ∧ z_190.toInt ≤ 1600 := by rw [ez_190]; exact hT.rgi h_a (by decide) 7
          refine t_iast (n := 30) (i := 28) (x := r_185) rfl (by decide) hx hb hK hT hS h_sa (hT.len h_sa (by decide)) ⟨by decide, by decide⟩ (show (28 % 6 = 0 → 0 ≤ r_185.toInt ∧ r_185.toInt ≤ 9) ∧ (28 % 6 = 1 → 0 ≤ r_185.toInt ∧ r_185.toInt ≤ 50) ∧ (28 % 6 = 3 → 0 ≤ r_185.toInt ∧ r_185.toInt ≤ 50) from by omega) dX10_onceLine_145 (fun H locs G_191 eG_191 hT hS => ?_)
          have hF := hF.wI eG_191 h_sa rfl
          have kx0 : ∀ j : Nat, j < 24 → G_191.1 sa j = G.1 sa j := fun j hj => (by rw [eG_191]; exact (wI_ne (k := 28) (Or.inr (by omega))).trans (kx0 j hj))
          have k_192 : sc = G_191.1 sa 25 := by rw [eG_191, wI_ne (Or.inr (by decide))]; exact k_186
          have k_193 : tp = G_191.1 a 6 := by rw [eG_191, wI_ne (Or.inl (tag_ne h_sa h_a (by decide)))]; exact k_189
          have k_194 : z_190 = G_191.1 a 7 := by rw [eG_191, wI_ne (Or.inl (tag_ne h_sa h_a (by decide)))]; exact ez_190
          refine lv_goto (tgt := 164) hx hb dX10_onceLine_146 (by decide) ?_
          exact ret_v hx hb hr hlocks ⟨⟨hS.1, hS.2.1⟩, G_191, hF, ⟨rfl, ⟨(by first | (show a0.toInt ≤ (G_191.1 a 7).toInt; rw [← k_194]; done) | (show a0.toInt ≤ (G_191.1 a 7).toInt; rw [← k_194]; show a0.toInt ≤ z_190.toInt; first | omega | assumption)), (by first | (show (G_191.1 a 7).toInt ≤ tp.toInt; rw [← k_194]; done) | (show (G_191.1 a 7).toInt ≤ tp.toInt; rw [← k_194]; show z_190.toInt ≤ tp.toInt; first | omega | assumption)), (by first | (show 1 ≤ (G_191.1 sa 25).toInt; rw [← k_192]; done) | (show 1 ≤ (G_191.1 sa 25).toInt; rw [← k_192]; show 1 ≤ sc.toInt; first | omega | assumption)), (k_193.symm.trans e_tp), kx0⟩⟩, hT⟩ hS.2.2 (Nat.le_of_ble_eq_true rfl) (Nat.le_of_ble_eq_true rfl) dX10_onceLine_164
      · skip
        have tc_150 : k.toInt = 0 := (fa_eq _ _).mp c_150
        refine lv_aload_n hx hb dX10_onceLine_46 rfl (lv_at hl 1 rfl) ?_
        refine t_getr cf_11 hx hb hts hown hK hT h_a (k := 24) (P := fun q => τ q = 74) rfl (fun _ h9 => h9) fl_X10_55 (fun _ h9 => h9) dX10_onceLine_47 (fun q_195 eq_195 hq_195 => ?_)
        have w_196 : sa = q_195 := Option.some.inj (e_sa.symm.trans ((hF.r h_a (by decide) rfl _).symm.trans eq_195))
        subst w_196
        refine lv_iload_n hx hb dX10_onceLine_50 rfl (lv_at hl 0 rfl) ?_
        refine lv_iconst (v := 0) hx hb dX10_onceLine_51 (by decide) ?_
        refine lv_iadd hx hb dX10_onceLine_52 ?_
        refine lv_topi (fun z_197 ez_197 => ?_)
        have ez_197 : z_197 = 24 := ez_197.trans (by decide)
        subst ez_197
        refine lv_aload_n hx hb dX10_onceLine_53 rfl (lv_at hl 1 rfl) ?_
        refine lv_ldc2 (v := 257011) hx hb hown (hts _ kl_X10_218) dX10_onceLine_54 ?_
        refine lv_iconst (v := 1) hx hb dX10_onceLine_57 (by decide) ?_
        refine lv_bipush (v := 9) hx hb dX10_onceLine_58 (by decide) ?_
        refine t_calli (runV (As := [.long 257011, .int 1, .int 9]) (rest := [.int 24, .ref sa]) ⟨hx, hb, hml, hown, hts⟩ (t_X10_number_ l D cy base τ G_144 a h_a 257011 1 9 tp k_146 ⟨by omega, by omega⟩ z_138 k_148 ⟨by omega, by omega⟩ (by show z_138.toInt ≤ tp.toInt; first | assumption | omega | decide)) sV_X10_197 hK (t_recv cf_11 hK hT h_a) ⟨Nat.le_trans hZ hS.1, hT⟩ ⟨Nat.le_of_ble_eq_true rfl, Nat.le_of_ble_eq_true rfl⟩ rfl hl.1 rfl (Nat.le_of_ble_eq_true rfl) dX10_onceLine_60 ⟨Nat.le_of_ble_eq_true rfl, Nat.le_of_ble_eq_true rfl⟩) hS (fun r_198 G_198 H locs hF_198 hr_198 hT hS => ?_)
        have hF := hF.tr hF_198 rfl
        have kx0 : ∀ j : Nat, j < 24 → G_198.1 sa j = G.1 sa j := fun j hj => (hF_198.i h_sa (by decide) rfl j).trans (kx0 j hj)
        have k_199 : sc = G_198.1 sa 25 := k_145.trans (hF_198.i h_sa (by decide) rfl _).symm
        obtain ⟨hr_198_p0, hr_198_p1, hr_198_p2, hr_198_s0⟩ := hr_198
        have k_204 : tp = G_198.1 a 6 := k_146.trans hr_198_s0.symm
        obtain ⟨z_205, ez_205, hr_198_p0, hr_198_p1, hr_198_p2⟩ : ∃ z_205 : Int32, z_205 = G_198.1 a 7 ∧ (z_138.toInt ≤ z_205.toInt) ∧ (z_205.toInt ≤ tp.toInt) ∧ (r_198.toInt = (1 : Int) ∨ ((1 : Int) ≤ r_198.toInt ∧ r_198.toInt ≤ (9 : Int))) := ⟨_, rfl, hr_198_p0, hr_198_p1, hr_198_p2⟩
        have rz_205 : 0 ≤ z_205.toInt ∧ z_205.toInt ≤ 1600 := by rw [ez_205]; exact hT.rgi h_a (by decide) 7
        refine t_iast (n := 30) (i := 24) (x := r_198) rfl (by decide) hx hb hK hT hS h_sa (hT.len h_sa (by decide)) ⟨by decide, by decide⟩ (show (24 % 6 = 0 → 0 ≤ r_198.toInt ∧ r_198.toInt ≤ 9) ∧ (24 % 6 = 1 → 0 ≤ r_198.toInt ∧ r_198.toInt ≤ 50) ∧ (24 % 6 = 3 → 0 ≤ r_198.toInt ∧ r_198.toInt ≤ 50) from by omega) dX10_onceLine_63 (fun H locs G_206 eG_206 hT hS => ?_)
        have hF := hF.wI eG_206 h_sa rfl
        have kx0 : ∀ j : Nat, j < 24 → G_206.1 sa j = G.1 sa j := fun j hj => (by rw [eG_206]; exact (wI_ne (k := 24) (Or.inr (by omega))).trans (kx0 j hj))
        have k_207 : sc = G_206.1 sa 25 := by rw [eG_206, wI_ne (Or.inr (by decide))]; exact k_199
        have k_208 : tp = G_206.1 a 6 := by rw [eG_206, wI_ne (Or.inl (tag_ne h_sa h_a (by decide)))]; exact k_204
        have k_209 : z_205 = G_206.1 a 7 := by rw [eG_206, wI_ne (Or.inl (tag_ne h_sa h_a (by decide)))]; exact ez_205
        refine lv_aload_n hx hb dX10_onceLine_64 rfl (lv_at hl 1 rfl) ?_
        refine t_getr cf_11 hx hb hts hown hK hT h_a (k := 24) (P := fun q => τ q = 74) rfl (fun _ h9 => h9) fl_X10_55 (fun _ h9 => h9) dX10_onceLine_65 (fun q_210 eq_210 hq_210 => ?_)
        have w_211 : sa = q_210 := Option.some.inj (e_sa.symm.trans ((hF.r h_a (by decide) rfl _).symm.trans eq_210))
        subst w_211
        refine lv_iload_n hx hb dX10_onceLine_68 rfl (lv_at hl 0 rfl) ?_
        refine lv_iconst (v := 1) hx hb dX10_onceLine_69 (by decide) ?_
        refine lv_iadd hx hb dX10_onceLine_70 ?_
        refine lv_topi (fun z_212 ez_212 => ?_)
        have ez_212 : z_212 = 25 := ez_212.trans (by decide)
        subst ez_212
        refine lv_aload_n hx hb dX10_onceLine_71 rfl (lv_at hl 1 rfl) ?_
        refine lv_ldc2 (v := 1627639) hx hb hown (hts _ kl_X10_220) dX10_onceLine_72 ?_
        refine lv_iconst (v := 1) hx hb dX10_onceLine_75 (by decide) ?_
        refine lv_bipush (v := 50) hx hb dX10_onceLine_76 (by decide) ?_
        refine t_calli (runV (As := [.long 1627639, .int 1, .int 50]) (rest := [.int 25, .ref sa]) ⟨hx, hb, hml, hown, hts⟩ (t_X10_number_ l D cy base τ G_206 a h_a 1627639 1 50 tp k_208 ⟨by omega, by omega⟩ z_205 k_209 ⟨by omega, by omega⟩ (by show z_205.toInt ≤ tp.toInt; first | assumption | omega | decide)) sV_X10_197 hK (t_recv cf_11 hK hT h_a) ⟨Nat.le_trans hZ hS.1, hT⟩ ⟨Nat.le_of_ble_eq_true rfl, Nat.le_of_ble_eq_true rfl⟩ rfl hl.1 rfl (Nat.le_of_ble_eq_true rfl) dX10_onceLine_78 ⟨Nat.le_of_ble_eq_true rfl, Nat.le_of_ble_eq_true rfl⟩) hS (fun r_213 G_213 H locs hF_213 hr_213 hT hS => ?_)
        have hF := hF.tr hF_213 rfl
        have kx0 : ∀ j : Nat, j < 24 → G_213.1 sa j = G.1 sa j := fun j hj => (hF_213.i h_sa (by decide) rfl j).trans (kx0 j hj)
        have k_214 : sc = G_213.1 sa 25 := k_207.trans (hF_213.i h_sa (by decide) rfl _).symm
        obtain ⟨hr_213_p0, hr_213_p1, hr_213_p2, hr_213_s0⟩ := hr_213
        have k_217 : tp = G_213.1 a 6 := k_208.trans hr_213_s0.symm
        obtain ⟨z_218, ez_218, hr_213_p0, hr_213_p1, hr_213_p2⟩ : ∃ z_218 : Int32, z_218 = G_213.1 a 7 ∧ (z_205.toInt ≤ z_218.toInt) ∧ (z_218.toInt ≤ tp.toInt) ∧ (r_213.toInt = (1 : Int) ∨ ((1 : Int) ≤ r_213.toInt ∧ r_213.toInt ≤ (50 : Int))) := ⟨_, rfl, hr_213_p0, hr_213_p1, hr_213_p2⟩
        have rz_218 : 0 ≤ z_218.toInt ∧ z_218.toInt ≤ 1600 := by rw [ez_218]; exact hT.rgi h_a (by decide) 7
        refine t_iast (n := 30) (i := 25) (x := r_213) rfl (by decide) hx hb hK hT hS h_sa (hT.len h_sa (by decide)) ⟨by decide, by decide⟩ (show (25 % 6 = 0 → 0 ≤ r_213.toInt ∧ r_213.toInt ≤ 9) ∧ (25 % 6 = 1 → 0 ≤ r_213.toInt ∧ r_213.toInt ≤ 50) ∧ (25 % 6 = 3 → 0 ≤ r_213.toInt ∧ r_213.toInt ≤ 50) from by omega) dX10_onceLine_81 (fun H locs G_219 eG_219 hT hS => ?_)
        have hF := hF.wI eG_219 h_sa rfl
        have eG_219 : G_219 = wI G_213 sa 25 r_213 := eG_219
        have kx0 : ∀ j : Nat, j < 24 → G_219.1 sa j = G.1 sa j := fun j hj => (by rw [eG_219]; exact (wI_ne (k := 25) (Or.inr (by omega))).trans (kx0 j hj))
        have k_221 : tp = G_219.1 a 6 := by rw [eG_219, wI_ne (Or.inl (tag_ne h_sa h_a (by decide)))]; exact k_217
        have k_222 : z_218 = G_219.1 a 7 := by rw [eG_219, wI_ne (Or.inl (tag_ne h_sa h_a (by decide)))]; exact ez_218
        have k_223 : r_213 = G_219.1 sa 25 := by rw [eG_219, wI_at]
        refine lv_aload_n hx hb dX10_onceLine_82 rfl (lv_at hl 1 rfl) ?_
        refine t_getr cf_11 hx hb hts hown hK hT h_a (k := 24) (P := fun q => τ q = 74) rfl (fun _ h9 => h9) fl_X10_55 (fun _ h9 => h9) dX10_onceLine_83 (fun q_224 eq_224 hq_224 => ?_)
        have w_225 : sa = q_224 := Option.some.inj (e_sa.symm.trans ((hF.r h_a (by decide) rfl _).symm.trans eq_224))
        subst w_225
        refine lv_iload_n hx hb dX10_onceLine_86 rfl (lv_at hl 0 rfl) ?_
        refine lv_iconst (v := 2) hx hb dX10_onceLine_87 (by decide) ?_
        refine lv_iadd hx hb dX10_onceLine_88 ?_
        refine lv_topi (fun z_226 ez_226 => ?_)
        have ez_226 : z_226 = 26 := ez_226.trans (by decide)
        subst ez_226
        refine lv_aload_n hx hb dX10_onceLine_89 rfl (lv_at hl 1 rfl) ?_
        refine lv_ldc2 (v := 70517) hx hb hown (hts _ kl_X10_222) dX10_onceLine_90 ?_
        refine lv_iconst (v := 0) hx hb dX10_onceLine_93 (by decide) ?_
        refine lv_sipush (v := 999) hx hb dX10_onceLine_94 (by decide) ?_
        refine t_calli (runV (As := [.long 70517, .int 0, .int 999]) (rest := [.int 26, .ref sa]) ⟨hx, hb, hml, hown, hts⟩ (t_X10_number_ l D cy base τ G_219 a h_a 70517 0 999 tp k_221 ⟨by omega, by omega⟩ z_218 k_222 ⟨by omega, by omega⟩ (by show z_218.toInt ≤ tp.toInt; first | assumption | omega | decide)) sV_X10_197 hK (t_recv cf_11 hK hT h_a) ⟨Nat.le_trans hZ hS.1, hT⟩ ⟨Nat.le_of_ble_eq_true rfl, Nat.le_of_ble_eq_true rfl⟩ rfl hl.1 rfl (Nat.le_of_ble_eq_true rfl) dX10_onceLine_97 ⟨Nat.le_of_ble_eq_true rfl, Nat.le_of_ble_eq_true rfl⟩) hS (fun r_227 G_227 H locs hF_227 hr_227 hT hS => ?_)
        have hF := hF.tr hF_227 rfl
        have kx0 : ∀ j : Nat, j < 24 → G_227.1 sa j = G.1 sa j := fun j hj => (hF_227.i h_sa (by decide) rfl j).trans (kx0 j hj)
        have k_230 : r_213 = G_227.1 sa 25 := k_223.trans (hF_227.i h_sa (by decide) rfl _).symm
        obtain ⟨hr_227_p0, hr_227_p1, hr_227_p2, hr_227_s0⟩ := hr_227
        have k_231 : tp = G_227.1 a 6 := k_221.trans hr_227_s0.symm
        obtain ⟨z_232, ez_232, hr_227_p0, hr_227_p1, hr_227_p2⟩ : ∃ z_232 : Int32, z_232 = G_227.1 a 7 ∧ (z_218.toInt ≤ z_232.toInt) ∧ (z_232.toInt ≤ tp.toInt) ∧ (r_227.toInt = (0 : Int) ∨ ((0 : Int) ≤ r_227.toInt ∧ r_227.toInt ≤ (999 : Int))) := ⟨_, rfl, hr_227_p0, hr_227_p1, hr_227_p2⟩
        have rz_232 : 0 ≤ z_232.toInt ∧ z_232.toInt ≤ 1600 := by rw [ez_232]; exact hT.rgi h_a (by decide) 7
        refine t_iast (n := 30) (i := 26) (x := r_227) rfl (by decide) hx hb hK hT hS h_sa (hT.len h_sa (by decide)) ⟨by decide, by decide⟩ (show (26 % 6 = 0 → 0 ≤ r_227.toInt ∧ r_227.toInt ≤ 9) ∧ (26 % 6 = 1 → 0 ≤ r_227.toInt ∧ r_227.toInt ≤ 50) ∧ (26 % 6 = 3 → 0 ≤ r_227.toInt ∧ r_227.toInt ≤ 50) from by omega) dX10_onceLine_100 (fun H locs G_233 eG_233 hT hS => ?_)
        have hF := hF.wI eG_233 h_sa rfl
        have kx0 : ∀ j : Nat, j < 24 → G_233.1 sa j = G.1 sa j := fun j hj => (by rw [eG_233]; exact (wI_ne (k := 26) (Or.inr (by omega))).trans (kx0 j hj))
        have k_234 : r_213 = G_233.1 sa 25 := by rw [eG_233, wI_ne (Or.inr (by decide))]; exact k_230
        have k_235 : tp = G_233.1 a 6 := by rw [eG_233, wI_ne (Or.inl (tag_ne h_sa h_a (by decide)))]; exact k_231
        have k_236 : z_232 = G_233.1 a 7 := by rw [eG_233, wI_ne (Or.inl (tag_ne h_sa h_a (by decide)))]; exact ez_232
        refine lv_goto (tgt := 164) hx hb dX10_onceLine_101 (by decide) ?_
        exact ret_v hx hb hr hlocks ⟨⟨hS.1, hS.2.1⟩, G_233, hF, ⟨rfl, ⟨(by first | (show a0.toInt ≤ (G_233.1 a 7).toInt; rw [← k_236]; done) | (show a0.toInt ≤ (G_233.1 a 7).toInt; rw [← k_236]; show a0.toInt ≤ z_232.toInt; first | omega | assumption)), (by first | (show (G_233.1 a 7).toInt ≤ tp.toInt; rw [← k_236]; done) | (show (G_233.1 a 7).toInt ≤ tp.toInt; rw [← k_236]; show z_232.toInt ≤ tp.toInt; first | omega | assumption)), (by first | (show 1 ≤ (G_233.1 sa 25).toInt; rw [← k_234]; done) | (show 1 ≤ (G_233.1 sa 25).toInt; rw [← k_234]; show 1 ≤ r_213.toInt; first | omega | assumption)), (k_235.symm.trans e_tp), kx0⟩⟩, hT⟩ hS.2.2 (Nat.le_of_ble_eq_true rfl) (Nat.le_of_ble_eq_true rfl) dX10_onceLine_164
    · skip
      have tc_128 : ¬ z_125.toInt = 0 := fun h => c_128 ((fa_eq _ _).mpr h)
      exact ret_v hx hb hr hlocks ⟨⟨hS.1, hS.2.1⟩, G_116, hF, ⟨rfl, ⟨(by first | (show a0.toInt ≤ (G_116.1 a 7).toInt; rw [← k_123]; done) | (show a0.toInt ≤ (G_116.1 a 7).toInt; rw [← k_123]; show a0.toInt ≤ a0.toInt; first | omega | assumption)), (by first | (show (G_116.1 a 7).toInt ≤ tp.toInt; rw [← k_123]; done) | (show (G_116.1 a 7).toInt ≤ tp.toInt; rw [← k_123]; show a0.toInt ≤ tp.toInt; first | omega | assumption)), (by first | (show 1 ≤ (G_116.1 sa 25).toInt; rw [← k_119]; done) | (show 1 ≤ (G_116.1 sa 25).toInt; rw [← k_119]; show 1 ≤ sc.toInt; first | omega | assumption)), (k_122.symm.trans e_tp), kx0⟩⟩, hT⟩ hS.2.2 (Nat.le_of_ble_eq_true rfl) (Nat.le_of_ble_eq_true rfl) dX10_onceLine_24
