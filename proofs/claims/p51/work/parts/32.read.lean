theorem dX4_readWinter_0 : decode cX4_readWinter 0 = .ok (.aload_n 0, 1) := by decide +kernel
theorem dX4_readWinter_1 : decode cX4_readWinter 1 = .ok (.ldc 108, 2) := by decide +kernel
theorem dX4_readWinter_3 : decode cX4_readWinter 3 = .ok (.invokevirtual 110, 3) := by decide +kernel
theorem dX4_readWinter_6 : decode cX4_readWinter 6 = .ok (.aload_n 0, 1) := by decide +kernel
theorem dX4_readWinter_7 : decode cX4_readWinter 7 = .ok (.getfield 22, 3) := by decide +kernel
theorem dX4_readWinter_10 : decode cX4_readWinter 10 = .ok (.aload_n 0, 1) := by decide +kernel
theorem dX4_readWinter_11 : decode cX4_readWinter 11 = .ok (.ldc 114, 2) := by decide +kernel
theorem dX4_readWinter_13 : decode cX4_readWinter 13 = .ok (.iconst 1, 1) := by decide +kernel
theorem dX4_readWinter_14 : decode cX4_readWinter 14 = .ok (.bipush 60, 2) := by decide +kernel
theorem dX4_readWinter_16 : decode cX4_readWinter 16 = .ok (.invokevirtual 116, 3) := by decide +kernel
theorem dX4_readWinter_19 : decode cX4_readWinter 19 = .ok (.putfield 120, 3) := by decide +kernel
theorem dX4_readWinter_22 : decode cX4_readWinter 22 = .ok (.aload_n 0, 1) := by decide +kernel
theorem dX4_readWinter_23 : decode cX4_readWinter 23 = .ok (.getfield 22, 3) := by decide +kernel
theorem dX4_readWinter_26 : decode cX4_readWinter 26 = .ok (.aload_n 0, 1) := by decide +kernel
theorem dX4_readWinter_27 : decode cX4_readWinter 27 = .ok (.ldc 122, 2) := by decide +kernel
theorem dX4_readWinter_29 : decode cX4_readWinter 29 = .ok (.iconst 0, 1) := by decide +kernel
theorem dX4_readWinter_30 : decode cX4_readWinter 30 = .ok (.bipush 100, 2) := by decide +kernel
theorem dX4_readWinter_32 : decode cX4_readWinter 32 = .ok (.invokevirtual 116, 3) := by decide +kernel
theorem dX4_readWinter_35 : decode cX4_readWinter 35 = .ok (.putfield 124, 3) := by decide +kernel
theorem dX4_readWinter_38 : decode cX4_readWinter 38 = .ok (.aload_n 0, 1) := by decide +kernel
theorem dX4_readWinter_39 : decode cX4_readWinter 39 = .ok (.getfield 22, 3) := by decide +kernel
theorem dX4_readWinter_42 : decode cX4_readWinter 42 = .ok (.aload_n 0, 1) := by decide +kernel
theorem dX4_readWinter_43 : decode cX4_readWinter 43 = .ok (.ldc 126, 2) := by decide +kernel
theorem dX4_readWinter_45 : decode cX4_readWinter 45 = .ok (.iconst 0, 1) := by decide +kernel
theorem dX4_readWinter_46 : decode cX4_readWinter 46 = .ok (.bipush 100, 2) := by decide +kernel
theorem dX4_readWinter_48 : decode cX4_readWinter 48 = .ok (.invokevirtual 116, 3) := by decide +kernel
theorem dX4_readWinter_51 : decode cX4_readWinter 51 = .ok (.putfield 128, 3) := by decide +kernel
theorem dX4_readWinter_54 : decode cX4_readWinter 54 = .ok (.aload_n 0, 1) := by decide +kernel
theorem dX4_readWinter_55 : decode cX4_readWinter 55 = .ok (.getfield 22, 3) := by decide +kernel
theorem dX4_readWinter_58 : decode cX4_readWinter 58 = .ok (.aload_n 0, 1) := by decide +kernel
theorem dX4_readWinter_59 : decode cX4_readWinter 59 = .ok (.ldc 130, 2) := by decide +kernel
theorem dX4_readWinter_61 : decode cX4_readWinter 61 = .ok (.iconst 0, 1) := by decide +kernel
theorem dX4_readWinter_62 : decode cX4_readWinter 62 = .ok (.bipush 100, 2) := by decide +kernel
theorem dX4_readWinter_64 : decode cX4_readWinter 64 = .ok (.invokevirtual 116, 3) := by decide +kernel
theorem dX4_readWinter_67 : decode cX4_readWinter 67 = .ok (.putfield 132, 3) := by decide +kernel
theorem dX4_readWinter_70 : decode cX4_readWinter 70 = .ok (.return_, 1) := by decide +kernel
theorem dX4_readThing_0 : decode cX4_readThing 0 = .ok (.aload_n 0, 1) := by decide +kernel
theorem dX4_readThing_1 : decode cX4_readThing 1 = .ok (.getfield 22, 3) := by decide +kernel
theorem dX4_readThing_4 : decode cX4_readThing 4 = .ok (.getfield 134, 3) := by decide +kernel
theorem dX4_readThing_7 : decode cX4_readThing 7 = .ok (.istore_n 1, 1) := by decide +kernel
theorem dX4_readThing_8 : decode cX4_readThing 8 = .ok (.iload_n 1, 1) := by decide +kernel
theorem dX4_readThing_9 : decode cX4_readThing 9 = .ok (.iconst 3, 1) := by decide +kernel
theorem dX4_readThing_10 : decode cX4_readThing 10 = .ok (.if_icmp .lt 9, 3) := by decide +kernel
theorem dX4_readThing_19 : decode cX4_readThing 19 = .ok (.aload_n 0, 1) := by decide +kernel
theorem dX4_readThing_20 : decode cX4_readThing 20 = .ok (.ldc 45, 2) := by decide +kernel
theorem dX4_readThing_22 : decode cX4_readThing 22 = .ok (.invokevirtual 110, 3) := by decide +kernel
theorem dX4_readThing_25 : decode cX4_readThing 25 = .ok (.aload_n 0, 1) := by decide +kernel
theorem dX4_readThing_26 : decode cX4_readThing 26 = .ok (.getfield 22, 3) := by decide +kernel
theorem dX4_readThing_29 : decode cX4_readThing 29 = .ok (.getfield 137, 3) := by decide +kernel
theorem dX4_readThing_32 : decode cX4_readThing 32 = .ok (.iload_n 1, 1) := by decide +kernel
theorem dX4_readThing_33 : decode cX4_readThing 33 = .ok (.aload_n 0, 1) := by decide +kernel
theorem dX4_readThing_34 : decode cX4_readThing 34 = .ok (.ldc 141, 2) := by decide +kernel
theorem dX4_readThing_36 : decode cX4_readThing 36 = .ok (.iconst 0, 1) := by decide +kernel
theorem dX4_readThing_37 : decode cX4_readThing 37 = .ok (.bipush 99, 2) := by decide +kernel
theorem dX4_readThing_39 : decode cX4_readThing 39 = .ok (.invokevirtual 116, 3) := by decide +kernel
theorem dX4_readThing_42 : decode cX4_readThing 42 = .ok (.iastore, 1) := by decide +kernel
theorem dX4_readThing_43 : decode cX4_readThing 43 = .ok (.aload_n 0, 1) := by decide +kernel
theorem dX4_readThing_44 : decode cX4_readThing 44 = .ok (.getfield 22, 3) := by decide +kernel
theorem dX4_readThing_47 : decode cX4_readThing 47 = .ok (.getfield 142, 3) := by decide +kernel
theorem dX4_readThing_50 : decode cX4_readThing 50 = .ok (.iload_n 1, 1) := by decide +kernel
theorem dX4_readThing_51 : decode cX4_readThing 51 = .ok (.aload_n 0, 1) := by decide +kernel
theorem dX4_readThing_52 : decode cX4_readThing 52 = .ok (.ldc 145, 2) := by decide +kernel
theorem dX4_readThing_54 : decode cX4_readThing 54 = .ok (.iconst 0, 1) := by decide +kernel
theorem dX4_readThing_55 : decode cX4_readThing 55 = .ok (.sipush 999, 3) := by decide +kernel
theorem dX4_readThing_58 : decode cX4_readThing 58 = .ok (.invokevirtual 116, 3) := by decide +kernel
theorem dX4_readThing_61 : decode cX4_readThing 61 = .ok (.iastore, 1) := by decide +kernel
theorem dX4_readThing_62 : decode cX4_readThing 62 = .ok (.aload_n 0, 1) := by decide +kernel
theorem dX4_readThing_63 : decode cX4_readThing 63 = .ok (.getfield 22, 3) := by decide +kernel
theorem dX4_readThing_66 : decode cX4_readThing 66 = .ok (.getfield 146, 3) := by decide +kernel
theorem dX4_readThing_69 : decode cX4_readThing 69 = .ok (.iload_n 1, 1) := by decide +kernel
theorem dX4_readThing_70 : decode cX4_readThing 70 = .ok (.aload_n 0, 1) := by decide +kernel
theorem dX4_readThing_71 : decode cX4_readThing 71 = .ok (.ldc 149, 2) := by decide +kernel
theorem dX4_readThing_73 : decode cX4_readThing 73 = .ok (.iconst 0, 1) := by decide +kernel
theorem dX4_readThing_74 : decode cX4_readThing 74 = .ok (.bipush 99, 2) := by decide +kernel
theorem dX4_readThing_76 : decode cX4_readThing 76 = .ok (.invokevirtual 116, 3) := by decide +kernel
theorem dX4_readThing_79 : decode cX4_readThing 79 = .ok (.iastore, 1) := by decide +kernel
theorem dX4_readThing_80 : decode cX4_readThing 80 = .ok (.aload_n 0, 1) := by decide +kernel
theorem dX4_readThing_81 : decode cX4_readThing 81 = .ok (.getfield 22, 3) := by decide +kernel
theorem dX4_readThing_84 : decode cX4_readThing 84 = .ok (.iload_n 1, 1) := by decide +kernel
theorem dX4_readThing_85 : decode cX4_readThing 85 = .ok (.iconst 1, 1) := by decide +kernel
theorem dX4_readThing_86 : decode cX4_readThing 86 = .ok (.iadd, 1) := by decide +kernel
theorem dX4_readThing_87 : decode cX4_readThing 87 = .ok (.putfield 134, 3) := by decide +kernel
theorem dX4_readThing_90 : decode cX4_readThing 90 = .ok (.return_, 1) := by decide +kernel
theorem dX4_readThing_13 : decode cX4_readThing 13 = .ok (.aload_n 0, 1) := by decide +kernel
theorem dX4_readThing_14 : decode cX4_readThing 14 = .ok (.iconst 3, 1) := by decide +kernel
theorem dX4_readThing_15 : decode cX4_readThing 15 = .ok (.invokevirtual 79, 3) := by decide +kernel
theorem dX4_readThing_18 : decode cX4_readThing 18 = .ok (.return_, 1) := by decide +kernel
theorem dX4_readValley_0 : decode cX4_readValley 0 = .ok (.aload_n 0, 1) := by decide +kernel
theorem dX4_readValley_1 : decode cX4_readValley 1 = .ok (.getfield 22, 3) := by decide +kernel
theorem dX4_readValley_4 : decode cX4_readValley 4 = .ok (.getfield 151, 3) := by decide +kernel
theorem dX4_readValley_7 : decode cX4_readValley 7 = .ok (.istore_n 1, 1) := by decide +kernel
theorem dX4_readValley_8 : decode cX4_readValley 8 = .ok (.iload_n 1, 1) := by decide +kernel
theorem dX4_readValley_9 : decode cX4_readValley 9 = .ok (.bipush 6, 2) := by decide +kernel
theorem dX4_readValley_11 : decode cX4_readValley 11 = .ok (.if_icmp .lt 9, 3) := by decide +kernel
theorem dX4_readValley_20 : decode cX4_readValley 20 = .ok (.aload_n 0, 1) := by decide +kernel
theorem dX4_readValley_21 : decode cX4_readValley 21 = .ok (.ldc 54, 2) := by decide +kernel
theorem dX4_readValley_23 : decode cX4_readValley 23 = .ok (.invokevirtual 110, 3) := by decide +kernel
theorem dX4_readValley_26 : decode cX4_readValley 26 = .ok (.aload_n 0, 1) := by decide +kernel
theorem dX4_readValley_27 : decode cX4_readValley 27 = .ok (.getfield 22, 3) := by decide +kernel
theorem dX4_readValley_30 : decode cX4_readValley 30 = .ok (.getfield 154, 3) := by decide +kernel
theorem dX4_readValley_33 : decode cX4_readValley 33 = .ok (.iload_n 1, 1) := by decide +kernel
theorem dX4_readValley_34 : decode cX4_readValley 34 = .ok (.aload_n 0, 1) := by decide +kernel
theorem dX4_readValley_35 : decode cX4_readValley 35 = .ok (.ldc 157, 2) := by decide +kernel
theorem dX4_readValley_37 : decode cX4_readValley 37 = .ok (.iconst 0, 1) := by decide +kernel
theorem dX4_readValley_38 : decode cX4_readValley 38 = .ok (.bipush 100, 2) := by decide +kernel
theorem dX4_readValley_40 : decode cX4_readValley 40 = .ok (.invokevirtual 116, 3) := by decide +kernel
theorem dX4_readValley_43 : decode cX4_readValley 43 = .ok (.iastore, 1) := by decide +kernel
theorem dX4_readValley_44 : decode cX4_readValley 44 = .ok (.aload_n 0, 1) := by decide +kernel
theorem dX4_readValley_45 : decode cX4_readValley 45 = .ok (.getfield 22, 3) := by decide +kernel
theorem dX4_readValley_48 : decode cX4_readValley 48 = .ok (.getfield 159, 3) := by decide +kernel
theorem dX4_readValley_51 : decode cX4_readValley 51 = .ok (.iload_n 1, 1) := by decide +kernel
theorem dX4_readValley_52 : decode cX4_readValley 52 = .ok (.aload_n 0, 1) := by decide +kernel
theorem dX4_readValley_53 : decode cX4_readValley 53 = .ok (.ldc 162, 2) := by decide +kernel
theorem dX4_readValley_55 : decode cX4_readValley 55 = .ok (.iconst 0, 1) := by decide +kernel
theorem dX4_readValley_56 : decode cX4_readValley 56 = .ok (.sipush 999, 3) := by decide +kernel
theorem dX4_readValley_59 : decode cX4_readValley 59 = .ok (.invokevirtual 116, 3) := by decide +kernel
theorem dX4_readValley_62 : decode cX4_readValley 62 = .ok (.iastore, 1) := by decide +kernel
theorem dX4_readValley_63 : decode cX4_readValley 63 = .ok (.aload_n 0, 1) := by decide +kernel
theorem dX4_readValley_64 : decode cX4_readValley 64 = .ok (.ldc 163, 2) := by decide +kernel
theorem dX4_readValley_66 : decode cX4_readValley 66 = .ok (.invokevirtual 110, 3) := by decide +kernel
theorem dX4_readValley_69 : decode cX4_readValley 69 = .ok (.iconst 0, 1) := by decide +kernel
theorem dX4_readValley_70 : decode cX4_readValley 70 = .ok (.istore_n 2, 1) := by decide +kernel
theorem dX4_readValley_71 : decode cX4_readValley 71 = .ok (.iload_n 2, 1) := by decide +kernel
theorem dX4_readValley_72 : decode cX4_readValley 72 = .ok (.aload_n 0, 1) := by decide +kernel
theorem dX4_readValley_73 : decode cX4_readValley 73 = .ok (.getfield 22, 3) := by decide +kernel
theorem dX4_readValley_76 : decode cX4_readValley 76 = .ok (.getfield 134, 3) := by decide +kernel
theorem dX4_readValley_79 : decode cX4_readValley 79 = .ok (.if_icmp .ge 29, 3) := by decide +kernel
theorem dX4_readValley_108 : decode cX4_readValley 108 = .ok (.aload_n 0, 1) := by decide +kernel
theorem dX4_readValley_109 : decode cX4_readValley 109 = .ok (.getfield 22, 3) := by decide +kernel
theorem dX4_readValley_112 : decode cX4_readValley 112 = .ok (.iload_n 1, 1) := by decide +kernel
theorem dX4_readValley_113 : decode cX4_readValley 113 = .ok (.iconst 1, 1) := by decide +kernel
theorem dX4_readValley_114 : decode cX4_readValley 114 = .ok (.iadd, 1) := by decide +kernel
theorem dX4_readValley_115 : decode cX4_readValley 115 = .ok (.putfield 151, 3) := by decide +kernel
theorem dX4_readValley_118 : decode cX4_readValley 118 = .ok (.return_, 1) := by decide +kernel
theorem dX4_readValley_82 : decode cX4_readValley 82 = .ok (.aload_n 0, 1) := by decide +kernel
theorem dX4_readValley_83 : decode cX4_readValley 83 = .ok (.getfield 22, 3) := by decide +kernel
theorem dX4_readValley_86 : decode cX4_readValley 86 = .ok (.getfield 165, 3) := by decide +kernel
theorem dX4_readValley_89 : decode cX4_readValley 89 = .ok (.iload_n 1, 1) := by decide +kernel
theorem dX4_readValley_90 : decode cX4_readValley 90 = .ok (.iconst 3, 1) := by decide +kernel
theorem dX4_readValley_91 : decode cX4_readValley 91 = .ok (.imul, 1) := by decide +kernel
theorem dX4_readValley_92 : decode cX4_readValley 92 = .ok (.iload_n 2, 1) := by decide +kernel
theorem dX4_readValley_93 : decode cX4_readValley 93 = .ok (.iadd, 1) := by decide +kernel
theorem dX4_readValley_94 : decode cX4_readValley 94 = .ok (.aload_n 0, 1) := by decide +kernel
theorem dX4_readValley_95 : decode cX4_readValley 95 = .ok (.iconst 0, 1) := by decide +kernel
theorem dX4_readValley_96 : decode cX4_readValley 96 = .ok (.bipush 9, 2) := by decide +kernel
theorem dX4_readValley_98 : decode cX4_readValley 98 = .ok (.invokevirtual 168, 3) := by decide +kernel
theorem dX4_readValley_101 : decode cX4_readValley 101 = .ok (.iastore, 1) := by decide +kernel
theorem dX4_readValley_102 : decode cX4_readValley 102 = .ok (.iinc 2 1, 3) := by decide +kernel
theorem dX4_readValley_105 : decode cX4_readValley 105 = .ok (.goto (-34), 3) := by decide +kernel
theorem dX4_readValley_14 : decode cX4_readValley 14 = .ok (.aload_n 0, 1) := by decide +kernel
theorem dX4_readValley_15 : decode cX4_readValley 15 = .ok (.iconst 3, 1) := by decide +kernel
theorem dX4_readValley_16 : decode cX4_readValley 16 = .ok (.invokevirtual 79, 3) := by decide +kernel
theorem dX4_readValley_19 : decode cX4_readValley 19 = .ok (.return_, 1) := by decide +kernel
theorem dX4_readLorry_0 : decode cX4_readLorry 0 = .ok (.aload_n 0, 1) := by decide +kernel
theorem dX4_readLorry_1 : decode cX4_readLorry 1 = .ok (.getfield 95, 3) := by decide +kernel
theorem dX4_readLorry_4 : decode cX4_readLorry 4 = .ok (.ifCond .eq 8, 3) := by decide +kernel
theorem dX4_readLorry_12 : decode cX4_readLorry 12 = .ok (.aload_n 0, 1) := by decide +kernel
theorem dX4_readLorry_13 : decode cX4_readLorry 13 = .ok (.iconst 1, 1) := by decide +kernel
theorem dX4_readLorry_14 : decode cX4_readLorry 14 = .ok (.putfield 95, 3) := by decide +kernel
theorem dX4_readLorry_17 : decode cX4_readLorry 17 = .ok (.aload_n 0, 1) := by decide +kernel
theorem dX4_readLorry_18 : decode cX4_readLorry 18 = .ok (.ldc 59, 2) := by decide +kernel
theorem dX4_readLorry_20 : decode cX4_readLorry 20 = .ok (.invokevirtual 110, 3) := by decide +kernel
theorem dX4_readLorry_23 : decode cX4_readLorry 23 = .ok (.aload_n 0, 1) := by decide +kernel
theorem dX4_readLorry_24 : decode cX4_readLorry 24 = .ok (.getfield 22, 3) := by decide +kernel
theorem dX4_readLorry_27 : decode cX4_readLorry 27 = .ok (.aload_n 0, 1) := by decide +kernel
theorem dX4_readLorry_28 : decode cX4_readLorry 28 = .ok (.ldc 171, 2) := by decide +kernel
theorem dX4_readLorry_30 : decode cX4_readLorry 30 = .ok (.iconst 1, 1) := by decide +kernel
theorem dX4_readLorry_31 : decode cX4_readLorry 31 = .ok (.bipush 9, 2) := by decide +kernel
theorem dX4_readLorry_33 : decode cX4_readLorry 33 = .ok (.invokevirtual 116, 3) := by decide +kernel
theorem dX4_readLorry_36 : decode cX4_readLorry 36 = .ok (.putfield 173, 3) := by decide +kernel
theorem dX4_readLorry_39 : decode cX4_readLorry 39 = .ok (.aload_n 0, 1) := by decide +kernel
theorem dX4_readLorry_40 : decode cX4_readLorry 40 = .ok (.getfield 22, 3) := by decide +kernel
theorem dX4_readLorry_43 : decode cX4_readLorry 43 = .ok (.aload_n 0, 1) := by decide +kernel
theorem dX4_readLorry_44 : decode cX4_readLorry 44 = .ok (.ldc 176, 2) := by decide +kernel
theorem dX4_readLorry_46 : decode cX4_readLorry 46 = .ok (.iconst 1, 1) := by decide +kernel
theorem dX4_readLorry_47 : decode cX4_readLorry 47 = .ok (.bipush 50, 2) := by decide +kernel
theorem dX4_readLorry_49 : decode cX4_readLorry 49 = .ok (.invokevirtual 116, 3) := by decide +kernel
theorem dX4_readLorry_52 : decode cX4_readLorry 52 = .ok (.putfield 178, 3) := by decide +kernel
theorem dX4_readLorry_55 : decode cX4_readLorry 55 = .ok (.aload_n 0, 1) := by decide +kernel
theorem dX4_readLorry_56 : decode cX4_readLorry 56 = .ok (.getfield 22, 3) := by decide +kernel
theorem dX4_readLorry_59 : decode cX4_readLorry 59 = .ok (.aload_n 0, 1) := by decide +kernel
theorem dX4_readLorry_60 : decode cX4_readLorry 60 = .ok (.ldc 181, 2) := by decide +kernel
theorem dX4_readLorry_62 : decode cX4_readLorry 62 = .ok (.iconst 0, 1) := by decide +kernel
theorem dX4_readLorry_63 : decode cX4_readLorry 63 = .ok (.sipush 999, 3) := by decide +kernel
theorem dX4_readLorry_66 : decode cX4_readLorry 66 = .ok (.invokevirtual 116, 3) := by decide +kernel
theorem dX4_readLorry_69 : decode cX4_readLorry 69 = .ok (.putfield 183, 3) := by decide +kernel
theorem dX4_readLorry_72 : decode cX4_readLorry 72 = .ok (.return_, 1) := by decide +kernel
theorem dX4_readLorry_7 : decode cX4_readLorry 7 = .ok (.aload_n 0, 1) := by decide +kernel
theorem dX4_readLorry_8 : decode cX4_readLorry 8 = .ok (.iconst 2, 1) := by decide +kernel
theorem dX4_readLorry_9 : decode cX4_readLorry 9 = .ok (.invokevirtual 79, 3) := by decide +kernel
theorem dX4_readPlane_0 : decode cX4_readPlane 0 = .ok (.aload_n 0, 1) := by decide +kernel
theorem dX4_readPlane_1 : decode cX4_readPlane 1 = .ok (.getfield 99, 3) := by decide +kernel
theorem dX4_readPlane_4 : decode cX4_readPlane 4 = .ok (.ifCond .eq 8, 3) := by decide +kernel
theorem dX4_readPlane_12 : decode cX4_readPlane 12 = .ok (.aload_n 0, 1) := by decide +kernel
theorem dX4_readPlane_13 : decode cX4_readPlane 13 = .ok (.iconst 1, 1) := by decide +kernel
theorem dX4_readPlane_14 : decode cX4_readPlane 14 = .ok (.putfield 99, 3) := by decide +kernel
theorem dX4_readPlane_17 : decode cX4_readPlane 17 = .ok (.aload_n 0, 1) := by decide +kernel
theorem dX4_readPlane_18 : decode cX4_readPlane 18 = .ok (.ldc 64, 2) := by decide +kernel
theorem dX4_readPlane_20 : decode cX4_readPlane 20 = .ok (.invokevirtual 110, 3) := by decide +kernel
theorem dX4_readPlane_23 : decode cX4_readPlane 23 = .ok (.aload_n 0, 1) := by decide +kernel
theorem dX4_readPlane_24 : decode cX4_readPlane 24 = .ok (.getfield 22, 3) := by decide +kernel
theorem dX4_readPlane_27 : decode cX4_readPlane 27 = .ok (.aload_n 0, 1) := by decide +kernel
theorem dX4_readPlane_28 : decode cX4_readPlane 28 = .ok (.ldc 176, 2) := by decide +kernel
theorem dX4_readPlane_30 : decode cX4_readPlane 30 = .ok (.iconst 1, 1) := by decide +kernel
theorem dX4_readPlane_31 : decode cX4_readPlane 31 = .ok (.bipush 50, 2) := by decide +kernel
theorem dX4_readPlane_33 : decode cX4_readPlane 33 = .ok (.invokevirtual 116, 3) := by decide +kernel
theorem dX4_readPlane_36 : decode cX4_readPlane 36 = .ok (.putfield 186, 3) := by decide +kernel
theorem dX4_readPlane_39 : decode cX4_readPlane 39 = .ok (.aload_n 0, 1) := by decide +kernel
theorem dX4_readPlane_40 : decode cX4_readPlane 40 = .ok (.getfield 22, 3) := by decide +kernel
theorem dX4_readPlane_43 : decode cX4_readPlane 43 = .ok (.aload_n 0, 1) := by decide +kernel
theorem dX4_readPlane_44 : decode cX4_readPlane 44 = .ok (.ldc 181, 2) := by decide +kernel
theorem dX4_readPlane_46 : decode cX4_readPlane 46 = .ok (.iconst 0, 1) := by decide +kernel
theorem dX4_readPlane_47 : decode cX4_readPlane 47 = .ok (.sipush 9999, 3) := by decide +kernel
theorem dX4_readPlane_50 : decode cX4_readPlane 50 = .ok (.invokevirtual 116, 3) := by decide +kernel
theorem dX4_readPlane_53 : decode cX4_readPlane 53 = .ok (.putfield 189, 3) := by decide +kernel
theorem dX4_readPlane_56 : decode cX4_readPlane 56 = .ok (.return_, 1) := by decide +kernel
theorem dX4_readPlane_7 : decode cX4_readPlane 7 = .ok (.aload_n 0, 1) := by decide +kernel
theorem dX4_readPlane_8 : decode cX4_readPlane 8 = .ok (.iconst 2, 1) := by decide +kernel
theorem dX4_readPlane_9 : decode cX4_readPlane 9 = .ok (.invokevirtual 79, 3) := by decide +kernel
theorem dX4_readMule_0 : decode cX4_readMule 0 = .ok (.aload_n 0, 1) := by decide +kernel
theorem dX4_readMule_1 : decode cX4_readMule 1 = .ok (.getfield 102, 3) := by decide +kernel
theorem dX4_readMule_4 : decode cX4_readMule 4 = .ok (.ifCond .eq 8, 3) := by decide +kernel
theorem dX4_readMule_12 : decode cX4_readMule 12 = .ok (.aload_n 0, 1) := by decide +kernel
theorem dX4_readMule_13 : decode cX4_readMule 13 = .ok (.iconst 1, 1) := by decide +kernel
theorem dX4_readMule_14 : decode cX4_readMule 14 = .ok (.putfield 102, 3) := by decide +kernel
theorem dX4_readMule_17 : decode cX4_readMule 17 = .ok (.aload_n 0, 1) := by decide +kernel
theorem dX4_readMule_18 : decode cX4_readMule 18 = .ok (.getfield 22, 3) := by decide +kernel
theorem dX4_readMule_21 : decode cX4_readMule 21 = .ok (.aload_n 0, 1) := by decide +kernel
theorem dX4_readMule_22 : decode cX4_readMule 22 = .ok (.ldc 69, 2) := by decide +kernel
theorem dX4_readMule_24 : decode cX4_readMule 24 = .ok (.iconst 0, 1) := by decide +kernel
theorem dX4_readMule_25 : decode cX4_readMule 25 = .ok (.bipush 99, 2) := by decide +kernel
theorem dX4_readMule_27 : decode cX4_readMule 27 = .ok (.invokevirtual 116, 3) := by decide +kernel
theorem dX4_readMule_30 : decode cX4_readMule 30 = .ok (.putfield 192, 3) := by decide +kernel
theorem dX4_readMule_33 : decode cX4_readMule 33 = .ok (.return_, 1) := by decide +kernel
theorem dX4_readMule_7 : decode cX4_readMule 7 = .ok (.aload_n 0, 1) := by decide +kernel
theorem dX4_readMule_8 : decode cX4_readMule 8 = .ok (.iconst 2, 1) := by decide +kernel
theorem dX4_readMule_9 : decode cX4_readMule 9 = .ok (.invokevirtual 79, 3) := by decide +kernel
theorem dX4_readPath_0 : decode cX4_readPath 0 = .ok (.aload_n 0, 1) := by decide +kernel
theorem dX4_readPath_1 : decode cX4_readPath 1 = .ok (.getfield 22, 3) := by decide +kernel
theorem dX4_readPath_4 : decode cX4_readPath 4 = .ok (.getfield 194, 3) := by decide +kernel
theorem dX4_readPath_7 : decode cX4_readPath 7 = .ok (.bipush 8, 2) := by decide +kernel
theorem dX4_readPath_9 : decode cX4_readPath 9 = .ok (.if_icmp .lt 8, 3) := by decide +kernel
theorem dX4_readPath_17 : decode cX4_readPath 17 = .ok (.aload_n 0, 1) := by decide +kernel
theorem dX4_readPath_18 : decode cX4_readPath 18 = .ok (.ldc 74, 2) := by decide +kernel
theorem dX4_readPath_20 : decode cX4_readPath 20 = .ok (.invokevirtual 110, 3) := by decide +kernel
theorem dX4_readPath_23 : decode cX4_readPath 23 = .ok (.aload_n 0, 1) := by decide +kernel
theorem dX4_readPath_24 : decode cX4_readPath 24 = .ok (.iconst 0, 1) := by decide +kernel
theorem dX4_readPath_25 : decode cX4_readPath 25 = .ok (.aload_n 0, 1) := by decide +kernel
theorem dX4_readPath_26 : decode cX4_readPath 26 = .ok (.getfield 22, 3) := by decide +kernel
theorem dX4_readPath_29 : decode cX4_readPath 29 = .ok (.getfield 151, 3) := by decide +kernel
theorem dX4_readPath_32 : decode cX4_readPath 32 = .ok (.iconst 1, 1) := by decide +kernel
theorem dX4_readPath_33 : decode cX4_readPath 33 = .ok (.isub, 1) := by decide +kernel
theorem dX4_readPath_34 : decode cX4_readPath 34 = .ok (.invokevirtual 168, 3) := by decide +kernel
theorem dX4_readPath_37 : decode cX4_readPath 37 = .ok (.istore_n 1, 1) := by decide +kernel
theorem dX4_readPath_38 : decode cX4_readPath 38 = .ok (.aload_n 0, 1) := by decide +kernel
theorem dX4_readPath_39 : decode cX4_readPath 39 = .ok (.getfield 33, 3) := by decide +kernel
theorem dX4_readPath_42 : decode cX4_readPath 42 = .ok (.iconst 2, 1) := by decide +kernel
theorem dX4_readPath_43 : decode cX4_readPath 43 = .ok (.if_icmp .ne 31, 3) := by decide +kernel
theorem dX4_readPath_74 : decode cX4_readPath 74 = .ok (.aload_n 0, 1) := by decide +kernel
theorem dX4_readPath_75 : decode cX4_readPath 75 = .ok (.iconst 0, 1) := by decide +kernel
theorem dX4_readPath_76 : decode cX4_readPath 76 = .ok (.aload_n 0, 1) := by decide +kernel
theorem dX4_readPath_77 : decode cX4_readPath 77 = .ok (.getfield 22, 3) := by decide +kernel
theorem dX4_readPath_80 : decode cX4_readPath 80 = .ok (.getfield 151, 3) := by decide +kernel
theorem dX4_readPath_83 : decode cX4_readPath 83 = .ok (.iconst 1, 1) := by decide +kernel
theorem dX4_readPath_84 : decode cX4_readPath 84 = .ok (.isub, 1) := by decide +kernel
theorem dX4_readPath_85 : decode cX4_readPath 85 = .ok (.invokevirtual 168, 3) := by decide +kernel
theorem dX4_readPath_88 : decode cX4_readPath 88 = .ok (.istore_n 2, 1) := by decide +kernel
theorem dX4_readPath_89 : decode cX4_readPath 89 = .ok (.aload_n 0, 1) := by decide +kernel
theorem dX4_readPath_90 : decode cX4_readPath 90 = .ok (.ldc 114, 2) := by decide +kernel
theorem dX4_readPath_92 : decode cX4_readPath 92 = .ok (.iconst 1, 1) := by decide +kernel
theorem dX4_readPath_93 : decode cX4_readPath 93 = .ok (.bipush 30, 2) := by decide +kernel
theorem dX4_readPath_95 : decode cX4_readPath 95 = .ok (.invokevirtual 116, 3) := by decide +kernel
theorem dX4_readPath_98 : decode cX4_readPath 98 = .ok (.istore_n 3, 1) := by decide +kernel
theorem dX4_readPath_99 : decode cX4_readPath 99 = .ok (.aload_n 0, 1) := by decide +kernel
theorem dX4_readPath_100 : decode cX4_readPath 100 = .ok (.getfield 36, 3) := by decide +kernel
theorem dX4_readPath_103 : decode cX4_readPath 103 = .ok (.ifCond .ne 58, 3) := by decide +kernel
theorem dX4_readPath_161 : decode cX4_readPath 161 = .ok (.return_, 1) := by decide +kernel
theorem dX4_readPath_106 : decode cX4_readPath 106 = .ok (.aload_n 0, 1) := by decide +kernel
theorem dX4_readPath_107 : decode cX4_readPath 107 = .ok (.getfield 22, 3) := by decide +kernel
theorem dX4_readPath_110 : decode cX4_readPath 110 = .ok (.iload_n 1, 1) := by decide +kernel
theorem dX4_readPath_111 : decode cX4_readPath 111 = .ok (.iload_n 2, 1) := by decide +kernel
theorem dX4_readPath_112 : decode cX4_readPath 112 = .ok (.invokevirtual 203, 3) := by decide +kernel
theorem dX4_readPath_115 : decode cX4_readPath 115 = .ok (.ifCond .eq 46, 3) := by decide +kernel
theorem dX4_readPath_118 : decode cX4_readPath 118 = .ok (.aload_n 0, 1) := by decide +kernel
theorem dX4_readPath_119 : decode cX4_readPath 119 = .ok (.getfield 22, 3) := by decide +kernel
theorem dX4_readPath_122 : decode cX4_readPath 122 = .ok (.getfield 207, 3) := by decide +kernel
theorem dX4_readPath_125 : decode cX4_readPath 125 = .ok (.iload_n 1, 1) := by decide +kernel
theorem dX4_readPath_126 : decode cX4_readPath 126 = .ok (.bipush 6, 2) := by decide +kernel
theorem dX4_readPath_128 : decode cX4_readPath 128 = .ok (.imul, 1) := by decide +kernel
theorem dX4_readPath_129 : decode cX4_readPath 129 = .ok (.iload_n 2, 1) := by decide +kernel
theorem dX4_readPath_130 : decode cX4_readPath 130 = .ok (.iadd, 1) := by decide +kernel
theorem dX4_readPath_131 : decode cX4_readPath 131 = .ok (.iload_n 3, 1) := by decide +kernel
theorem dX4_readPath_132 : decode cX4_readPath 132 = .ok (.iastore, 1) := by decide +kernel
theorem dX4_readPath_133 : decode cX4_readPath 133 = .ok (.aload_n 0, 1) := by decide +kernel
theorem dX4_readPath_134 : decode cX4_readPath 134 = .ok (.getfield 22, 3) := by decide +kernel
theorem dX4_readPath_137 : decode cX4_readPath 137 = .ok (.getfield 207, 3) := by decide +kernel
theorem dX4_readPath_140 : decode cX4_readPath 140 = .ok (.iload_n 2, 1) := by decide +kernel
theorem dX4_readPath_141 : decode cX4_readPath 141 = .ok (.bipush 6, 2) := by decide +kernel
theorem dX4_readPath_143 : decode cX4_readPath 143 = .ok (.imul, 1) := by decide +kernel
theorem dX4_readPath_144 : decode cX4_readPath 144 = .ok (.iload_n 1, 1) := by decide +kernel
theorem dX4_readPath_145 : decode cX4_readPath 145 = .ok (.iadd, 1) := by decide +kernel
theorem dX4_readPath_146 : decode cX4_readPath 146 = .ok (.iload_n 3, 1) := by decide +kernel
theorem dX4_readPath_147 : decode cX4_readPath 147 = .ok (.iastore, 1) := by decide +kernel
theorem dX4_readPath_148 : decode cX4_readPath 148 = .ok (.aload_n 0, 1) := by decide +kernel
theorem dX4_readPath_149 : decode cX4_readPath 149 = .ok (.getfield 22, 3) := by decide +kernel
theorem dX4_readPath_152 : decode cX4_readPath 152 = .ok (.dup, 1) := by decide +kernel
theorem dX4_readPath_153 : decode cX4_readPath 153 = .ok (.getfield 194, 3) := by decide +kernel
theorem dX4_readPath_156 : decode cX4_readPath 156 = .ok (.iconst 1, 1) := by decide +kernel
theorem dX4_readPath_157 : decode cX4_readPath 157 = .ok (.iadd, 1) := by decide +kernel
theorem dX4_readPath_158 : decode cX4_readPath 158 = .ok (.putfield 194, 3) := by decide +kernel
theorem dX4_readPath_46 : decode cX4_readPath 46 = .ok (.aload_n 0, 1) := by decide +kernel
theorem dX4_readPath_47 : decode cX4_readPath 47 = .ok (.getfield 197, 3) := by decide +kernel
theorem dX4_readPath_50 : decode cX4_readPath 50 = .ok (.iload_n 1, 1) := by decide +kernel
theorem dX4_readPath_51 : decode cX4_readPath 51 = .ok (.if_icmp .eq 18, 3) := by decide +kernel
theorem dX4_readPath_69 : decode cX4_readPath 69 = .ok (.aload_n 0, 1) := by decide +kernel
theorem dX4_readPath_70 : decode cX4_readPath 70 = .ok (.iconst 2, 1) := by decide +kernel
theorem dX4_readPath_71 : decode cX4_readPath 71 = .ok (.invokevirtual 79, 3) := by decide +kernel
theorem dX4_readPath_54 : decode cX4_readPath 54 = .ok (.aload_n 0, 1) := by decide +kernel
theorem dX4_readPath_55 : decode cX4_readPath 55 = .ok (.getfield 22, 3) := by decide +kernel
theorem dX4_readPath_58 : decode cX4_readPath 58 = .ok (.iload_n 1, 1) := by decide +kernel
theorem dX4_readPath_59 : decode cX4_readPath 59 = .ok (.aload_n 0, 1) := by decide +kernel
theorem dX4_readPath_60 : decode cX4_readPath 60 = .ok (.getfield 197, 3) := by decide +kernel
theorem dX4_readPath_63 : decode cX4_readPath 63 = .ok (.invokevirtual 200, 3) := by decide +kernel
theorem dX4_readPath_66 : decode cX4_readPath 66 = .ok (.ifCond .eq 8, 3) := by decide +kernel
theorem dX4_readPath_12 : decode cX4_readPath 12 = .ok (.aload_n 0, 1) := by decide +kernel
theorem dX4_readPath_13 : decode cX4_readPath 13 = .ok (.iconst 3, 1) := by decide +kernel
theorem dX4_readPath_14 : decode cX4_readPath 14 = .ok (.invokevirtual 79, 3) := by decide +kernel
theorem dX4_begin_0 : decode cX4_begin 0 = .ok (.aload_n 0, 1) := by decide +kernel
theorem dX4_begin_1 : decode cX4_begin 1 = .ok (.aload_n 1, 1) := by decide +kernel
theorem dX4_begin_2 : decode cX4_begin 2 = .ok (.putfield 22, 3) := by decide +kernel
theorem dX4_begin_5 : decode cX4_begin 5 = .ok (.aload_n 0, 1) := by decide +kernel
theorem dX4_begin_6 : decode cX4_begin 6 = .ok (.aload_n 2, 1) := by decide +kernel
theorem dX4_begin_7 : decode cX4_begin 7 = .ok (.putfield 15, 3) := by decide +kernel
theorem dX4_begin_10 : decode cX4_begin 10 = .ok (.aload_n 0, 1) := by decide +kernel
theorem dX4_begin_11 : decode cX4_begin 11 = .ok (.iload_n 3, 1) := by decide +kernel
theorem dX4_begin_12 : decode cX4_begin 12 = .ok (.aload_n 2, 1) := by decide +kernel
theorem dX4_begin_13 : decode cX4_begin 13 = .ok (.arraylength, 1) := by decide +kernel
theorem dX4_begin_14 : decode cX4_begin 14 = .ok (.invokestatic 86, 3) := by decide +kernel
theorem dX4_begin_17 : decode cX4_begin 17 = .ok (.putfield 30, 3) := by decide +kernel
theorem dX4_begin_20 : decode cX4_begin 20 = .ok (.aload_n 0, 1) := by decide +kernel
theorem dX4_begin_21 : decode cX4_begin 21 = .ok (.iconst 0, 1) := by decide +kernel
theorem dX4_begin_22 : decode cX4_begin 22 = .ok (.putfield 92, 3) := by decide +kernel
theorem dX4_begin_25 : decode cX4_begin 25 = .ok (.aload_n 0, 1) := by decide +kernel
theorem dX4_begin_26 : decode cX4_begin 26 = .ok (.iconst 0, 1) := by decide +kernel
theorem dX4_begin_27 : decode cX4_begin 27 = .ok (.putfield 36, 3) := by decide +kernel
theorem dX4_begin_30 : decode cX4_begin 30 = .ok (.aload_n 0, 1) := by decide +kernel
theorem dX4_begin_31 : decode cX4_begin 31 = .ok (.iconst (-1), 1) := by decide +kernel
theorem dX4_begin_32 : decode cX4_begin 32 = .ok (.putfield 9, 3) := by decide +kernel
theorem dX4_begin_35 : decode cX4_begin 35 = .ok (.aload_n 0, 1) := by decide +kernel
theorem dX4_begin_36 : decode cX4_begin 36 = .ok (.iconst 0, 1) := by decide +kernel
theorem dX4_begin_37 : decode cX4_begin 37 = .ok (.putfield 95, 3) := by decide +kernel
theorem dX4_begin_40 : decode cX4_begin 40 = .ok (.aload_n 0, 1) := by decide +kernel
theorem dX4_begin_41 : decode cX4_begin 41 = .ok (.iconst 0, 1) := by decide +kernel
theorem dX4_begin_42 : decode cX4_begin 42 = .ok (.putfield 99, 3) := by decide +kernel
theorem dX4_begin_45 : decode cX4_begin 45 = .ok (.aload_n 0, 1) := by decide +kernel
theorem dX4_begin_46 : decode cX4_begin 46 = .ok (.iconst 0, 1) := by decide +kernel
theorem dX4_begin_47 : decode cX4_begin 47 = .ok (.putfield 102, 3) := by decide +kernel
theorem dX4_begin_50 : decode cX4_begin 50 = .ok (.aload_n 0, 1) := by decide +kernel
theorem dX4_begin_51 : decode cX4_begin 51 = .ok (.invokevirtual 105, 3) := by decide +kernel
theorem dX4_begin_54 : decode cX4_begin 54 = .ok (.return_, 1) := by decide +kernel
theorem sV_X4_116 : SiteV RX4 116 yX4_takeNamed cX4_takeNamed 4 (some .int) 3 := ⟨ml_X4_116, im_X4_takeNamed, se_X4_takeNamed, ini_X4, co_X4_takeNamed, by decide +kernel⟩
theorem sV_X4_203 : SiteV RX4 203 yX2_hasTwo cX2_hasTwo 3 (some .boolean) 2 := ⟨ml_X4_203, im_X2_hasTwo, se_X2_hasTwo, ini_X2, co_X2_hasTwo, by decide +kernel⟩
theorem sV_X4_200 : SiteV RX4 200 yX2_pathBetween cX2_pathBetween 3 (some .int) 2 := ⟨ml_X4_200, im_X2_pathBetween, se_X2_pathBetween, ini_X2, co_X2_pathBetween, by decide +kernel⟩
set_option maxHeartbeats 4000000 in
set_option maxRecDepth 100000 in
theorem t_X4_readWinter (l : Launch) (D : va_G) (cy : Nat → ClassId) (base : Nat) (τ : Nat → Nat) (G : Gh) (adK adV : Nat → Nat)  (a : Nat) (h_a : τ a = 2) : MS l yX4_readWinter cX4_readWinter 1 none 7 0 0 D cy adK adV base [.ref a] (PT D cy base τ G) (QT D cy base τ G [2, 7] (fun v g => v = none ∧ (True))) (RA base) := by
  refine MS.of (by decide) (Nat.le_of_ble_eq_true rfl) ?_
  intro p e s m below meth c C hPT hSS ls hl
  obtain ⟨hx, hb, hr, hml, hown, hts, hlocks, hK, hnm⟩ := C
  obtain ⟨hZ, hT⟩ := hPT
  have hS : va_S (RA base) s.heap s.heap [] := va_S.rf
  have hF : Fr τ [2, 7] G G := Fr.rf
  have hl : lv_has ls 1 [(0, .ref a)] := hl
  refine lv_aload_n hx hb dX4_readWinter_0 rfl (lv_at hl 0 rfl) ?_
  refine va_ldcS (tx := "winter") hx hb hown (hSS.2.1 0 (by decide)) dX4_readWinter_1 ?_
  refine t_callv (runVs (As := [.ref (adK 0)]) (rest := []) ⟨hx, hb, hml, hown, hts⟩ (t_X4_takeWord l D cy base τ G adK adV 0 (by decide) a h_a) sV_X4_110 hK hSS hS (t_recv cf_2 hK hT h_a) ⟨Nat.le_trans hZ hS.1, hT⟩ ⟨Nat.le_of_ble_eq_true rfl, Nat.le_of_ble_eq_true rfl⟩ rfl hl.1 rfl (Nat.le_of_ble_eq_true rfl) dX4_readWinter_3 ⟨Nat.le_of_ble_eq_true rfl, Nat.le_of_ble_eq_true rfl⟩) hS (fun G_1 H locs hF_1 hr_1 hT hS => ?_)
  have hF := hF.tr hF_1 rfl
  refine lv_aload_n hx hb dX4_readWinter_6 rfl (lv_at hl 0 rfl) ?_
  refine t_getr cf_2 hx hb hts hown hK hT h_a (k := 8) (P := fun q => τ q = 7) rfl (fun _ h9 => h9) fl_X4_22 (fun _ h9 => h9) dX4_readWinter_7 (fun q_2 eq_2 hq_2 => ?_)
  have eq_2 := (hF.r h_a (by decide) rfl _).symm.trans eq_2
  refine lv_aload_n hx hb dX4_readWinter_10 rfl (lv_at hl 0 rfl) ?_
  refine va_ldcS (tx := "days") hx hb hown (hSS.2.1 1 (by decide)) dX4_readWinter_11 ?_
  refine lv_iconst (v := 1) hx hb dX4_readWinter_13 (by decide) ?_
  refine lv_bipush (v := 60) hx hb dX4_readWinter_14 (by decide) ?_
  refine t_calli (runVs (As := [.ref (adK 1), .int 1, .int 60]) (rest := [.ref q_2]) ⟨hx, hb, hml, hown, hts⟩ (t_X4_takeNamed l D cy base τ G_1 adK adV 1 (by decide) a h_a (1 : Int32) (60 : Int32)) sV_X4_116 hK hSS hS (t_recv cf_2 hK hT h_a) ⟨Nat.le_trans hZ hS.1, hT⟩ ⟨Nat.le_of_ble_eq_true rfl, Nat.le_of_ble_eq_true rfl⟩ rfl hl.1 rfl (Nat.le_of_ble_eq_true rfl) dX4_readWinter_16 ⟨Nat.le_of_ble_eq_true rfl, Nat.le_of_ble_eq_true rfl⟩) hS (fun r_3 G_3 H locs hF_3 hr_3 hT hS => ?_)
  have hF := hF.tr hF_3 rfl
  have hr_3_p0 := hr_3
  have hr_3_p0 : r_3.toInt = (1 : Int) ∨ ((1 : Int) ≤ r_3.toInt ∧ r_3.toInt ≤ (60 : Int)) := hr_3_p0
  refine t_puti (x := r_3) cf_7 hx hb hts hown hK hT hS hq_2 (k := 1) rfl (show 0 ≤ r_3.toInt ∧ r_3.toInt ≤ 60 from ⟨by omega, by omega⟩) fl_X4_120 (fun _ h9 => h9) rfl rfl rfl dX4_readWinter_19 (fun H locs G_4 eG_4 hT hS => ?_)
  have hF := hF.wI eG_4 hq_2 rfl
  refine lv_aload_n hx hb dX4_readWinter_22 rfl (lv_at hl 0 rfl) ?_
  refine t_getr cf_2 hx hb hts hown hK hT h_a (k := 8) (P := fun q => τ q = 7) rfl (fun _ h9 => h9) fl_X4_22 (fun _ h9 => h9) dX4_readWinter_23 (fun q_5 eq_5 hq_5 => ?_)
  have w_6 : q_2 = q_5 := Option.some.inj (eq_2.symm.trans ((hF.r h_a (by decide) rfl _).symm.trans eq_5))
  subst w_6
  refine lv_aload_n hx hb dX4_readWinter_26 rfl (lv_at hl 0 rfl) ?_
  refine va_ldcS (tx := "first") hx hb hown (hSS.2.1 2 (by decide)) dX4_readWinter_27 ?_
  refine lv_iconst (v := 0) hx hb dX4_readWinter_29 (by decide) ?_
  refine lv_bipush (v := 100) hx hb dX4_readWinter_30 (by decide) ?_
  refine t_calli (runVs (As := [.ref (adK 2), .int 0, .int 100]) (rest := [.ref q_2]) ⟨hx, hb, hml, hown, hts⟩ (t_X4_takeNamed l D cy base τ G_4 adK adV 2 (by decide) a h_a (0 : Int32) (100 : Int32)) sV_X4_116 hK hSS hS (t_recv cf_2 hK hT h_a) ⟨Nat.le_trans hZ hS.1, hT⟩ ⟨Nat.le_of_ble_eq_true rfl, Nat.le_of_ble_eq_true rfl⟩ rfl hl.1 rfl (Nat.le_of_ble_eq_true rfl) dX4_readWinter_32 ⟨Nat.le_of_ble_eq_true rfl, Nat.le_of_ble_eq_true rfl⟩) hS (fun r_7 G_7 H locs hF_7 hr_7 hT hS => ?_)
  have hF := hF.tr hF_7 rfl
  have hr_7_p0 := hr_7
  have hr_7_p0 : r_7.toInt = (0 : Int) ∨ ((0 : Int) ≤ r_7.toInt ∧ r_7.toInt ≤ (100 : Int)) := hr_7_p0
  refine t_puti (x := r_7) cf_7 hx hb hts hown hK hT hS hq_2 (k := 2) rfl trivial fl_X4_124 (fun _ h9 => h9) rfl rfl rfl dX4_readWinter_35 (fun H locs G_8 eG_8 hT hS => ?_)
  have hF := hF.wI eG_8 hq_2 rfl
  refine lv_aload_n hx hb dX4_readWinter_38 rfl (lv_at hl 0 rfl) ?_
  refine t_getr cf_2 hx hb hts hown hK hT h_a (k := 8) (P := fun q => τ q = 7) rfl (fun _ h9 => h9) fl_X4_22 (fun _ h9 => h9) dX4_readWinter_39 (fun q_9 eq_9 hq_9 => ?_)
  have w_10 : q_2 = q_9 := Option.some.inj (eq_2.symm.trans ((hF.r h_a (by decide) rfl _).symm.trans eq_9))
  subst w_10
  refine lv_aload_n hx hb dX4_readWinter_42 rfl (lv_at hl 0 rfl) ?_
  refine va_ldcS (tx := "snow") hx hb hown (hSS.2.1 3 (by decide)) dX4_readWinter_43 ?_
  refine lv_iconst (v := 0) hx hb dX4_readWinter_45 (by decide) ?_
  refine lv_bipush (v := 100) hx hb dX4_readWinter_46 (by decide) ?_
  refine t_calli (runVs (As := [.ref (adK 3), .int 0, .int 100]) (rest := [.ref q_2]) ⟨hx, hb, hml, hown, hts⟩ (t_X4_takeNamed l D cy base τ G_8 adK adV 3 (by decide) a h_a (0 : Int32) (100 : Int32)) sV_X4_116 hK hSS hS (t_recv cf_2 hK hT h_a) ⟨Nat.le_trans hZ hS.1, hT⟩ ⟨Nat.le_of_ble_eq_true rfl, Nat.le_of_ble_eq_true rfl⟩ rfl hl.1 rfl (Nat.le_of_ble_eq_true rfl) dX4_readWinter_48 ⟨Nat.le_of_ble_eq_true rfl, Nat.le_of_ble_eq_true rfl⟩) hS (fun r_11 G_11 H locs hF_11 hr_11 hT hS => ?_)
  have hF := hF.tr hF_11 rfl
  have hr_11_p0 := hr_11
  have hr_11_p0 : r_11.toInt = (0 : Int) ∨ ((0 : Int) ≤ r_11.toInt ∧ r_11.toInt ≤ (100 : Int)) := hr_11_p0
  refine t_puti (x := r_11) cf_7 hx hb hts hown hK hT hS hq_2 (k := 3) rfl trivial fl_X4_128 (fun _ h9 => h9) rfl rfl rfl dX4_readWinter_51 (fun H locs G_12 eG_12 hT hS => ?_)
  have hF := hF.wI eG_12 hq_2 rfl
  refine lv_aload_n hx hb dX4_readWinter_54 rfl (lv_at hl 0 rfl) ?_
  refine t_getr cf_2 hx hb hts hown hK hT h_a (k := 8) (P := fun q => τ q = 7) rfl (fun _ h9 => h9) fl_X4_22 (fun _ h9 => h9) dX4_readWinter_55 (fun q_13 eq_13 hq_13 => ?_)
  have w_14 : q_2 = q_13 := Option.some.inj (eq_2.symm.trans ((hF.r h_a (by decide) rfl _).symm.trans eq_13))
  subst w_14
  refine lv_aload_n hx hb dX4_readWinter_58 rfl (lv_at hl 0 rfl) ?_
  refine va_ldcS (tx := "clear") hx hb hown (hSS.2.1 4 (by decide)) dX4_readWinter_59 ?_
  refine lv_iconst (v := 0) hx hb dX4_readWinter_61 (by decide) ?_
  refine lv_bipush (v := 100) hx hb dX4_readWinter_62 (by decide) ?_
  refine t_calli (runVs (As := [.ref (adK 4), .int 0, .int 100]) (rest := [.ref q_2]) ⟨hx, hb, hml, hown, hts⟩ (t_X4_takeNamed l D cy base τ G_12 adK adV 4 (by decide) a h_a (0 : Int32) (100 : Int32)) sV_X4_116 hK hSS hS (t_recv cf_2 hK hT h_a) ⟨Nat.le_trans hZ hS.1, hT⟩ ⟨Nat.le_of_ble_eq_true rfl, Nat.le_of_ble_eq_true rfl⟩ rfl hl.1 rfl (Nat.le_of_ble_eq_true rfl) dX4_readWinter_64 ⟨Nat.le_of_ble_eq_true rfl, Nat.le_of_ble_eq_true rfl⟩) hS (fun r_15 G_15 H locs hF_15 hr_15 hT hS => ?_)
  have hF := hF.tr hF_15 rfl
  have hr_15_p0 := hr_15
  have hr_15_p0 : r_15.toInt = (0 : Int) ∨ ((0 : Int) ≤ r_15.toInt ∧ r_15.toInt ≤ (100 : Int)) := hr_15_p0
  refine t_puti (x := r_15) cf_7 hx hb hts hown hK hT hS hq_2 (k := 4) rfl trivial fl_X4_132 (fun _ h9 => h9) rfl rfl rfl dX4_readWinter_67 (fun H locs G_16 eG_16 hT hS => ?_)
  have hF := hF.wI eG_16 hq_2 rfl
  exact ret_v hx hb hr hlocks ⟨⟨hS.1, hS.2.1⟩, G_16, hF, ⟨rfl, trivial⟩, hT⟩ hS.2.2 (Nat.le_of_ble_eq_true rfl) (Nat.le_of_ble_eq_true rfl) dX4_readWinter_70
set_option maxHeartbeats 4000000 in
set_option maxRecDepth 100000 in
theorem t_X4_readThing (l : Launch) (D : va_G) (cy : Nat → ClassId) (base : Nat) (τ : Nat → Nat) (G : Gh) (adK adV : Nat → Nat)  (a : Nat) (h_a : τ a = 2) : MS l yX4_readThing cX4_readThing 2 none 7 0 0 D cy adK adV base [.ref a] (PT D cy base τ G) (QT D cy base τ G [2, 7, 26] (fun v g => v = none ∧ (True))) (RA base) := by
  refine MS.of (by decide) (Nat.le_of_ble_eq_true rfl) ?_
  intro p e s m below meth c C hPT hSS ls hl
  obtain ⟨hx, hb, hr, hml, hown, hts, hlocks, hK, hnm⟩ := C
  obtain ⟨hZ, hT⟩ := hPT
  have hS : va_S (RA base) s.heap s.heap [] := va_S.rf
  have hF : Fr τ [2, 7, 26] G G := Fr.rf
  have hl : lv_has ls 2 [(0, .ref a)] := hl
  refine lv_aload_n hx hb dX4_readThing_0 rfl (lv_at hl 0 rfl) ?_
  refine t_getr cf_2 hx hb hts hown hK hT h_a (k := 8) (P := fun q => τ q = 7) rfl (fun _ h9 => h9) fl_X4_22 (fun _ h9 => h9) dX4_readThing_1 (fun q_1 eq_1 hq_1 => ?_)
  refine t_geti cf_7 hx hb hts hown hK hT hq_1 (k := 5) rfl fl_X4_134 (fun _ h9 => h9) dX4_readThing_4 (fun z_2 ez_2 rz_2 => ?_)
  have ez_2 : z_2 = G.1 q_1 5 := ez_2
  have rz_2 : 0 ≤ z_2.toInt ∧ z_2.toInt ≤ 3 := rz_2
  refine lv_istore_n (lv' := [(1, .int z_2), (0, .ref a)]) hx hb dX4_readThing_7 rfl hl (by decide) rfl (fun ls hl => ?_)
  refine lv_iload_n hx hb dX4_readThing_8 rfl (lv_at hl 0 rfl) ?_
  refine lv_iconst (v := 3) hx hb dX4_readThing_9 (by decide) ?_
  refine lv_icmp_lt (tgt := 19) hx hb dX4_readThing_10 (by decide) (fun c_3 => ?_) (fun c_3 => ?_)
  · skip
    have tc_3 : z_2.toInt < 3 := (fa_lt _ _).mp c_3
    refine lv_aload_n hx hb dX4_readThing_19 rfl (lv_at hl 1 rfl) ?_
    refine va_ldcS (tx := "thing") hx hb hown (hSS.2.1 5 (by decide)) dX4_readThing_20 ?_
    refine t_callv (runVs (As := [.ref (adK 5)]) (rest := []) ⟨hx, hb, hml, hown, hts⟩ (t_X4_takeWord l D cy base τ G adK adV 5 (by decide) a h_a) sV_X4_110 hK hSS hS (t_recv cf_2 hK hT h_a) ⟨Nat.le_trans hZ hS.1, hT⟩ ⟨Nat.le_of_ble_eq_true rfl, Nat.le_of_ble_eq_true rfl⟩ rfl hl.1 rfl (Nat.le_of_ble_eq_true rfl) dX4_readThing_22 ⟨Nat.le_of_ble_eq_true rfl, Nat.le_of_ble_eq_true rfl⟩) hS (fun G_4 H locs hF_4 hr_4 hT hS => ?_)
    have hF := hF.tr hF_4 rfl
    refine lv_aload_n hx hb dX4_readThing_25 rfl (lv_at hl 1 rfl) ?_
    refine t_getr cf_2 hx hb hts hown hK hT h_a (k := 8) (P := fun q => τ q = 7) rfl (fun _ h9 => h9) fl_X4_22 (fun _ h9 => h9) dX4_readThing_26 (fun q_5 eq_5 hq_5 => ?_)
    have w_6 : q_1 = q_5 := Option.some.inj (eq_1.symm.trans ((hF.r h_a (by decide) rfl _).symm.trans eq_5))
    subst w_6
    refine t_getr cf_7 hx hb hts hown hK hT hq_1 (k := 14) (P := fun q => τ q = 26) rfl (fun _ h9 => h9) fl_X4_137 (fun _ h9 => h9) dX4_readThing_29 (fun q_7 eq_7 hq_7 => ?_)
    have eq_7 := (hF.r hq_1 (by decide) rfl _).symm.trans eq_7
    refine lv_iload_n hx hb dX4_readThing_32 rfl (lv_at hl 0 rfl) ?_
    refine lv_aload_n hx hb dX4_readThing_33 rfl (lv_at hl 1 rfl) ?_
    refine va_ldcS (tx := "price") hx hb hown (hSS.2.1 6 (by decide)) dX4_readThing_34 ?_
    refine lv_iconst (v := 0) hx hb dX4_readThing_36 (by decide) ?_
    refine lv_bipush (v := 99) hx hb dX4_readThing_37 (by decide) ?_
    refine t_calli (runVs (As := [.ref (adK 6), .int 0, .int 99]) (rest := [.int z_2, .ref q_7]) ⟨hx, hb, hml, hown, hts⟩ (t_X4_takeNamed l D cy base τ G_4 adK adV 6 (by decide) a h_a (0 : Int32) (99 : Int32)) sV_X4_116 hK hSS hS (t_recv cf_2 hK hT h_a) ⟨Nat.le_trans hZ hS.1, hT⟩ ⟨Nat.le_of_ble_eq_true rfl, Nat.le_of_ble_eq_true rfl⟩ rfl hl.1 rfl (Nat.le_of_ble_eq_true rfl) dX4_readThing_39 ⟨Nat.le_of_ble_eq_true rfl, Nat.le_of_ble_eq_true rfl⟩) hS (fun r_8 G_8 H locs hF_8 hr_8 hT hS => ?_)
    have hF := hF.tr hF_8 rfl
    have hr_8_p0 := hr_8
    have hr_8_p0 : r_8.toInt = (0 : Int) ∨ ((0 : Int) ≤ r_8.toInt ∧ r_8.toInt ≤ (99 : Int)) := hr_8_p0
    refine t_iast (n := 3) (i := z_2) (x := r_8) rfl (by decide) hx hb hK hT hS hq_7 (hT.len hq_7 (by decide)) ⟨by omega, by omega⟩ trivial dX4_readThing_42 (fun H locs G_9 eG_9 hT hS => ?_)
    have hF := hF.wI eG_9 hq_7 rfl
    refine lv_aload_n hx hb dX4_readThing_43 rfl (lv_at hl 1 rfl) ?_
    refine t_getr cf_2 hx hb hts hown hK hT h_a (k := 8) (P := fun q => τ q = 7) rfl (fun _ h9 => h9) fl_X4_22 (fun _ h9 => h9) dX4_readThing_44 (fun q_10 eq_10 hq_10 => ?_)
    have w_11 : q_1 = q_10 := Option.some.inj (eq_1.symm.trans ((hF.r h_a (by decide) rfl _).symm.trans eq_10))
    subst w_11
    refine t_getr cf_7 hx hb hts hown hK hT hq_1 (k := 15) (P := fun q => τ q = 26) rfl (fun _ h9 => h9) fl_X4_142 (fun _ h9 => h9) dX4_readThing_47 (fun q_12 eq_12 hq_12 => ?_)
    have eq_12 := (hF.r hq_1 (by decide) rfl _).symm.trans eq_12
    refine lv_iload_n hx hb dX4_readThing_50 rfl (lv_at hl 0 rfl) ?_
    refine lv_aload_n hx hb dX4_readThing_51 rfl (lv_at hl 1 rfl) ?_
    refine va_ldcS (tx := "harm") hx hb hown (hSS.2.1 7 (by decide)) dX4_readThing_52 ?_
    refine lv_iconst (v := 0) hx hb dX4_readThing_54 (by decide) ?_
    refine lv_sipush (v := 999) hx hb dX4_readThing_55 (by decide) ?_
    refine t_calli (runVs (As := [.ref (adK 7), .int 0, .int 999]) (rest := [.int z_2, .ref q_12]) ⟨hx, hb, hml, hown, hts⟩ (t_X4_takeNamed l D cy base τ G_9 adK adV 7 (by decide) a h_a (0 : Int32) (999 : Int32)) sV_X4_116 hK hSS hS (t_recv cf_2 hK hT h_a) ⟨Nat.le_trans hZ hS.1, hT⟩ ⟨Nat.le_of_ble_eq_true rfl, Nat.le_of_ble_eq_true rfl⟩ rfl hl.1 rfl (Nat.le_of_ble_eq_true rfl) dX4_readThing_58 ⟨Nat.le_of_ble_eq_true rfl, Nat.le_of_ble_eq_true rfl⟩) hS (fun r_13 G_13 H locs hF_13 hr_13 hT hS => ?_)
    have hF := hF.tr hF_13 rfl
    have hr_13_p0 := hr_13
    have hr_13_p0 : r_13.toInt = (0 : Int) ∨ ((0 : Int) ≤ r_13.toInt ∧ r_13.toInt ≤ (999 : Int)) := hr_13_p0
    refine t_iast (n := 3) (i := z_2) (x := r_13) rfl (by decide) hx hb hK hT hS hq_12 (hT.len hq_12 (by decide)) ⟨by omega, by omega⟩ trivial dX4_readThing_61 (fun H locs G_14 eG_14 hT hS => ?_)
    have hF := hF.wI eG_14 hq_12 rfl
    refine lv_aload_n hx hb dX4_readThing_62 rfl (lv_at hl 1 rfl) ?_
    refine t_getr cf_2 hx hb hts hown hK hT h_a (k := 8) (P := fun q => τ q = 7) rfl (fun _ h9 => h9) fl_X4_22 (fun _ h9 => h9) dX4_readThing_63 (fun q_15 eq_15 hq_15 => ?_)
    have w_16 : q_1 = q_15 := Option.some.inj (eq_1.symm.trans ((hF.r h_a (by decide) rfl _).symm.trans eq_15))
    subst w_16
    refine t_getr cf_7 hx hb hts hown hK hT hq_1 (k := 16) (P := fun q => τ q = 26) rfl (fun _ h9 => h9) fl_X4_146 (fun _ h9 => h9) dX4_readThing_66 (fun q_17 eq_17 hq_17 => ?_)
    have eq_17 := (hF.r hq_1 (by decide) rfl _).symm.trans eq_17
    refine lv_iload_n hx hb dX4_readThing_69 rfl (lv_at hl 0 rfl) ?_
    refine lv_aload_n hx hb dX4_readThing_70 rfl (lv_at hl 1 rfl) ?_
    refine va_ldcS (tx := "back") hx hb hown (hSS.2.1 8 (by decide)) dX4_readThing_71 ?_
    refine lv_iconst (v := 0) hx hb dX4_readThing_73 (by decide) ?_
    refine lv_bipush (v := 99) hx hb dX4_readThing_74 (by decide) ?_
    refine t_calli (runVs (As := [.ref (adK 8), .int 0, .int 99]) (rest := [.int z_2, .ref q_17]) ⟨hx, hb, hml, hown, hts⟩ (t_X4_takeNamed l D cy base τ G_14 adK adV 8 (by decide) a h_a (0 : Int32) (99 : Int32)) sV_X4_116 hK hSS hS (t_recv cf_2 hK hT h_a) ⟨Nat.le_trans hZ hS.1, hT⟩ ⟨Nat.le_of_ble_eq_true rfl, Nat.le_of_ble_eq_true rfl⟩ rfl hl.1 rfl (Nat.le_of_ble_eq_true rfl) dX4_readThing_76 ⟨Nat.le_of_ble_eq_true rfl, Nat.le_of_ble_eq_true rfl⟩) hS (fun r_18 G_18 H locs hF_18 hr_18 hT hS => ?_)
    have hF := hF.tr hF_18 rfl
    have hr_18_p0 := hr_18
    have hr_18_p0 : r_18.toInt = (0 : Int) ∨ ((0 : Int) ≤ r_18.toInt ∧ r_18.toInt ≤ (99 : Int)) := hr_18_p0
    refine t_iast (n := 3) (i := z_2) (x := r_18) rfl (by decide) hx hb hK hT hS hq_17 (hT.len hq_17 (by decide)) ⟨by omega, by omega⟩ trivial dX4_readThing_79 (fun H locs G_19 eG_19 hT hS => ?_)
    have hF := hF.wI eG_19 hq_17 rfl
    refine lv_aload_n hx hb dX4_readThing_80 rfl (lv_at hl 1 rfl) ?_
    refine t_getr cf_2 hx hb hts hown hK hT h_a (k := 8) (P := fun q => τ q = 7) rfl (fun _ h9 => h9) fl_X4_22 (fun _ h9 => h9) dX4_readThing_81 (fun q_20 eq_20 hq_20 => ?_)
    have w_21 : q_1 = q_20 := Option.some.inj (eq_1.symm.trans ((hF.r h_a (by decide) rfl _).symm.trans eq_20))
    subst w_21
    refine lv_iload_n hx hb dX4_readThing_84 rfl (lv_at hl 0 rfl) ?_
    refine lv_iconst (v := 1) hx hb dX4_readThing_85 (by decide) ?_
    refine lv_iadd hx hb dX4_readThing_86 ?_
    refine lv_topi (fun z_22 ez_22 => ?_)
    have tz_22 : z_22.toInt = z_2.toInt + 1 := add_t ez_22 (show -2147483648 ≤ z_2.toInt + 1 by omega) (show z_2.toInt + 1 < 2147483648 by omega)
    refine t_puti (x := z_22) cf_7 hx hb hts hown hK hT hS hq_1 (k := 5) rfl (show 0 ≤ z_22.toInt ∧ z_22.toInt ≤ 3 from ⟨by omega, by omega⟩) fl_X4_134 (fun _ h9 => h9) rfl rfl rfl dX4_readThing_87 (fun H locs G_23 eG_23 hT hS => ?_)
    have hF := hF.wI eG_23 hq_1 rfl
    exact ret_v hx hb hr hlocks ⟨⟨hS.1, hS.2.1⟩, G_23, hF, ⟨rfl, trivial⟩, hT⟩ hS.2.2 (Nat.le_of_ble_eq_true rfl) (Nat.le_of_ble_eq_true rfl) dX4_readThing_90
  · skip
    have tc_3 : ¬ z_2.toInt < 3 := fun h => c_3 ((fa_lt _ _).mpr h)
    refine lv_aload_n hx hb dX4_readThing_13 rfl (lv_at hl 1 rfl) ?_
    refine lv_iconst (v := 3) hx hb dX4_readThing_14 (by decide) ?_
    obtain ⟨z_24, ez_24⟩ : ∃ y : Int32, y = G.1 a 0 := ⟨_, rfl⟩
    refine t_callv (runV (As := [.int 3]) (rest := []) ⟨hx, hb, hml, hown, hts⟩ (t_X4_refuse l D cy base τ G a h_a 3 (by decide) z_24 ez_24) sV_X4_79 hK (t_recv cf_2 hK hT h_a) ⟨Nat.le_trans hZ hS.1, hT⟩ ⟨Nat.le_of_ble_eq_true rfl, Nat.le_of_ble_eq_true rfl⟩ rfl hl.1 rfl (Nat.le_of_ble_eq_true rfl) dX4_readThing_15 ⟨Nat.le_of_ble_eq_true rfl, Nat.le_of_ble_eq_true rfl⟩) hS (fun G_25 H locs hF_25 hr_25 hT hS => ?_)
    have hF := hF.tr hF_25 rfl
    have hr_25_p0 := hr_25
    obtain ⟨z_26, ez_26, hr_25_p0⟩ : ∃ z_26 : Int32, z_26 = G_25.1 a 0 ∧ (z_26.toInt ≠ 0) := ⟨_, rfl, hr_25_p0⟩
    exact ret_v hx hb hr hlocks ⟨⟨hS.1, hS.2.1⟩, G_25, hF, ⟨rfl, trivial⟩, hT⟩ hS.2.2 (Nat.le_of_ble_eq_true rfl) (Nat.le_of_ble_eq_true rfl) dX4_readThing_18
set_option maxHeartbeats 4000000 in
set_option maxRecDepth 100000 in
theorem t_X4_readValley (l : Launch) (D : va_G) (cy : Nat → ClassId) (base : Nat) (τ : Nat → Nat) (G : Gh) (adK adV : Nat → Nat)  (a : Nat) (h_a : τ a = 2) : MS l yX4_readValley cX4_readValley 3 none 7 0 0 D cy adK adV base [.ref a] (PT D cy base τ G) (QT D cy base τ G [2, 7, 27, 28] (fun v g => v = none ∧ (True))) (RA base) := by
  refine MS.of (by decide) (Nat.le_of_ble_eq_true rfl) ?_
  intro p e s m below meth c C hPT hSS ls hl
  obtain ⟨hx, hb, hr, hml, hown, hts, hlocks, hK, hnm⟩ := C
  obtain ⟨hZ, hT⟩ := hPT
  have hS : va_S (RA base) s.heap s.heap [] := va_S.rf
  have hF : Fr τ [2, 7, 27, 28] G G := Fr.rf
  have hl : lv_has ls 3 [(0, .ref a)] := hl
  refine lv_aload_n hx hb dX4_readValley_0 rfl (lv_at hl 0 rfl) ?_
  refine t_getr cf_2 hx hb hts hown hK hT h_a (k := 8) (P := fun q => τ q = 7) rfl (fun _ h9 => h9) fl_X4_22 (fun _ h9 => h9) dX4_readValley_1 (fun q_1 eq_1 hq_1 => ?_)
  refine t_geti cf_7 hx hb hts hown hK hT hq_1 (k := 6) rfl fl_X4_151 (fun _ h9 => h9) dX4_readValley_4 (fun z_2 ez_2 rz_2 => ?_)
  have ez_2 : z_2 = G.1 q_1 6 := ez_2
  have rz_2 : 0 ≤ z_2.toInt ∧ z_2.toInt ≤ 6 := rz_2
  refine lv_istore_n (lv' := [(1, .int z_2), (0, .ref a)]) hx hb dX4_readValley_7 rfl hl (by decide) rfl (fun ls hl => ?_)
  refine lv_iload_n hx hb dX4_readValley_8 rfl (lv_at hl 0 rfl) ?_
  refine lv_bipush (v := 6) hx hb dX4_readValley_9 (by decide) ?_
  refine lv_icmp_lt (tgt := 20) hx hb dX4_readValley_11 (by decide) (fun c_3 => ?_) (fun c_3 => ?_)
  · skip
    have tc_3 : z_2.toInt < 6 := (fa_lt _ _).mp c_3
    refine lv_aload_n hx hb dX4_readValley_20 rfl (lv_at hl 1 rfl) ?_
    refine va_ldcS (tx := "valley") hx hb hown (hSS.2.1 9 (by decide)) dX4_readValley_21 ?_
    refine t_callv (runVs (As := [.ref (adK 9)]) (rest := []) ⟨hx, hb, hml, hown, hts⟩ (t_X4_takeWord l D cy base τ G adK adV 9 (by decide) a h_a) sV_X4_110 hK hSS hS (t_recv cf_2 hK hT h_a) ⟨Nat.le_trans hZ hS.1, hT⟩ ⟨Nat.le_of_ble_eq_true rfl, Nat.le_of_ble_eq_true rfl⟩ rfl hl.1 rfl (Nat.le_of_ble_eq_true rfl) dX4_readValley_23 ⟨Nat.le_of_ble_eq_true rfl, Nat.le_of_ble_eq_true rfl⟩) hS (fun G_4 H locs hF_4 hr_4 hT hS => ?_)
    have hF := hF.tr hF_4 rfl
    refine lv_aload_n hx hb dX4_readValley_26 rfl (lv_at hl 1 rfl) ?_
    refine t_getr cf_2 hx hb hts hown hK hT h_a (k := 8) (P := fun q => τ q = 7) rfl (fun _ h9 => h9) fl_X4_22 (fun _ h9 => h9) dX4_readValley_27 (fun q_5 eq_5 hq_5 => ?_)
    have w_6 : q_1 = q_5 := Option.some.inj (eq_1.symm.trans ((hF.r h_a (by decide) rfl _).symm.trans eq_5))
    subst w_6
    refine t_getr cf_7 hx hb hts hown hK hT hq_1 (k := 17) (P := fun q => τ q = 27) rfl (fun _ h9 => h9) fl_X4_154 (fun _ h9 => h9) dX4_readValley_30 (fun q_7 eq_7 hq_7 => ?_)
    have eq_7 := (hF.r hq_1 (by decide) rfl _).symm.trans eq_7
    refine lv_iload_n hx hb dX4_readValley_33 rfl (lv_at hl 0 rfl) ?_
    refine lv_aload_n hx hb dX4_readValley_34 rfl (lv_at hl 1 rfl) ?_
    refine va_ldcS (tx := "shut") hx hb hown (hSS.2.1 10 (by decide)) dX4_readValley_35 ?_
    refine lv_iconst (v := 0) hx hb dX4_readValley_37 (by decide) ?_
    refine lv_bipush (v := 100) hx hb dX4_readValley_38 (by decide) ?_
    refine t_calli (runVs (As := [.ref (adK 10), .int 0, .int 100]) (rest := [.int z_2, .ref q_7]) ⟨hx, hb, hml, hown, hts⟩ (t_X4_takeNamed l D cy base τ G_4 adK adV 10 (by decide) a h_a (0 : Int32) (100 : Int32)) sV_X4_116 hK hSS hS (t_recv cf_2 hK hT h_a) ⟨Nat.le_trans hZ hS.1, hT⟩ ⟨Nat.le_of_ble_eq_true rfl, Nat.le_of_ble_eq_true rfl⟩ rfl hl.1 rfl (Nat.le_of_ble_eq_true rfl) dX4_readValley_40 ⟨Nat.le_of_ble_eq_true rfl, Nat.le_of_ble_eq_true rfl⟩) hS (fun r_8 G_8 H locs hF_8 hr_8 hT hS => ?_)
    have hF := hF.tr hF_8 rfl
    have hr_8_p0 := hr_8
    have hr_8_p0 : r_8.toInt = (0 : Int) ∨ ((0 : Int) ≤ r_8.toInt ∧ r_8.toInt ≤ (100 : Int)) := hr_8_p0
    refine t_iast (n := 6) (i := z_2) (x := r_8) rfl (by decide) hx hb hK hT hS hq_7 (hT.len hq_7 (by decide)) ⟨by omega, by omega⟩ trivial dX4_readValley_43 (fun H locs G_9 eG_9 hT hS => ?_)
    have hF := hF.wI eG_9 hq_7 rfl
    refine lv_aload_n hx hb dX4_readValley_44 rfl (lv_at hl 1 rfl) ?_
    refine t_getr cf_2 hx hb hts hown hK hT h_a (k := 8) (P := fun q => τ q = 7) rfl (fun _ h9 => h9) fl_X4_22 (fun _ h9 => h9) dX4_readValley_45 (fun q_10 eq_10 hq_10 => ?_)
    have w_11 : q_1 = q_10 := Option.some.inj (eq_1.symm.trans ((hF.r h_a (by decide) rfl _).symm.trans eq_10))
    subst w_11
    refine t_getr cf_7 hx hb hts hown hK hT hq_1 (k := 18) (P := fun q => τ q = 27) rfl (fun _ h9 => h9) fl_X4_159 (fun _ h9 => h9) dX4_readValley_48 (fun q_12 eq_12 hq_12 => ?_)
    have eq_12 := (hF.r hq_1 (by decide) rfl _).symm.trans eq_12
    refine lv_iload_n hx hb dX4_readValley_51 rfl (lv_at hl 0 rfl) ?_
    refine lv_aload_n hx hb dX4_readValley_52 rfl (lv_at hl 1 rfl) ?_
    refine va_ldcS (tx := "room") hx hb hown (hSS.2.1 11 (by decide)) dX4_readValley_53 ?_
    refine lv_iconst (v := 0) hx hb dX4_readValley_55 (by decide) ?_
    refine lv_sipush (v := 999) hx hb dX4_readValley_56 (by decide) ?_
    refine t_calli (runVs (As := [.ref (adK 11), .int 0, .int 999]) (rest := [.int z_2, .ref q_12]) ⟨hx, hb, hml, hown, hts⟩ (t_X4_takeNamed l D cy base τ G_9 adK adV 11 (by decide) a h_a (0 : Int32) (999 : Int32)) sV_X4_116 hK hSS hS (t_recv cf_2 hK hT h_a) ⟨Nat.le_trans hZ hS.1, hT⟩ ⟨Nat.le_of_ble_eq_true rfl, Nat.le_of_ble_eq_true rfl⟩ rfl hl.1 rfl (Nat.le_of_ble_eq_true rfl) dX4_readValley_59 ⟨Nat.le_of_ble_eq_true rfl, Nat.le_of_ble_eq_true rfl⟩) hS (fun r_13 G_13 H locs hF_13 hr_13 hT hS => ?_)
    have hF := hF.tr hF_13 rfl
    have hr_13_p0 := hr_13
    have hr_13_p0 : r_13.toInt = (0 : Int) ∨ ((0 : Int) ≤ r_13.toInt ∧ r_13.toInt ≤ (999 : Int)) := hr_13_p0
    refine t_iast (n := 6) (i := z_2) (x := r_13) rfl (by decide) hx hb hK hT hS hq_12 (hT.len hq_12 (by decide)) ⟨by omega, by omega⟩ trivial dX4_readValley_62 (fun H locs G_14 eG_14 hT hS => ?_)
    have hF := hF.wI eG_14 hq_12 rfl
    refine lv_aload_n hx hb dX4_readValley_63 rfl (lv_at hl 1 rfl) ?_
    refine va_ldcS (tx := "wants") hx hb hown (hSS.2.1 12 (by decide)) dX4_readValley_64 ?_
    refine t_callv (runVs (As := [.ref (adK 12)]) (rest := []) ⟨hx, hb, hml, hown, hts⟩ (t_X4_takeWord l D cy base τ G_14 adK adV 12 (by decide) a h_a) sV_X4_110 hK hSS hS (t_recv cf_2 hK hT h_a) ⟨Nat.le_trans hZ hS.1, hT⟩ ⟨Nat.le_of_ble_eq_true rfl, Nat.le_of_ble_eq_true rfl⟩ rfl hl.1 rfl (Nat.le_of_ble_eq_true rfl) dX4_readValley_66 ⟨Nat.le_of_ble_eq_true rfl, Nat.le_of_ble_eq_true rfl⟩) hS (fun G_15 H locs hF_15 hr_15 hT hS => ?_)
    have hF := hF.tr hF_15 rfl
    refine lv_iconst (v := 0) hx hb dX4_readValley_69 (by decide) ?_
    refine lv_istore_n (lv' := [(2, .int 0), (1, .int z_2), (0, .ref a)]) hx hb dX4_readValley_70 rfl hl (by decide) rfl (fun ls hl => ?_)
    refine W.loop (σ := Int32 × Gh) (fun w16 H locs ls => 0 ≤ w16.1.toInt ∧ w16.1.toInt ≤ 3 ∧ Fr τ [2, 7, 27, 28] G w16.2 ∧ TY D cy base τ w16.2 H ∧ va_S (RA base) s.heap H locs ∧ lv_has ls 3 [(2, .int w16.1), (1, .int z_2), (0, .ref a)]) (fun w16 => (3 - w16.1.toInt).toNat) ?_ ((0 : Int32), G_15) _ _ _ ⟨(by show 0 ≤ (0 : Int32).toInt; decide), (by show (0 : Int32).toInt ≤ 3; decide), hF, hT, hS, lv_sub hl [0, 1, 2] rfl⟩
    intro w16 H locs ls hI ih16
    obtain ⟨x16_2, G_16⟩ := w16
    obtain ⟨i16_0, i16_1, hF, hT, hS, hl⟩ := hI
    have i16_0 : 0 ≤ x16_2.toInt := i16_0
    have i16_1 : x16_2.toInt ≤ 3 := i16_1
    have hF : Fr τ [2, 7, 27, 28] G G_16 := hF
    have hT : TY D cy base τ G_16 H := hT
    have hS : va_S (RA base) s.heap H locs := hS
    have hl : lv_has ls 3 [(2, .int x16_2), (1, .int z_2), (0, .ref a)] := hl
    refine lv_iload_n hx hb dX4_readValley_71 rfl (lv_at hl 0 rfl) ?_
    refine lv_aload_n hx hb dX4_readValley_72 rfl (lv_at hl 2 rfl) ?_
    refine t_getr cf_2 hx hb hts hown hK hT h_a (k := 8) (P := fun q => τ q = 7) rfl (fun _ h9 => h9) fl_X4_22 (fun _ h9 => h9) dX4_readValley_73 (fun q_17 eq_17 hq_17 => ?_)
    have w_18 : q_1 = q_17 := Option.some.inj (eq_1.symm.trans ((hF.r h_a (by decide) rfl _).symm.trans eq_17))
    subst w_18
    refine t_geti cf_7 hx hb hts hown hK hT hq_1 (k := 5) rfl fl_X4_134 (fun _ h9 => h9) dX4_readValley_76 (fun z_19 ez_19 rz_19 => ?_)
    have ez_19 : z_19 = G_16.1 q_1 5 := ez_19
    have rz_19 : 0 ≤ z_19.toInt ∧ z_19.toInt ≤ 3 := rz_19
    refine lv_icmp_ge (tgt := 108) hx hb dX4_readValley_79 (by decide) (fun c_20 => ?_) (fun c_20 => ?_)
    · skip
      have tc_20 : z_19.toInt ≤ x16_2.toInt := (fa_le _ _).mp c_20
      refine lv_aload_n hx hb dX4_readValley_108 rfl (lv_at hl 2 rfl) ?_
      refine t_getr cf_2 hx hb hts hown hK hT h_a (k := 8) (P := fun q => τ q = 7) rfl (fun _ h9 => h9) fl_X4_22 (fun _ h9 => h9) dX4_readValley_109 (fun q_21 eq_21 hq_21 => ?_)
      have w_22 : q_1 = q_21 := Option.some.inj (eq_1.symm.trans ((hF.r h_a (by decide) rfl _).symm.trans eq_21))
      subst w_22
      refine lv_iload_n hx hb dX4_readValley_112 rfl (lv_at hl 1 rfl) ?_
      refine lv_iconst (v := 1) hx hb dX4_readValley_113 (by decide) ?_
      refine lv_iadd hx hb dX4_readValley_114 ?_
      refine lv_topi (fun z_23 ez_23 => ?_)
      have tz_23 : z_23.toInt = z_2.toInt + 1 := add_t ez_23 (show -2147483648 ≤ z_2.toInt + 1 by omega) (show z_2.toInt + 1 < 2147483648 by omega)
      refine t_puti (x := z_23) cf_7 hx hb hts hown hK hT hS hq_1 (k := 6) rfl (show 0 ≤ z_23.toInt ∧ z_23.toInt ≤ 6 from ⟨by omega, by omega⟩) fl_X4_151 (fun _ h9 => h9) rfl rfl rfl dX4_readValley_115 (fun H locs G_24 eG_24 hT hS => ?_)
      have hF := hF.wI eG_24 hq_1 rfl
      exact ret_v hx hb hr hlocks ⟨⟨hS.1, hS.2.1⟩, G_24, hF, ⟨rfl, trivial⟩, hT⟩ hS.2.2 (Nat.le_of_ble_eq_true rfl) (Nat.le_of_ble_eq_true rfl) dX4_readValley_118
    · skip
      have tc_20 : ¬ z_19.toInt ≤ x16_2.toInt := fun h => c_20 ((fa_le _ _).mpr h)
      refine lv_aload_n hx hb dX4_readValley_82 rfl (lv_at hl 2 rfl) ?_
      refine t_getr cf_2 hx hb hts hown hK hT h_a (k := 8) (P := fun q => τ q = 7) rfl (fun _ h9 => h9) fl_X4_22 (fun _ h9 => h9) dX4_readValley_83 (fun q_25 eq_25 hq_25 => ?_)
      have w_26 : q_1 = q_25 := Option.some.inj (eq_1.symm.trans ((hF.r h_a (by decide) rfl _).symm.trans eq_25))
      subst w_26
      refine t_getr cf_7 hx hb hts hown hK hT hq_1 (k := 19) (P := fun q => τ q = 28) rfl (fun _ h9 => h9) fl_X4_165 (fun _ h9 => h9) dX4_readValley_86 (fun q_27 eq_27 hq_27 => ?_)
      have eq_27 := (hF.r hq_1 (by decide) rfl _).symm.trans eq_27
      refine lv_iload_n hx hb dX4_readValley_89 rfl (lv_at hl 1 rfl) ?_
      refine lv_iconst (v := 3) hx hb dX4_readValley_90 (by decide) ?_
      refine lv_imul hx hb dX4_readValley_91 ?_
      refine lv_topi (fun z_28 ez_28 => ?_)
      have tz_28 : z_28.toInt = z_2.toInt * 3 := mul_t ez_28 (show -2147483648 ≤ z_2.toInt * 3 by omega) (show z_2.toInt * 3 < 2147483648 by omega)
      refine lv_iload_n hx hb dX4_readValley_92 rfl (lv_at hl 0 rfl) ?_
      refine lv_iadd hx hb dX4_readValley_93 ?_
      refine lv_topi (fun z_29 ez_29 => ?_)
      have tz_29 : z_29.toInt = z_28.toInt + x16_2.toInt := add_t ez_29 (show -2147483648 ≤ z_28.toInt + x16_2.toInt by omega) (show z_28.toInt + x16_2.toInt < 2147483648 by omega)
      refine lv_aload_n hx hb dX4_readValley_94 rfl (lv_at hl 2 rfl) ?_
      refine lv_iconst (v := 0) hx hb dX4_readValley_95 (by decide) ?_
      refine lv_bipush (v := 9) hx hb dX4_readValley_96 (by decide) ?_
      refine t_calli (runV (As := [.int 0, .int 9]) (rest := [.int z_29, .ref q_27]) ⟨hx, hb, hml, hown, hts⟩ (t_X4_takeNumber l D cy base τ G_16 a h_a 0 9) sV_X4_168 hK (t_recv cf_2 hK hT h_a) ⟨Nat.le_trans hZ hS.1, hT⟩ ⟨Nat.le_of_ble_eq_true rfl, Nat.le_of_ble_eq_true rfl⟩ rfl hl.1 rfl (Nat.le_of_ble_eq_true rfl) dX4_readValley_98 ⟨Nat.le_of_ble_eq_true rfl, Nat.le_of_ble_eq_true rfl⟩) hS (fun r_30 G_30 H locs hF_30 hr_30 hT hS => ?_)
      have hF := hF.tr hF_30 rfl
      have hr_30_p0 := hr_30
      have hr_30_p0 : r_30.toInt = (0 : Int) ∨ ((0 : Int) ≤ r_30.toInt ∧ r_30.toInt ≤ (9 : Int)) := hr_30_p0
      refine t_iast (n := 18) (i := z_29) (x := r_30) rfl (by decide) hx hb hK hT hS hq_27 (hT.len hq_27 (by decide)) ⟨by omega, by omega⟩ trivial dX4_readValley_101 (fun H locs G_31 eG_31 hT hS => ?_)
      have hF := hF.wI eG_31 hq_27 rfl
      obtain ⟨z_32, ez_32⟩ : ∃ y : Int32, y = x16_2 + 1 := ⟨_, rfl⟩
      have tz_32 : z_32.toInt = x16_2.toInt + 1 := add_t ez_32 (show -2147483648 ≤ x16_2.toInt + 1 by omega) (show x16_2.toInt + 1 < 2147483648 by omega)
      refine lv_iinc (v := z_32) (lv' := [(2, .int z_32), (1, .int z_2), (0, .ref a)]) hx hb dX4_readValley_102 hl (k := 0) rfl (by rw [ez_32]; rfl) (by decide) rfl (fun ls hl => ?_)
      refine lv_goto (tgt := 71) hx hb dX4_readValley_105 (by decide) ?_
      exact ih16 (z_32, G_31) _ _ _ (by show (3 - z_32.toInt).toNat < (3 - x16_2.toInt).toNat; omega) ⟨(by show 0 ≤ z_32.toInt; omega), (by show z_32.toInt ≤ 3; omega), hF, hT, hS, lv_sub hl [0, 1, 2] rfl⟩
  · skip
    have tc_3 : ¬ z_2.toInt < 6 := fun h => c_3 ((fa_lt _ _).mpr h)
    refine lv_aload_n hx hb dX4_readValley_14 rfl (lv_at hl 1 rfl) ?_
    refine lv_iconst (v := 3) hx hb dX4_readValley_15 (by decide) ?_
    obtain ⟨z_33, ez_33⟩ : ∃ y : Int32, y = G.1 a 0 := ⟨_, rfl⟩
    refine t_callv (runV (As := [.int 3]) (rest := []) ⟨hx, hb, hml, hown, hts⟩ (t_X4_refuse l D cy base τ G a h_a 3 (by decide) z_33 ez_33) sV_X4_79 hK (t_recv cf_2 hK hT h_a) ⟨Nat.le_trans hZ hS.1, hT⟩ ⟨Nat.le_of_ble_eq_true rfl, Nat.le_of_ble_eq_true rfl⟩ rfl hl.1 rfl (Nat.le_of_ble_eq_true rfl) dX4_readValley_16 ⟨Nat.le_of_ble_eq_true rfl, Nat.le_of_ble_eq_true rfl⟩) hS (fun G_34 H locs hF_34 hr_34 hT hS => ?_)
    have hF := hF.tr hF_34 rfl
    have hr_34_p0 := hr_34
    obtain ⟨z_35, ez_35, hr_34_p0⟩ : ∃ z_35 : Int32, z_35 = G_34.1 a 0 ∧ (z_35.toInt ≠ 0) := ⟨_, rfl, hr_34_p0⟩
    exact ret_v hx hb hr hlocks ⟨⟨hS.1, hS.2.1⟩, G_34, hF, ⟨rfl, trivial⟩, hT⟩ hS.2.2 (Nat.le_of_ble_eq_true rfl) (Nat.le_of_ble_eq_true rfl) dX4_readValley_19
set_option maxHeartbeats 4000000 in
set_option maxRecDepth 100000 in
theorem t_X4_readLorry (l : Launch) (D : va_G) (cy : Nat → ClassId) (base : Nat) (τ : Nat → Nat) (G : Gh) (adK adV : Nat → Nat)  (a : Nat) (h_a : τ a = 2) : MS l yX4_readLorry cX4_readLorry 1 none 7 0 0 D cy adK adV base [.ref a] (PT D cy base τ G) (QT D cy base τ G [2, 7] (fun v g => v = none ∧ (True))) (RA base) := by
  refine MS.of (by decide) (Nat.le_of_ble_eq_true rfl) ?_
  intro p e s m below meth c C hPT hSS ls hl
  obtain ⟨hx, hb, hr, hml, hown, hts, hlocks, hK, hnm⟩ := C
  obtain ⟨hZ, hT⟩ := hPT
  have hS : va_S (RA base) s.heap s.heap [] := va_S.rf
  have hF : Fr τ [2, 7] G G := Fr.rf
  have hl : lv_has ls 1 [(0, .ref a)] := hl
  refine lv_aload_n hx hb dX4_readLorry_0 rfl (lv_at hl 0 rfl) ?_
  refine t_geti cf_2 hx hb hts hown hK hT h_a (k := 9) rfl fl_X4_95 (fun _ h9 => h9) dX4_readLorry_1 (fun z_1 ez_1 rz_1 => ?_)
  have ez_1 : z_1 = G.1 a 9 := ez_1
  refine lv_if_eq (tgt := 12) hx hb dX4_readLorry_4 (by decide) (fun c_2 => ?_) (fun c_2 => ?_)
  · skip
    have tc_2 : z_1.toInt = 0 := (fa_eq _ _).mp c_2
    refine lv_aload_n hx hb dX4_readLorry_12 rfl (lv_at hl 0 rfl) ?_
    refine lv_iconst (v := 1) hx hb dX4_readLorry_13 (by decide) ?_
    refine t_puti (x := 1) cf_2 hx hb hts hown hK hT hS h_a (k := 9) rfl trivial fl_X4_95 (fun _ h9 => h9) rfl rfl rfl dX4_readLorry_14 (fun H locs G_3 eG_3 hT hS => ?_)
    have hF := hF.wI eG_3 h_a rfl
    refine lv_aload_n hx hb dX4_readLorry_17 rfl (lv_at hl 0 rfl) ?_
    refine va_ldcS (tx := "lorry") hx hb hown (hSS.2.1 13 (by decide)) dX4_readLorry_18 ?_
    refine t_callv (runVs (As := [.ref (adK 13)]) (rest := []) ⟨hx, hb, hml, hown, hts⟩ (t_X4_takeWord l D cy base τ G_3 adK adV 13 (by decide) a h_a) sV_X4_110 hK hSS hS (t_recv cf_2 hK hT h_a) ⟨Nat.le_trans hZ hS.1, hT⟩ ⟨Nat.le_of_ble_eq_true rfl, Nat.le_of_ble_eq_true rfl⟩ rfl hl.1 rfl (Nat.le_of_ble_eq_true rfl) dX4_readLorry_20 ⟨Nat.le_of_ble_eq_true rfl, Nat.le_of_ble_eq_true rfl⟩) hS (fun G_4 H locs hF_4 hr_4 hT hS => ?_)
    have hF := hF.tr hF_4 rfl
    refine lv_aload_n hx hb dX4_readLorry_23 rfl (lv_at hl 0 rfl) ?_
    refine t_getr cf_2 hx hb hts hown hK hT h_a (k := 8) (P := fun q => τ q = 7) rfl (fun _ h9 => h9) fl_X4_22 (fun _ h9 => h9) dX4_readLorry_24 (fun q_5 eq_5 hq_5 => ?_)
    have eq_5 := (hF.r h_a (by decide) rfl _).symm.trans eq_5
    refine lv_aload_n hx hb dX4_readLorry_27 rfl (lv_at hl 0 rfl) ?_
    refine va_ldcS (tx := "many") hx hb hown (hSS.2.1 14 (by decide)) dX4_readLorry_28 ?_
    refine lv_iconst (v := 1) hx hb dX4_readLorry_30 (by decide) ?_
    refine lv_bipush (v := 9) hx hb dX4_readLorry_31 (by decide) ?_
    refine t_calli (runVs (As := [.ref (adK 14), .int 1, .int 9]) (rest := [.ref q_5]) ⟨hx, hb, hml, hown, hts⟩ (t_X4_takeNamed l D cy base τ G_4 adK adV 14 (by decide) a h_a (1 : Int32) (9 : Int32)) sV_X4_116 hK hSS hS (t_recv cf_2 hK hT h_a) ⟨Nat.le_trans hZ hS.1, hT⟩ ⟨Nat.le_of_ble_eq_true rfl, Nat.le_of_ble_eq_true rfl⟩ rfl hl.1 rfl (Nat.le_of_ble_eq_true rfl) dX4_readLorry_33 ⟨Nat.le_of_ble_eq_true rfl, Nat.le_of_ble_eq_true rfl⟩) hS (fun r_6 G_6 H locs hF_6 hr_6 hT hS => ?_)
    have hF := hF.tr hF_6 rfl
    have hr_6_p0 := hr_6
    have hr_6_p0 : r_6.toInt = (1 : Int) ∨ ((1 : Int) ≤ r_6.toInt ∧ r_6.toInt ≤ (9 : Int)) := hr_6_p0
    refine t_puti (x := r_6) cf_7 hx hb hts hown hK hT hS hq_5 (k := 8) rfl (show 1 ≤ r_6.toInt ∧ r_6.toInt ≤ 9 from ⟨by omega, by omega⟩) fl_X4_173 (fun _ h9 => h9) rfl rfl rfl dX4_readLorry_36 (fun H locs G_7 eG_7 hT hS => ?_)
    have hF := hF.wI eG_7 hq_5 rfl
    refine lv_aload_n hx hb dX4_readLorry_39 rfl (lv_at hl 0 rfl) ?_
    refine t_getr cf_2 hx hb hts hown hK hT h_a (k := 8) (P := fun q => τ q = 7) rfl (fun _ h9 => h9) fl_X4_22 (fun _ h9 => h9) dX4_readLorry_40 (fun q_8 eq_8 hq_8 => ?_)
    have w_9 : q_5 = q_8 := Option.some.inj (eq_5.symm.trans ((hF.r h_a (by decide) rfl _).symm.trans eq_8))
    subst w_9
    refine lv_aload_n hx hb dX4_readLorry_43 rfl (lv_at hl 0 rfl) ?_
    refine va_ldcS (tx := "carry") hx hb hown (hSS.2.1 15 (by decide)) dX4_readLorry_44 ?_
    refine lv_iconst (v := 1) hx hb dX4_readLorry_46 (by decide) ?_
    refine lv_bipush (v := 50) hx hb dX4_readLorry_47 (by decide) ?_
    refine t_calli (runVs (As := [.ref (adK 15), .int 1, .int 50]) (rest := [.ref q_5]) ⟨hx, hb, hml, hown, hts⟩ (t_X4_takeNamed l D cy base τ G_7 adK adV 15 (by decide) a h_a (1 : Int32) (50 : Int32)) sV_X4_116 hK hSS hS (t_recv cf_2 hK hT h_a) ⟨Nat.le_trans hZ hS.1, hT⟩ ⟨Nat.le_of_ble_eq_true rfl, Nat.le_of_ble_eq_true rfl⟩ rfl hl.1 rfl (Nat.le_of_ble_eq_true rfl) dX4_readLorry_49 ⟨Nat.le_of_ble_eq_true rfl, Nat.le_of_ble_eq_true rfl⟩) hS (fun r_10 G_10 H locs hF_10 hr_10 hT hS => ?_)
    have hF := hF.tr hF_10 rfl
    have hr_10_p0 := hr_10
    have hr_10_p0 : r_10.toInt = (1 : Int) ∨ ((1 : Int) ≤ r_10.toInt ∧ r_10.toInt ≤ (50 : Int)) := hr_10_p0
    refine t_puti (x := r_10) cf_7 hx hb hts hown hK hT hS hq_5 (k := 9) rfl (show 1 ≤ r_10.toInt ∧ r_10.toInt ≤ 50 from ⟨by omega, by omega⟩) fl_X4_178 (fun _ h9 => h9) rfl rfl rfl dX4_readLorry_52 (fun H locs G_11 eG_11 hT hS => ?_)
    have hF := hF.wI eG_11 hq_5 rfl
    refine lv_aload_n hx hb dX4_readLorry_55 rfl (lv_at hl 0 rfl) ?_
    refine t_getr cf_2 hx hb hts hown hK hT h_a (k := 8) (P := fun q => τ q = 7) rfl (fun _ h9 => h9) fl_X4_22 (fun _ h9 => h9) dX4_readLorry_56 (fun q_12 eq_12 hq_12 => ?_)
    have w_13 : q_5 = q_12 := Option.some.inj (eq_5.symm.trans ((hF.r h_a (by decide) rfl _).symm.trans eq_12))
    subst w_13
    refine lv_aload_n hx hb dX4_readLorry_59 rfl (lv_at hl 0 rfl) ?_
    refine va_ldcS (tx := "cost") hx hb hown (hSS.2.1 16 (by decide)) dX4_readLorry_60 ?_
    refine lv_iconst (v := 0) hx hb dX4_readLorry_62 (by decide) ?_
    refine lv_sipush (v := 999) hx hb dX4_readLorry_63 (by decide) ?_
    refine t_calli (runVs (As := [.ref (adK 16), .int 0, .int 999]) (rest := [.ref q_5]) ⟨hx, hb, hml, hown, hts⟩ (t_X4_takeNamed l D cy base τ G_11 adK adV 16 (by decide) a h_a (0 : Int32) (999 : Int32)) sV_X4_116 hK hSS hS (t_recv cf_2 hK hT h_a) ⟨Nat.le_trans hZ hS.1, hT⟩ ⟨Nat.le_of_ble_eq_true rfl, Nat.le_of_ble_eq_true rfl⟩ rfl hl.1 rfl (Nat.le_of_ble_eq_true rfl) dX4_readLorry_66 ⟨Nat.le_of_ble_eq_true rfl, Nat.le_of_ble_eq_true rfl⟩) hS (fun r_14 G_14 H locs hF_14 hr_14 hT hS => ?_)
    have hF := hF.tr hF_14 rfl
    have hr_14_p0 := hr_14
    have hr_14_p0 : r_14.toInt = (0 : Int) ∨ ((0 : Int) ≤ r_14.toInt ∧ r_14.toInt ≤ (999 : Int)) := hr_14_p0
    refine t_puti (x := r_14) cf_7 hx hb hts hown hK hT hS hq_5 (k := 10) rfl trivial fl_X4_183 (fun _ h9 => h9) rfl rfl rfl dX4_readLorry_69 (fun H locs G_15 eG_15 hT hS => ?_)
    have hF := hF.wI eG_15 hq_5 rfl
    exact ret_v hx hb hr hlocks ⟨⟨hS.1, hS.2.1⟩, G_15, hF, ⟨rfl, trivial⟩, hT⟩ hS.2.2 (Nat.le_of_ble_eq_true rfl) (Nat.le_of_ble_eq_true rfl) dX4_readLorry_72
  · skip
    have tc_2 : ¬ z_1.toInt = 0 := fun h => c_2 ((fa_eq _ _).mpr h)
    refine lv_aload_n hx hb dX4_readLorry_7 rfl (lv_at hl 0 rfl) ?_
    refine lv_iconst (v := 2) hx hb dX4_readLorry_8 (by decide) ?_
    obtain ⟨z_16, ez_16⟩ : ∃ y : Int32, y = G.1 a 0 := ⟨_, rfl⟩
    refine t_callv (runV (As := [.int 2]) (rest := []) ⟨hx, hb, hml, hown, hts⟩ (t_X4_refuse l D cy base τ G a h_a 2 (by decide) z_16 ez_16) sV_X4_79 hK (t_recv cf_2 hK hT h_a) ⟨Nat.le_trans hZ hS.1, hT⟩ ⟨Nat.le_of_ble_eq_true rfl, Nat.le_of_ble_eq_true rfl⟩ rfl hl.1 rfl (Nat.le_of_ble_eq_true rfl) dX4_readLorry_9 ⟨Nat.le_of_ble_eq_true rfl, Nat.le_of_ble_eq_true rfl⟩) hS (fun G_17 H locs hF_17 hr_17 hT hS => ?_)
    have hF := hF.tr hF_17 rfl
    have hr_17_p0 := hr_17
    obtain ⟨z_18, ez_18, hr_17_p0⟩ : ∃ z_18 : Int32, z_18 = G_17.1 a 0 ∧ (z_18.toInt ≠ 0) := ⟨_, rfl, hr_17_p0⟩
    refine lv_aload_n hx hb dX4_readLorry_12 rfl (lv_at hl 0 rfl) ?_
    refine lv_iconst (v := 1) hx hb dX4_readLorry_13 (by decide) ?_
    refine t_puti (x := 1) cf_2 hx hb hts hown hK hT hS h_a (k := 9) rfl trivial fl_X4_95 (fun _ h9 => h9) rfl rfl rfl dX4_readLorry_14 (fun H locs G_19 eG_19 hT hS => ?_)
    have hF := hF.wI eG_19 h_a rfl
    refine lv_aload_n hx hb dX4_readLorry_17 rfl (lv_at hl 0 rfl) ?_
    refine va_ldcS (tx := "lorry") hx hb hown (hSS.2.1 13 (by decide)) dX4_readLorry_18 ?_
    refine t_callv (runVs (As := [.ref (adK 13)]) (rest := []) ⟨hx, hb, hml, hown, hts⟩ (t_X4_takeWord l D cy base τ G_19 adK adV 13 (by decide) a h_a) sV_X4_110 hK hSS hS (t_recv cf_2 hK hT h_a) ⟨Nat.le_trans hZ hS.1, hT⟩ ⟨Nat.le_of_ble_eq_true rfl, Nat.le_of_ble_eq_true rfl⟩ rfl hl.1 rfl (Nat.le_of_ble_eq_true rfl) dX4_readLorry_20 ⟨Nat.le_of_ble_eq_true rfl, Nat.le_of_ble_eq_true rfl⟩) hS (fun G_20 H locs hF_20 hr_20 hT hS => ?_)
    have hF := hF.tr hF_20 rfl
    refine lv_aload_n hx hb dX4_readLorry_23 rfl (lv_at hl 0 rfl) ?_
    refine t_getr cf_2 hx hb hts hown hK hT h_a (k := 8) (P := fun q => τ q = 7) rfl (fun _ h9 => h9) fl_X4_22 (fun _ h9 => h9) dX4_readLorry_24 (fun q_21 eq_21 hq_21 => ?_)
    have eq_21 := (hF.r h_a (by decide) rfl _).symm.trans eq_21
    refine lv_aload_n hx hb dX4_readLorry_27 rfl (lv_at hl 0 rfl) ?_
    refine va_ldcS (tx := "many") hx hb hown (hSS.2.1 14 (by decide)) dX4_readLorry_28 ?_
    refine lv_iconst (v := 1) hx hb dX4_readLorry_30 (by decide) ?_
    refine lv_bipush (v := 9) hx hb dX4_readLorry_31 (by decide) ?_
    refine t_calli (runVs (As := [.ref (adK 14), .int 1, .int 9]) (rest := [.ref q_21]) ⟨hx, hb, hml, hown, hts⟩ (t_X4_takeNamed l D cy base τ G_20 adK adV 14 (by decide) a h_a (1 : Int32) (9 : Int32)) sV_X4_116 hK hSS hS (t_recv cf_2 hK hT h_a) ⟨Nat.le_trans hZ hS.1, hT⟩ ⟨Nat.le_of_ble_eq_true rfl, Nat.le_of_ble_eq_true rfl⟩ rfl hl.1 rfl (Nat.le_of_ble_eq_true rfl) dX4_readLorry_33 ⟨Nat.le_of_ble_eq_true rfl, Nat.le_of_ble_eq_true rfl⟩) hS (fun r_22 G_22 H locs hF_22 hr_22 hT hS => ?_)
    have hF := hF.tr hF_22 rfl
    have hr_22_p0 := hr_22
    have hr_22_p0 : r_22.toInt = (1 : Int) ∨ ((1 : Int) ≤ r_22.toInt ∧ r_22.toInt ≤ (9 : Int)) := hr_22_p0
    refine t_puti (x := r_22) cf_7 hx hb hts hown hK hT hS hq_21 (k := 8) rfl (show 1 ≤ r_22.toInt ∧ r_22.toInt ≤ 9 from ⟨by omega, by omega⟩) fl_X4_173 (fun _ h9 => h9) rfl rfl rfl dX4_readLorry_36 (fun H locs G_23 eG_23 hT hS => ?_)
    have hF := hF.wI eG_23 hq_21 rfl
    refine lv_aload_n hx hb dX4_readLorry_39 rfl (lv_at hl 0 rfl) ?_
    refine t_getr cf_2 hx hb hts hown hK hT h_a (k := 8) (P := fun q => τ q = 7) rfl (fun _ h9 => h9) fl_X4_22 (fun _ h9 => h9) dX4_readLorry_40 (fun q_24 eq_24 hq_24 => ?_)
    have w_25 : q_21 = q_24 := Option.some.inj (eq_21.symm.trans ((hF.r h_a (by decide) rfl _).symm.trans eq_24))
    subst w_25
    refine lv_aload_n hx hb dX4_readLorry_43 rfl (lv_at hl 0 rfl) ?_
    refine va_ldcS (tx := "carry") hx hb hown (hSS.2.1 15 (by decide)) dX4_readLorry_44 ?_
    refine lv_iconst (v := 1) hx hb dX4_readLorry_46 (by decide) ?_
    refine lv_bipush (v := 50) hx hb dX4_readLorry_47 (by decide) ?_
    refine t_calli (runVs (As := [.ref (adK 15), .int 1, .int 50]) (rest := [.ref q_21]) ⟨hx, hb, hml, hown, hts⟩ (t_X4_takeNamed l D cy base τ G_23 adK adV 15 (by decide) a h_a (1 : Int32) (50 : Int32)) sV_X4_116 hK hSS hS (t_recv cf_2 hK hT h_a) ⟨Nat.le_trans hZ hS.1, hT⟩ ⟨Nat.le_of_ble_eq_true rfl, Nat.le_of_ble_eq_true rfl⟩ rfl hl.1 rfl (Nat.le_of_ble_eq_true rfl) dX4_readLorry_49 ⟨Nat.le_of_ble_eq_true rfl, Nat.le_of_ble_eq_true rfl⟩) hS (fun r_26 G_26 H locs hF_26 hr_26 hT hS => ?_)
    have hF := hF.tr hF_26 rfl
    have hr_26_p0 := hr_26
    have hr_26_p0 : r_26.toInt = (1 : Int) ∨ ((1 : Int) ≤ r_26.toInt ∧ r_26.toInt ≤ (50 : Int)) := hr_26_p0
    refine t_puti (x := r_26) cf_7 hx hb hts hown hK hT hS hq_21 (k := 9) rfl (show 1 ≤ r_26.toInt ∧ r_26.toInt ≤ 50 from ⟨by omega, by omega⟩) fl_X4_178 (fun _ h9 => h9) rfl rfl rfl dX4_readLorry_52 (fun H locs G_27 eG_27 hT hS => ?_)
    have hF := hF.wI eG_27 hq_21 rfl
    refine lv_aload_n hx hb dX4_readLorry_55 rfl (lv_at hl 0 rfl) ?_
    refine t_getr cf_2 hx hb hts hown hK hT h_a (k := 8) (P := fun q => τ q = 7) rfl (fun _ h9 => h9) fl_X4_22 (fun _ h9 => h9) dX4_readLorry_56 (fun q_28 eq_28 hq_28 => ?_)
    have w_29 : q_21 = q_28 := Option.some.inj (eq_21.symm.trans ((hF.r h_a (by decide) rfl _).symm.trans eq_28))
    subst w_29
    refine lv_aload_n hx hb dX4_readLorry_59 rfl (lv_at hl 0 rfl) ?_
    refine va_ldcS (tx := "cost") hx hb hown (hSS.2.1 16 (by decide)) dX4_readLorry_60 ?_
    refine lv_iconst (v := 0) hx hb dX4_readLorry_62 (by decide) ?_
    refine lv_sipush (v := 999) hx hb dX4_readLorry_63 (by decide) ?_
    refine t_calli (runVs (As := [.ref (adK 16), .int 0, .int 999]) (rest := [.ref q_21]) ⟨hx, hb, hml, hown, hts⟩ (t_X4_takeNamed l D cy base τ G_27 adK adV 16 (by decide) a h_a (0 : Int32) (999 : Int32)) sV_X4_116 hK hSS hS (t_recv cf_2 hK hT h_a) ⟨Nat.le_trans hZ hS.1, hT⟩ ⟨Nat.le_of_ble_eq_true rfl, Nat.le_of_ble_eq_true rfl⟩ rfl hl.1 rfl (Nat.le_of_ble_eq_true rfl) dX4_readLorry_66 ⟨Nat.le_of_ble_eq_true rfl, Nat.le_of_ble_eq_true rfl⟩) hS (fun r_30 G_30 H locs hF_30 hr_30 hT hS => ?_)
    have hF := hF.tr hF_30 rfl
    have hr_30_p0 := hr_30
    have hr_30_p0 : r_30.toInt = (0 : Int) ∨ ((0 : Int) ≤ r_30.toInt ∧ r_30.toInt ≤ (999 : Int)) := hr_30_p0
    refine t_puti (x := r_30) cf_7 hx hb hts hown hK hT hS hq_21 (k := 10) rfl trivial fl_X4_183 (fun _ h9 => h9) rfl rfl rfl dX4_readLorry_69 (fun H locs G_31 eG_31 hT hS => ?_)
    have hF := hF.wI eG_31 hq_21 rfl
    exact ret_v hx hb hr hlocks ⟨⟨hS.1, hS.2.1⟩, G_31, hF, ⟨rfl, trivial⟩, hT⟩ hS.2.2 (Nat.le_of_ble_eq_true rfl) (Nat.le_of_ble_eq_true rfl) dX4_readLorry_72
set_option maxHeartbeats 4000000 in
set_option maxRecDepth 100000 in
theorem t_X4_readPlane (l : Launch) (D : va_G) (cy : Nat → ClassId) (base : Nat) (τ : Nat → Nat) (G : Gh) (adK adV : Nat → Nat)  (a : Nat) (h_a : τ a = 2) : MS l yX4_readPlane cX4_readPlane 1 none 7 0 0 D cy adK adV base [.ref a] (PT D cy base τ G) (QT D cy base τ G [2, 7] (fun v g => v = none ∧ (True))) (RA base) := by
  refine MS.of (by decide) (Nat.le_of_ble_eq_true rfl) ?_
  intro p e s m below meth c C hPT hSS ls hl
  obtain ⟨hx, hb, hr, hml, hown, hts, hlocks, hK, hnm⟩ := C
  obtain ⟨hZ, hT⟩ := hPT
  have hS : va_S (RA base) s.heap s.heap [] := va_S.rf
  have hF : Fr τ [2, 7] G G := Fr.rf
  have hl : lv_has ls 1 [(0, .ref a)] := hl
  refine lv_aload_n hx hb dX4_readPlane_0 rfl (lv_at hl 0 rfl) ?_
  refine t_geti cf_2 hx hb hts hown hK hT h_a (k := 10) rfl fl_X4_99 (fun _ h9 => h9) dX4_readPlane_1 (fun z_1 ez_1 rz_1 => ?_)
  have ez_1 : z_1 = G.1 a 10 := ez_1
  refine lv_if_eq (tgt := 12) hx hb dX4_readPlane_4 (by decide) (fun c_2 => ?_) (fun c_2 => ?_)
  · skip
    have tc_2 : z_1.toInt = 0 := (fa_eq _ _).mp c_2
    refine lv_aload_n hx hb dX4_readPlane_12 rfl (lv_at hl 0 rfl) ?_
    refine lv_iconst (v := 1) hx hb dX4_readPlane_13 (by decide) ?_
    refine t_puti (x := 1) cf_2 hx hb hts hown hK hT hS h_a (k := 10) rfl trivial fl_X4_99 (fun _ h9 => h9) rfl rfl rfl dX4_readPlane_14 (fun H locs G_3 eG_3 hT hS => ?_)
    have hF := hF.wI eG_3 h_a rfl
    refine lv_aload_n hx hb dX4_readPlane_17 rfl (lv_at hl 0 rfl) ?_
    refine va_ldcS (tx := "plane") hx hb hown (hSS.2.1 17 (by decide)) dX4_readPlane_18 ?_
    refine t_callv (runVs (As := [.ref (adK 17)]) (rest := []) ⟨hx, hb, hml, hown, hts⟩ (t_X4_takeWord l D cy base τ G_3 adK adV 17 (by decide) a h_a) sV_X4_110 hK hSS hS (t_recv cf_2 hK hT h_a) ⟨Nat.le_trans hZ hS.1, hT⟩ ⟨Nat.le_of_ble_eq_true rfl, Nat.le_of_ble_eq_true rfl⟩ rfl hl.1 rfl (Nat.le_of_ble_eq_true rfl) dX4_readPlane_20 ⟨Nat.le_of_ble_eq_true rfl, Nat.le_of_ble_eq_true rfl⟩) hS (fun G_4 H locs hF_4 hr_4 hT hS => ?_)
    have hF := hF.tr hF_4 rfl
    refine lv_aload_n hx hb dX4_readPlane_23 rfl (lv_at hl 0 rfl) ?_
    refine t_getr cf_2 hx hb hts hown hK hT h_a (k := 8) (P := fun q => τ q = 7) rfl (fun _ h9 => h9) fl_X4_22 (fun _ h9 => h9) dX4_readPlane_24 (fun q_5 eq_5 hq_5 => ?_)
    have eq_5 := (hF.r h_a (by decide) rfl _).symm.trans eq_5
    refine lv_aload_n hx hb dX4_readPlane_27 rfl (lv_at hl 0 rfl) ?_
    refine va_ldcS (tx := "carry") hx hb hown (hSS.2.1 15 (by decide)) dX4_readPlane_28 ?_
    refine lv_iconst (v := 1) hx hb dX4_readPlane_30 (by decide) ?_
    refine lv_bipush (v := 50) hx hb dX4_readPlane_31 (by decide) ?_
    refine t_calli (runVs (As := [.ref (adK 15), .int 1, .int 50]) (rest := [.ref q_5]) ⟨hx, hb, hml, hown, hts⟩ (t_X4_takeNamed l D cy base τ G_4 adK adV 15 (by decide) a h_a (1 : Int32) (50 : Int32)) sV_X4_116 hK hSS hS (t_recv cf_2 hK hT h_a) ⟨Nat.le_trans hZ hS.1, hT⟩ ⟨Nat.le_of_ble_eq_true rfl, Nat.le_of_ble_eq_true rfl⟩ rfl hl.1 rfl (Nat.le_of_ble_eq_true rfl) dX4_readPlane_33 ⟨Nat.le_of_ble_eq_true rfl, Nat.le_of_ble_eq_true rfl⟩) hS (fun r_6 G_6 H locs hF_6 hr_6 hT hS => ?_)
    have hF := hF.tr hF_6 rfl
    have hr_6_p0 := hr_6
    have hr_6_p0 : r_6.toInt = (1 : Int) ∨ ((1 : Int) ≤ r_6.toInt ∧ r_6.toInt ≤ (50 : Int)) := hr_6_p0
    refine t_puti (x := r_6) cf_7 hx hb hts hown hK hT hS hq_5 (k := 11) rfl trivial fl_X4_186 (fun _ h9 => h9) rfl rfl rfl dX4_readPlane_36 (fun H locs G_7 eG_7 hT hS => ?_)
    have hF := hF.wI eG_7 hq_5 rfl
    refine lv_aload_n hx hb dX4_readPlane_39 rfl (lv_at hl 0 rfl) ?_
    refine t_getr cf_2 hx hb hts hown hK hT h_a (k := 8) (P := fun q => τ q = 7) rfl (fun _ h9 => h9) fl_X4_22 (fun _ h9 => h9) dX4_readPlane_40 (fun q_8 eq_8 hq_8 => ?_)
    have w_9 : q_5 = q_8 := Option.some.inj (eq_5.symm.trans ((hF.r h_a (by decide) rfl _).symm.trans eq_8))
    subst w_9
    refine lv_aload_n hx hb dX4_readPlane_43 rfl (lv_at hl 0 rfl) ?_
    refine va_ldcS (tx := "cost") hx hb hown (hSS.2.1 16 (by decide)) dX4_readPlane_44 ?_
    refine lv_iconst (v := 0) hx hb dX4_readPlane_46 (by decide) ?_
    refine lv_sipush (v := 9999) hx hb dX4_readPlane_47 (by decide) ?_
    refine t_calli (runVs (As := [.ref (adK 16), .int 0, .int 9999]) (rest := [.ref q_5]) ⟨hx, hb, hml, hown, hts⟩ (t_X4_takeNamed l D cy base τ G_7 adK adV 16 (by decide) a h_a (0 : Int32) (9999 : Int32)) sV_X4_116 hK hSS hS (t_recv cf_2 hK hT h_a) ⟨Nat.le_trans hZ hS.1, hT⟩ ⟨Nat.le_of_ble_eq_true rfl, Nat.le_of_ble_eq_true rfl⟩ rfl hl.1 rfl (Nat.le_of_ble_eq_true rfl) dX4_readPlane_50 ⟨Nat.le_of_ble_eq_true rfl, Nat.le_of_ble_eq_true rfl⟩) hS (fun r_10 G_10 H locs hF_10 hr_10 hT hS => ?_)
    have hF := hF.tr hF_10 rfl
    have hr_10_p0 := hr_10
    have hr_10_p0 : r_10.toInt = (0 : Int) ∨ ((0 : Int) ≤ r_10.toInt ∧ r_10.toInt ≤ (9999 : Int)) := hr_10_p0
    refine t_puti (x := r_10) cf_7 hx hb hts hown hK hT hS hq_5 (k := 12) rfl trivial fl_X4_189 (fun _ h9 => h9) rfl rfl rfl dX4_readPlane_53 (fun H locs G_11 eG_11 hT hS => ?_)
    have hF := hF.wI eG_11 hq_5 rfl
    exact ret_v hx hb hr hlocks ⟨⟨hS.1, hS.2.1⟩, G_11, hF, ⟨rfl, trivial⟩, hT⟩ hS.2.2 (Nat.le_of_ble_eq_true rfl) (Nat.le_of_ble_eq_true rfl) dX4_readPlane_56
  · skip
    have tc_2 : ¬ z_1.toInt = 0 := fun h => c_2 ((fa_eq _ _).mpr h)
    refine lv_aload_n hx hb dX4_readPlane_7 rfl (lv_at hl 0 rfl) ?_
    refine lv_iconst (v := 2) hx hb dX4_readPlane_8 (by decide) ?_
    obtain ⟨z_12, ez_12⟩ : ∃ y : Int32, y = G.1 a 0 := ⟨_, rfl⟩
    refine t_callv (runV (As := [.int 2]) (rest := []) ⟨hx, hb, hml, hown, hts⟩ (t_X4_refuse l D cy base τ G a h_a 2 (by decide) z_12 ez_12) sV_X4_79 hK (t_recv cf_2 hK hT h_a) ⟨Nat.le_trans hZ hS.1, hT⟩ ⟨Nat.le_of_ble_eq_true rfl, Nat.le_of_ble_eq_true rfl⟩ rfl hl.1 rfl (Nat.le_of_ble_eq_true rfl) dX4_readPlane_9 ⟨Nat.le_of_ble_eq_true rfl, Nat.le_of_ble_eq_true rfl⟩) hS (fun G_13 H locs hF_13 hr_13 hT hS => ?_)
    have hF := hF.tr hF_13 rfl
    have hr_13_p0 := hr_13
    obtain ⟨z_14, ez_14, hr_13_p0⟩ : ∃ z_14 : Int32, z_14 = G_13.1 a 0 ∧ (z_14.toInt ≠ 0) := ⟨_, rfl, hr_13_p0⟩
    refine lv_aload_n hx hb dX4_readPlane_12 rfl (lv_at hl 0 rfl) ?_
    refine lv_iconst (v := 1) hx hb dX4_readPlane_13 (by decide) ?_
    refine t_puti (x := 1) cf_2 hx hb hts hown hK hT hS h_a (k := 10) rfl trivial fl_X4_99 (fun _ h9 => h9) rfl rfl rfl dX4_readPlane_14 (fun H locs G_15 eG_15 hT hS => ?_)
    have hF := hF.wI eG_15 h_a rfl
    refine lv_aload_n hx hb dX4_readPlane_17 rfl (lv_at hl 0 rfl) ?_
    refine va_ldcS (tx := "plane") hx hb hown (hSS.2.1 17 (by decide)) dX4_readPlane_18 ?_
    refine t_callv (runVs (As := [.ref (adK 17)]) (rest := []) ⟨hx, hb, hml, hown, hts⟩ (t_X4_takeWord l D cy base τ G_15 adK adV 17 (by decide) a h_a) sV_X4_110 hK hSS hS (t_recv cf_2 hK hT h_a) ⟨Nat.le_trans hZ hS.1, hT⟩ ⟨Nat.le_of_ble_eq_true rfl, Nat.le_of_ble_eq_true rfl⟩ rfl hl.1 rfl (Nat.le_of_ble_eq_true rfl) dX4_readPlane_20 ⟨Nat.le_of_ble_eq_true rfl, Nat.le_of_ble_eq_true rfl⟩) hS (fun G_16 H locs hF_16 hr_16 hT hS => ?_)
    have hF := hF.tr hF_16 rfl
    refine lv_aload_n hx hb dX4_readPlane_23 rfl (lv_at hl 0 rfl) ?_
    refine t_getr cf_2 hx hb hts hown hK hT h_a (k := 8) (P := fun q => τ q = 7) rfl (fun _ h9 => h9) fl_X4_22 (fun _ h9 => h9) dX4_readPlane_24 (fun q_17 eq_17 hq_17 => ?_)
    have eq_17 := (hF.r h_a (by decide) rfl _).symm.trans eq_17
    refine lv_aload_n hx hb dX4_readPlane_27 rfl (lv_at hl 0 rfl) ?_
    refine va_ldcS (tx := "carry") hx hb hown (hSS.2.1 15 (by decide)) dX4_readPlane_28 ?_
    refine lv_iconst (v := 1) hx hb dX4_readPlane_30 (by decide) ?_
    refine lv_bipush (v := 50) hx hb dX4_readPlane_31 (by decide) ?_
    refine t_calli (runVs (As := [.ref (adK 15), .int 1, .int 50]) (rest := [.ref q_17]) ⟨hx, hb, hml, hown, hts⟩ (t_X4_takeNamed l D cy base τ G_16 adK adV 15 (by decide) a h_a (1 : Int32) (50 : Int32)) sV_X4_116 hK hSS hS (t_recv cf_2 hK hT h_a) ⟨Nat.le_trans hZ hS.1, hT⟩ ⟨Nat.le_of_ble_eq_true rfl, Nat.le_of_ble_eq_true rfl⟩ rfl hl.1 rfl (Nat.le_of_ble_eq_true rfl) dX4_readPlane_33 ⟨Nat.le_of_ble_eq_true rfl, Nat.le_of_ble_eq_true rfl⟩) hS (fun r_18 G_18 H locs hF_18 hr_18 hT hS => ?_)
    have hF := hF.tr hF_18 rfl
    have hr_18_p0 := hr_18
    have hr_18_p0 : r_18.toInt = (1 : Int) ∨ ((1 : Int) ≤ r_18.toInt ∧ r_18.toInt ≤ (50 : Int)) := hr_18_p0
    refine t_puti (x := r_18) cf_7 hx hb hts hown hK hT hS hq_17 (k := 11) rfl trivial fl_X4_186 (fun _ h9 => h9) rfl rfl rfl dX4_readPlane_36 (fun H locs G_19 eG_19 hT hS => ?_)
    have hF := hF.wI eG_19 hq_17 rfl
    refine lv_aload_n hx hb dX4_readPlane_39 rfl (lv_at hl 0 rfl) ?_
    refine t_getr cf_2 hx hb hts hown hK hT h_a (k := 8) (P := fun q => τ q = 7) rfl (fun _ h9 => h9) fl_X4_22 (fun _ h9 => h9) dX4_readPlane_40 (fun q_20 eq_20 hq_20 => ?_)
    have w_21 : q_17 = q_20 := Option.some.inj (eq_17.symm.trans ((hF.r h_a (by decide) rfl _).symm.trans eq_20))
    subst w_21
    refine lv_aload_n hx hb dX4_readPlane_43 rfl (lv_at hl 0 rfl) ?_
    refine va_ldcS (tx := "cost") hx hb hown (hSS.2.1 16 (by decide)) dX4_readPlane_44 ?_
    refine lv_iconst (v := 0) hx hb dX4_readPlane_46 (by decide) ?_
    refine lv_sipush (v := 9999) hx hb dX4_readPlane_47 (by decide) ?_
    refine t_calli (runVs (As := [.ref (adK 16), .int 0, .int 9999]) (rest := [.ref q_17]) ⟨hx, hb, hml, hown, hts⟩ (t_X4_takeNamed l D cy base τ G_19 adK adV 16 (by decide) a h_a (0 : Int32) (9999 : Int32)) sV_X4_116 hK hSS hS (t_recv cf_2 hK hT h_a) ⟨Nat.le_trans hZ hS.1, hT⟩ ⟨Nat.le_of_ble_eq_true rfl, Nat.le_of_ble_eq_true rfl⟩ rfl hl.1 rfl (Nat.le_of_ble_eq_true rfl) dX4_readPlane_50 ⟨Nat.le_of_ble_eq_true rfl, Nat.le_of_ble_eq_true rfl⟩) hS (fun r_22 G_22 H locs hF_22 hr_22 hT hS => ?_)
    have hF := hF.tr hF_22 rfl
    have hr_22_p0 := hr_22
    have hr_22_p0 : r_22.toInt = (0 : Int) ∨ ((0 : Int) ≤ r_22.toInt ∧ r_22.toInt ≤ (9999 : Int)) := hr_22_p0
    refine t_puti (x := r_22) cf_7 hx hb hts hown hK hT hS hq_17 (k := 12) rfl trivial fl_X4_189 (fun _ h9 => h9) rfl rfl rfl dX4_readPlane_53 (fun H locs G_23 eG_23 hT hS => ?_)
    have hF := hF.wI eG_23 hq_17 rfl
    exact ret_v hx hb hr hlocks ⟨⟨hS.1, hS.2.1⟩, G_23, hF, ⟨rfl, trivial⟩, hT⟩ hS.2.2 (Nat.le_of_ble_eq_true rfl) (Nat.le_of_ble_eq_true rfl) dX4_readPlane_56
set_option maxHeartbeats 4000000 in
set_option maxRecDepth 100000 in
theorem t_X4_readMule (l : Launch) (D : va_G) (cy : Nat → ClassId) (base : Nat) (τ : Nat → Nat) (G : Gh) (adK adV : Nat → Nat)  (a : Nat) (h_a : τ a = 2) : MS l yX4_readMule cX4_readMule 1 none 7 0 0 D cy adK adV base [.ref a] (PT D cy base τ G) (QT D cy base τ G [2, 7] (fun v g => v = none ∧ (True))) (RA base) := by
  refine MS.of (by decide) (Nat.le_of_ble_eq_true rfl) ?_
  intro p e s m below meth c C hPT hSS ls hl
  obtain ⟨hx, hb, hr, hml, hown, hts, hlocks, hK, hnm⟩ := C
  obtain ⟨hZ, hT⟩ := hPT
  have hS : va_S (RA base) s.heap s.heap [] := va_S.rf
  have hF : Fr τ [2, 7] G G := Fr.rf
  have hl : lv_has ls 1 [(0, .ref a)] := hl
  refine lv_aload_n hx hb dX4_readMule_0 rfl (lv_at hl 0 rfl) ?_
  refine t_geti cf_2 hx hb hts hown hK hT h_a (k := 11) rfl fl_X4_102 (fun _ h9 => h9) dX4_readMule_1 (fun z_1 ez_1 rz_1 => ?_)
  have ez_1 : z_1 = G.1 a 11 := ez_1
  refine lv_if_eq (tgt := 12) hx hb dX4_readMule_4 (by decide) (fun c_2 => ?_) (fun c_2 => ?_)
  · skip
    have tc_2 : z_1.toInt = 0 := (fa_eq _ _).mp c_2
    refine lv_aload_n hx hb dX4_readMule_12 rfl (lv_at hl 0 rfl) ?_
    refine lv_iconst (v := 1) hx hb dX4_readMule_13 (by decide) ?_
    refine t_puti (x := 1) cf_2 hx hb hts hown hK hT hS h_a (k := 11) rfl trivial fl_X4_102 (fun _ h9 => h9) rfl rfl rfl dX4_readMule_14 (fun H locs G_3 eG_3 hT hS => ?_)
    have hF := hF.wI eG_3 h_a rfl
    refine lv_aload_n hx hb dX4_readMule_17 rfl (lv_at hl 0 rfl) ?_
    refine t_getr cf_2 hx hb hts hown hK hT h_a (k := 8) (P := fun q => τ q = 7) rfl (fun _ h9 => h9) fl_X4_22 (fun _ h9 => h9) dX4_readMule_18 (fun q_4 eq_4 hq_4 => ?_)
    have eq_4 := (hF.r h_a (by decide) rfl _).symm.trans eq_4
    refine lv_aload_n hx hb dX4_readMule_21 rfl (lv_at hl 0 rfl) ?_
    refine va_ldcS (tx := "mule") hx hb hown (hSS.2.1 18 (by decide)) dX4_readMule_22 ?_
    refine lv_iconst (v := 0) hx hb dX4_readMule_24 (by decide) ?_
    refine lv_bipush (v := 99) hx hb dX4_readMule_25 (by decide) ?_
    refine t_calli (runVs (As := [.ref (adK 18), .int 0, .int 99]) (rest := [.ref q_4]) ⟨hx, hb, hml, hown, hts⟩ (t_X4_takeNamed l D cy base τ G_3 adK adV 18 (by decide) a h_a (0 : Int32) (99 : Int32)) sV_X4_116 hK hSS hS (t_recv cf_2 hK hT h_a) ⟨Nat.le_trans hZ hS.1, hT⟩ ⟨Nat.le_of_ble_eq_true rfl, Nat.le_of_ble_eq_true rfl⟩ rfl hl.1 rfl (Nat.le_of_ble_eq_true rfl) dX4_readMule_27 ⟨Nat.le_of_ble_eq_true rfl, Nat.le_of_ble_eq_true rfl⟩) hS (fun r_5 G_5 H locs hF_5 hr_5 hT hS => ?_)
    have hF := hF.tr hF_5 rfl
    have hr_5_p0 := hr_5
    have hr_5_p0 : r_5.toInt = (0 : Int) ∨ ((0 : Int) ≤ r_5.toInt ∧ r_5.toInt ≤ (99 : Int)) := hr_5_p0
    refine t_puti (x := r_5) cf_7 hx hb hts hown hK hT hS hq_4 (k := 13) rfl trivial fl_X4_192 (fun _ h9 => h9) rfl rfl rfl dX4_readMule_30 (fun H locs G_6 eG_6 hT hS => ?_)
    have hF := hF.wI eG_6 hq_4 rfl
    exact ret_v hx hb hr hlocks ⟨⟨hS.1, hS.2.1⟩, G_6, hF, ⟨rfl, trivial⟩, hT⟩ hS.2.2 (Nat.le_of_ble_eq_true rfl) (Nat.le_of_ble_eq_true rfl) dX4_readMule_33
  · skip
    have tc_2 : ¬ z_1.toInt = 0 := fun h => c_2 ((fa_eq _ _).mpr h)
    refine lv_aload_n hx hb dX4_readMule_7 rfl (lv_at hl 0 rfl) ?_
    refine lv_iconst (v := 2) hx hb dX4_readMule_8 (by decide) ?_
    obtain ⟨z_7, ez_7⟩ : ∃ y : Int32, y = G.1 a 0 := ⟨_, rfl⟩
    refine t_callv (runV (As := [.int 2]) (rest := []) ⟨hx, hb, hml, hown, hts⟩ (t_X4_refuse l D cy base τ G a h_a 2 (by decide) z_7 ez_7) sV_X4_79 hK (t_recv cf_2 hK hT h_a) ⟨Nat.le_trans hZ hS.1, hT⟩ ⟨Nat.le_of_ble_eq_true rfl, Nat.le_of_ble_eq_true rfl⟩ rfl hl.1 rfl (Nat.le_of_ble_eq_true rfl) dX4_readMule_9 ⟨Nat.le_of_ble_eq_true rfl, Nat.le_of_ble_eq_true rfl⟩) hS (fun G_8 H locs hF_8 hr_8 hT hS => ?_)
    have hF := hF.tr hF_8 rfl
    have hr_8_p0 := hr_8
    obtain ⟨z_9, ez_9, hr_8_p0⟩ : ∃ z_9 : Int32, z_9 = G_8.1 a 0 ∧ (z_9.toInt ≠ 0) := ⟨_, rfl, hr_8_p0⟩
    refine lv_aload_n hx hb dX4_readMule_12 rfl (lv_at hl 0 rfl) ?_
    refine lv_iconst (v := 1) hx hb dX4_readMule_13 (by decide) ?_
    refine t_puti (x := 1) cf_2 hx hb hts hown hK hT hS h_a (k := 11) rfl trivial fl_X4_102 (fun _ h9 => h9) rfl rfl rfl dX4_readMule_14 (fun H locs G_10 eG_10 hT hS => ?_)
    have hF := hF.wI eG_10 h_a rfl
    refine lv_aload_n hx hb dX4_readMule_17 rfl (lv_at hl 0 rfl) ?_
    refine t_getr cf_2 hx hb hts hown hK hT h_a (k := 8) (P := fun q => τ q = 7) rfl (fun _ h9 => h9) fl_X4_22 (fun _ h9 => h9) dX4_readMule_18 (fun q_11 eq_11 hq_11 => ?_)
    have eq_11 := (hF.r h_a (by decide) rfl _).symm.trans eq_11
    refine lv_aload_n hx hb dX4_readMule_21 rfl (lv_at hl 0 rfl) ?_
    refine va_ldcS (tx := "mule") hx hb hown (hSS.2.1 18 (by decide)) dX4_readMule_22 ?_
    refine lv_iconst (v := 0) hx hb dX4_readMule_24 (by decide) ?_
    refine lv_bipush (v := 99) hx hb dX4_readMule_25 (by decide) ?_
    refine t_calli (runVs (As := [.ref (adK 18), .int 0, .int 99]) (rest := [.ref q_11]) ⟨hx, hb, hml, hown, hts⟩ (t_X4_takeNamed l D cy base τ G_10 adK adV 18 (by decide) a h_a (0 : Int32) (99 : Int32)) sV_X4_116 hK hSS hS (t_recv cf_2 hK hT h_a) ⟨Nat.le_trans hZ hS.1, hT⟩ ⟨Nat.le_of_ble_eq_true rfl, Nat.le_of_ble_eq_true rfl⟩ rfl hl.1 rfl (Nat.le_of_ble_eq_true rfl) dX4_readMule_27 ⟨Nat.le_of_ble_eq_true rfl, Nat.le_of_ble_eq_true rfl⟩) hS (fun r_12 G_12 H locs hF_12 hr_12 hT hS => ?_)
    have hF := hF.tr hF_12 rfl
    have hr_12_p0 := hr_12
    have hr_12_p0 : r_12.toInt = (0 : Int) ∨ ((0 : Int) ≤ r_12.toInt ∧ r_12.toInt ≤ (99 : Int)) := hr_12_p0
    refine t_puti (x := r_12) cf_7 hx hb hts hown hK hT hS hq_11 (k := 13) rfl trivial fl_X4_192 (fun _ h9 => h9) rfl rfl rfl dX4_readMule_30 (fun H locs G_13 eG_13 hT hS => ?_)
    have hF := hF.wI eG_13 hq_11 rfl
    exact ret_v hx hb hr hlocks ⟨⟨hS.1, hS.2.1⟩, G_13, hF, ⟨rfl, trivial⟩, hT⟩ hS.2.2 (Nat.le_of_ble_eq_true rfl) (Nat.le_of_ble_eq_true rfl) dX4_readMule_33
set_option maxHeartbeats 4000000 in
set_option maxRecDepth 100000 in
theorem t_X4_readPath (l : Launch) (D : va_G) (cy : Nat → ClassId) (base : Nat) (τ : Nat → Nat) (G : Gh) (adK adV : Nat → Nat)  (a : Nat) (h_a : τ a = 2) : MS l yX4_readPath cX4_readPath 4 none 7 0 0 D cy adK adV base [.ref a] (PT D cy base τ G) (QT D cy base τ G [2, 7, 29] (fun v g => v = none ∧ (True))) (RA base) := by
  refine MS.of (by decide) (Nat.le_of_ble_eq_true rfl) ?_
  intro p e s m below meth c C hPT hSS ls hl
  obtain ⟨hx, hb, hr, hml, hown, hts, hlocks, hK, hnm⟩ := C
  obtain ⟨hZ, hT⟩ := hPT
  have hS : va_S (RA base) s.heap s.heap [] := va_S.rf
  have hF : Fr τ [2, 7, 29] G G := Fr.rf
  have hl : lv_has ls 4 [(0, .ref a)] := hl
  refine lv_aload_n hx hb dX4_readPath_0 rfl (lv_at hl 0 rfl) ?_
  refine t_getr cf_2 hx hb hts hown hK hT h_a (k := 8) (P := fun q => τ q = 7) rfl (fun _ h9 => h9) fl_X4_22 (fun _ h9 => h9) dX4_readPath_1 (fun q_1 eq_1 hq_1 => ?_)
  refine t_geti cf_7 hx hb hts hown hK hT hq_1 (k := 7) rfl fl_X4_194 (fun _ h9 => h9) dX4_readPath_4 (fun z_2 ez_2 rz_2 => ?_)
  have ez_2 : z_2 = G.1 q_1 7 := ez_2
  refine lv_bipush (v := 8) hx hb dX4_readPath_7 (by decide) ?_
  refine lv_icmp_lt (tgt := 17) hx hb dX4_readPath_9 (by decide) (fun c_3 => ?_) (fun c_3 => ?_)
  · skip
    have tc_3 : z_2.toInt < 8 := (fa_lt _ _).mp c_3
    refine lv_aload_n hx hb dX4_readPath_17 rfl (lv_at hl 0 rfl) ?_
    refine va_ldcS (tx := "path") hx hb hown (hSS.2.1 19 (by decide)) dX4_readPath_18 ?_
    refine t_callv (runVs (As := [.ref (adK 19)]) (rest := []) ⟨hx, hb, hml, hown, hts⟩ (t_X4_takeWord l D cy base τ G adK adV 19 (by decide) a h_a) sV_X4_110 hK hSS hS (t_recv cf_2 hK hT h_a) ⟨Nat.le_trans hZ hS.1, hT⟩ ⟨Nat.le_of_ble_eq_true rfl, Nat.le_of_ble_eq_true rfl⟩ rfl hl.1 rfl (Nat.le_of_ble_eq_true rfl) dX4_readPath_20 ⟨Nat.le_of_ble_eq_true rfl, Nat.le_of_ble_eq_true rfl⟩) hS (fun G_4 H locs hF_4 hr_4 hT hS => ?_)
    have hF := hF.tr hF_4 rfl
    refine lv_aload_n hx hb dX4_readPath_23 rfl (lv_at hl 0 rfl) ?_
    refine lv_iconst (v := 0) hx hb dX4_readPath_24 (by decide) ?_
    refine lv_aload_n hx hb dX4_readPath_25 rfl (lv_at hl 0 rfl) ?_
    refine t_getr cf_2 hx hb hts hown hK hT h_a (k := 8) (P := fun q => τ q = 7) rfl (fun _ h9 => h9) fl_X4_22 (fun _ h9 => h9) dX4_readPath_26 (fun q_5 eq_5 hq_5 => ?_)
    have w_6 : q_1 = q_5 := Option.some.inj (eq_1.symm.trans ((hF.r h_a (by decide) rfl _).symm.trans eq_5))
    subst w_6
    refine t_geti cf_7 hx hb hts hown hK hT hq_1 (k := 6) rfl fl_X4_151 (fun _ h9 => h9) dX4_readPath_29 (fun z_7 ez_7 rz_7 => ?_)
    have ez_7 : z_7 = G_4.1 q_1 6 := ez_7
    have rz_7 : 0 ≤ z_7.toInt ∧ z_7.toInt ≤ 6 := rz_7
    refine lv_iconst (v := 1) hx hb dX4_readPath_32 (by decide) ?_
    refine lv_isub hx hb dX4_readPath_33 ?_
    refine lv_topi (fun z_8 ez_8 => ?_)
    have tz_8 : z_8.toInt = z_7.toInt - 1 := sub_t ez_8 (show -2147483648 ≤ z_7.toInt - 1 by omega) (show z_7.toInt - 1 < 2147483648 by omega)
    refine t_calli (runV (As := [.int 0, .int z_8]) (rest := []) ⟨hx, hb, hml, hown, hts⟩ (t_X4_takeNumber l D cy base τ G_4 a h_a 0 z_8) sV_X4_168 hK (t_recv cf_2 hK hT h_a) ⟨Nat.le_trans hZ hS.1, hT⟩ ⟨Nat.le_of_ble_eq_true rfl, Nat.le_of_ble_eq_true rfl⟩ rfl hl.1 rfl (Nat.le_of_ble_eq_true rfl) dX4_readPath_34 ⟨Nat.le_of_ble_eq_true rfl, Nat.le_of_ble_eq_true rfl⟩) hS (fun r_9 G_9 H locs hF_9 hr_9 hT hS => ?_)
    have hF := hF.tr hF_9 rfl
    have hr_9_p0 := hr_9
    have hr_9_p0 : r_9.toInt = (0 : Int) ∨ ((0 : Int) ≤ r_9.toInt ∧ r_9.toInt ≤ z_8.toInt) := hr_9_p0
    refine lv_istore_n (lv' := [(1, .int r_9), (0, .ref a)]) hx hb dX4_readPath_37 rfl hl (by decide) rfl (fun ls hl => ?_)
    refine lv_aload_n hx hb dX4_readPath_38 rfl (lv_at hl 1 rfl) ?_
    refine t_geti cf_2 hx hb hts hown hK hT h_a (k := 4) rfl fl_X4_33 (fun _ h9 => h9) dX4_readPath_39 (fun z_10 ez_10 rz_10 => ?_)
    have ez_10 : z_10 = G_9.1 a 4 := ez_10
    refine lv_iconst (v := 2) hx hb dX4_readPath_42 (by decide) ?_
    refine lv_icmp_ne (tgt := 74) hx hb dX4_readPath_43 (by decide) (fun c_11 => ?_) (fun c_11 => ?_)
    · skip
      have tc_11 : ¬ z_10.toInt = 2 := fun h => c_11 ((fa_eq _ _).mpr h)
      refine lv_aload_n hx hb dX4_readPath_74 rfl (lv_at hl 1 rfl) ?_
      refine lv_iconst (v := 0) hx hb dX4_readPath_75 (by decide) ?_
      refine lv_aload_n hx hb dX4_readPath_76 rfl (lv_at hl 1 rfl) ?_
      refine t_getr cf_2 hx hb hts hown hK hT h_a (k := 8) (P := fun q => τ q = 7) rfl (fun _ h9 => h9) fl_X4_22 (fun _ h9 => h9) dX4_readPath_77 (fun q_12 eq_12 hq_12 => ?_)
      have w_13 : q_1 = q_12 := Option.some.inj (eq_1.symm.trans ((hF.r h_a (by decide) rfl _).symm.trans eq_12))
      subst w_13
      refine t_geti cf_7 hx hb hts hown hK hT hq_1 (k := 6) rfl fl_X4_151 (fun _ h9 => h9) dX4_readPath_80 (fun z_14 ez_14 rz_14 => ?_)
      have ez_14 : z_14 = G_9.1 q_1 6 := ez_14
      have rz_14 : 0 ≤ z_14.toInt ∧ z_14.toInt ≤ 6 := rz_14
      refine lv_iconst (v := 1) hx hb dX4_readPath_83 (by decide) ?_
      refine lv_isub hx hb dX4_readPath_84 ?_
      refine lv_topi (fun z_15 ez_15 => ?_)
      have tz_15 : z_15.toInt = z_14.toInt - 1 := sub_t ez_15 (show -2147483648 ≤ z_14.toInt - 1 by omega) (show z_14.toInt - 1 < 2147483648 by omega)
      refine t_calli (runV (As := [.int 0, .int z_15]) (rest := []) ⟨hx, hb, hml, hown, hts⟩ (t_X4_takeNumber l D cy base τ G_9 a h_a 0 z_15) sV_X4_168 hK (t_recv cf_2 hK hT h_a) ⟨Nat.le_trans hZ hS.1, hT⟩ ⟨Nat.le_of_ble_eq_true rfl, Nat.le_of_ble_eq_true rfl⟩ rfl hl.1 rfl (Nat.le_of_ble_eq_true rfl) dX4_readPath_85 ⟨Nat.le_of_ble_eq_true rfl, Nat.le_of_ble_eq_true rfl⟩) hS (fun r_16 G_16 H locs hF_16 hr_16 hT hS => ?_)
      have hF := hF.tr hF_16 rfl
      have hr_16_p0 := hr_16
      have hr_16_p0 : r_16.toInt = (0 : Int) ∨ ((0 : Int) ≤ r_16.toInt ∧ r_16.toInt ≤ z_15.toInt) := hr_16_p0
      refine lv_istore_n (lv' := [(2, .int r_16), (1, .int r_9), (0, .ref a)]) hx hb dX4_readPath_88 rfl hl (by decide) rfl (fun ls hl => ?_)
      refine lv_aload_n hx hb dX4_readPath_89 rfl (lv_at hl 2 rfl) ?_
      refine va_ldcS (tx := "days") hx hb hown (hSS.2.1 1 (by decide)) dX4_readPath_90 ?_
      refine lv_iconst (v := 1) hx hb dX4_readPath_92 (by decide) ?_
      refine lv_bipush (v := 30) hx hb dX4_readPath_93 (by decide) ?_
      refine t_calli (runVs (As := [.ref (adK 1), .int 1, .int 30]) (rest := []) ⟨hx, hb, hml, hown, hts⟩ (t_X4_takeNamed l D cy base τ G_16 adK adV 1 (by decide) a h_a (1 : Int32) (30 : Int32)) sV_X4_116 hK hSS hS (t_recv cf_2 hK hT h_a) ⟨Nat.le_trans hZ hS.1, hT⟩ ⟨Nat.le_of_ble_eq_true rfl, Nat.le_of_ble_eq_true rfl⟩ rfl hl.1 rfl (Nat.le_of_ble_eq_true rfl) dX4_readPath_95 ⟨Nat.le_of_ble_eq_true rfl, Nat.le_of_ble_eq_true rfl⟩) hS (fun r_17 G_17 H locs hF_17 hr_17 hT hS => ?_)
      have hF := hF.tr hF_17 rfl
      have hr_17_p0 := hr_17
      have hr_17_p0 : r_17.toInt = (1 : Int) ∨ ((1 : Int) ≤ r_17.toInt ∧ r_17.toInt ≤ (30 : Int)) := hr_17_p0
      refine lv_istore_n (lv' := [(3, .int r_17), (2, .int r_16), (1, .int r_9), (0, .ref a)]) hx hb dX4_readPath_98 rfl hl (by decide) rfl (fun ls hl => ?_)
      refine lv_aload_n hx hb dX4_readPath_99 rfl (lv_at hl 3 rfl) ?_
      refine t_geti cf_2 hx hb hts hown hK hT h_a (k := 0) rfl fl_X4_36 (fun _ h9 => h9) dX4_readPath_100 (fun z_18 ez_18 rz_18 => ?_)
      have ez_18 : z_18 = G_17.1 a 0 := ez_18
      refine lv_if_ne (tgt := 161) hx hb dX4_readPath_103 (by decide) (fun c_19 => ?_) (fun c_19 => ?_)
      · skip
        have tc_19 : ¬ z_18.toInt = 0 := fun h => c_19 ((fa_eq _ _).mpr h)
        exact ret_v hx hb hr hlocks ⟨⟨hS.1, hS.2.1⟩, G_17, hF, ⟨rfl, trivial⟩, hT⟩ hS.2.2 (Nat.le_of_ble_eq_true rfl) (Nat.le_of_ble_eq_true rfl) dX4_readPath_161
      · skip
        have tc_19 : z_18.toInt = 0 := (fa_eq _ _).mp c_19
        refine lv_aload_n hx hb dX4_readPath_106 rfl (lv_at hl 3 rfl) ?_
        refine t_getr cf_2 hx hb hts hown hK hT h_a (k := 8) (P := fun q => τ q = 7) rfl (fun _ h9 => h9) fl_X4_22 (fun _ h9 => h9) dX4_readPath_107 (fun q_20 eq_20 hq_20 => ?_)
        have w_21 : q_1 = q_20 := Option.some.inj (eq_1.symm.trans ((hF.r h_a (by decide) rfl _).symm.trans eq_20))
        subst w_21
        refine lv_iload_n hx hb dX4_readPath_110 rfl (lv_at hl 2 rfl) ?_
        refine lv_iload_n hx hb dX4_readPath_111 rfl (lv_at hl 1 rfl) ?_
        refine pu_calli (runV (As := [.int r_9, .int r_16]) (rest := []) ⟨hx, hb, hml, hown, hts⟩ (t_X2_hasTwo l D cy base τ G_17 q_1 hq_1 r_9 r_16) sV_X4_203 hK (t_recv cf_7 hK hT hq_1) ⟨Nat.le_trans hZ hS.1, hT⟩ ⟨Nat.le_of_ble_eq_true rfl, Nat.le_of_ble_eq_true rfl⟩ rfl hl.1 rfl (Nat.le_of_ble_eq_true rfl) dX4_readPath_112 ⟨Nat.le_of_ble_eq_true rfl, Nat.le_of_ble_eq_true rfl⟩) (fun r_22 hr_22 => ?_)
        have hr_22_c := hr_22
        rcases hr_22_c with hr_22_0 | hr_22_1
        · skip
          obtain ⟨er_22, hr_22_0_f0, hr_22_0_f1, hr_22_0_f2, hr_22_0_f3⟩ := hr_22_0
          have hr_22_0_f0 : 0 ≤ r_9.toInt := hr_22_0_f0
          have hr_22_0_f1 : r_9.toInt ≤ 5 := hr_22_0_f1
          have hr_22_0_f2 : 0 ≤ r_16.toInt := hr_22_0_f2
          have hr_22_0_f3 : r_16.toInt ≤ 5 := hr_22_0_f3
          subst er_22
          refine W.eq (g2 := F0 m 115 ls [.int 1]) rfl ?_
          refine lv_if_eq (tgt := 161) hx hb dX4_readPath_115 (by decide) (fun c_23 => absurd c_23 (by decide)) (fun _ => ?_)
          refine lv_aload_n hx hb dX4_readPath_118 rfl (lv_at hl 3 rfl) ?_
          refine t_getr cf_2 hx hb hts hown hK hT h_a (k := 8) (P := fun q => τ q = 7) rfl (fun _ h9 => h9) fl_X4_22 (fun _ h9 => h9) dX4_readPath_119 (fun q_24 eq_24 hq_24 => ?_)
          have w_25 : q_1 = q_24 := Option.some.inj (eq_1.symm.trans ((hF.r h_a (by decide) rfl _).symm.trans eq_24))
          subst w_25
          refine t_getr cf_7 hx hb hts hown hK hT hq_1 (k := 20) (P := fun q => τ q = 29) rfl (fun _ h9 => h9) fl_X4_207 (fun _ h9 => h9) dX4_readPath_122 (fun q_26 eq_26 hq_26 => ?_)
          have eq_26 := (hF.r hq_1 (by decide) rfl _).symm.trans eq_26
          refine lv_iload_n hx hb dX4_readPath_125 rfl (lv_at hl 2 rfl) ?_
          refine lv_bipush (v := 6) hx hb dX4_readPath_126 (by decide) ?_
          refine lv_imul hx hb dX4_readPath_128 ?_
          refine lv_topi (fun z_27 ez_27 => ?_)
          have tz_27 : z_27.toInt = r_9.toInt * 6 := mul_t ez_27 (show -2147483648 ≤ r_9.toInt * 6 by omega) (show r_9.toInt * 6 < 2147483648 by omega)
          refine lv_iload_n hx hb dX4_readPath_129 rfl (lv_at hl 1 rfl) ?_
          refine lv_iadd hx hb dX4_readPath_130 ?_
          refine lv_topi (fun z_28 ez_28 => ?_)
          have tz_28 : z_28.toInt = z_27.toInt + r_16.toInt := add_t ez_28 (show -2147483648 ≤ z_27.toInt + r_16.toInt by omega) (show z_27.toInt + r_16.toInt < 2147483648 by omega)
          refine lv_iload_n hx hb dX4_readPath_131 rfl (lv_at hl 0 rfl) ?_
          refine t_iast (n := 36) (i := z_28) (x := r_17) rfl (by decide) hx hb hK hT hS hq_26 (hT.len hq_26 (by decide)) ⟨by omega, by omega⟩ trivial dX4_readPath_132 (fun H locs G_29 eG_29 hT hS => ?_)
          have hF := hF.wI eG_29 hq_26 rfl
          refine lv_aload_n hx hb dX4_readPath_133 rfl (lv_at hl 3 rfl) ?_
          refine t_getr cf_2 hx hb hts hown hK hT h_a (k := 8) (P := fun q => τ q = 7) rfl (fun _ h9 => h9) fl_X4_22 (fun _ h9 => h9) dX4_readPath_134 (fun q_30 eq_30 hq_30 => ?_)
          have w_31 : q_1 = q_30 := Option.some.inj (eq_1.symm.trans ((hF.r h_a (by decide) rfl _).symm.trans eq_30))
          subst w_31
          refine t_getr cf_7 hx hb hts hown hK hT hq_1 (k := 20) (P := fun q => τ q = 29) rfl (fun _ h9 => h9) fl_X4_207 (fun _ h9 => h9) dX4_readPath_137 (fun q_32 eq_32 hq_32 => ?_)
          have w_33 : q_26 = q_32 := Option.some.inj (eq_26.symm.trans ((hF.r hq_1 (by decide) rfl _).symm.trans eq_32))
          subst w_33
          refine lv_iload_n hx hb dX4_readPath_140 rfl (lv_at hl 1 rfl) ?_
          refine lv_bipush (v := 6) hx hb dX4_readPath_141 (by decide) ?_
          refine lv_imul hx hb dX4_readPath_143 ?_
          refine lv_topi (fun z_34 ez_34 => ?_)
          have tz_34 : z_34.toInt = r_16.toInt * 6 := mul_t ez_34 (show -2147483648 ≤ r_16.toInt * 6 by omega) (show r_16.toInt * 6 < 2147483648 by omega)
          refine lv_iload_n hx hb dX4_readPath_144 rfl (lv_at hl 2 rfl) ?_
          refine lv_iadd hx hb dX4_readPath_145 ?_
          refine lv_topi (fun z_35 ez_35 => ?_)
          have tz_35 : z_35.toInt = z_34.toInt + r_9.toInt := add_t ez_35 (show -2147483648 ≤ z_34.toInt + r_9.toInt by omega) (show z_34.toInt + r_9.toInt < 2147483648 by omega)
          refine lv_iload_n hx hb dX4_readPath_146 rfl (lv_at hl 0 rfl) ?_
          refine t_iast (n := 36) (i := z_35) (x := r_17) rfl (by decide) hx hb hK hT hS hq_26 (hT.len hq_26 (by decide)) ⟨by omega, by omega⟩ trivial dX4_readPath_147 (fun H locs G_36 eG_36 hT hS => ?_)
          have hF := hF.wI eG_36 hq_26 rfl
          refine lv_aload_n hx hb dX4_readPath_148 rfl (lv_at hl 3 rfl) ?_
          refine t_getr cf_2 hx hb hts hown hK hT h_a (k := 8) (P := fun q => τ q = 7) rfl (fun _ h9 => h9) fl_X4_22 (fun _ h9 => h9) dX4_readPath_149 (fun q_37 eq_37 hq_37 => ?_)
          have w_38 : q_1 = q_37 := Option.some.inj (eq_1.symm.trans ((hF.r h_a (by decide) rfl _).symm.trans eq_37))
          subst w_38
          refine lv_dup hx hb dX4_readPath_152 rfl ?_
          refine t_geti cf_7 hx hb hts hown hK hT hq_1 (k := 7) rfl fl_X4_194 (fun _ h9 => h9) dX4_readPath_153 (fun z_39 ez_39 rz_39 => ?_)
          have ez_39 : z_39 = G_36.1 q_1 7 := ez_39
          refine lv_iconst (v := 1) hx hb dX4_readPath_156 (by decide) ?_
          refine lv_iadd hx hb dX4_readPath_157 ?_
          refine lv_topi (fun z_40 ez_40 => ?_)
          refine t_puti (x := z_40) cf_7 hx hb hts hown hK hT hS hq_1 (k := 7) rfl trivial fl_X4_194 (fun _ h9 => h9) rfl rfl rfl dX4_readPath_158 (fun H locs G_41 eG_41 hT hS => ?_)
          have hF := hF.wI eG_41 hq_1 rfl
          exact ret_v hx hb hr hlocks ⟨⟨hS.1, hS.2.1⟩, G_41, hF, ⟨rfl, trivial⟩, hT⟩ hS.2.2 (Nat.le_of_ble_eq_true rfl) (Nat.le_of_ble_eq_true rfl) dX4_readPath_161
        · skip
          have er_22 := hr_22_1
          subst er_22
          refine W.eq (g2 := F0 m 115 ls [.int 0]) rfl ?_
          refine lv_if_eq (tgt := 161) hx hb dX4_readPath_115 (by decide) (fun _ => ?_) (fun c_42 => absurd (by decide) c_42)
          exact ret_v hx hb hr hlocks ⟨⟨hS.1, hS.2.1⟩, G_17, hF, ⟨rfl, trivial⟩, hT⟩ hS.2.2 (Nat.le_of_ble_eq_true rfl) (Nat.le_of_ble_eq_true rfl) dX4_readPath_161
    · skip
      have tc_11 : z_10.toInt = 2 := (fa_eq _ _).mp c_11
      refine lv_aload_n hx hb dX4_readPath_46 rfl (lv_at hl 1 rfl) ?_
      refine t_geti cf_2 hx hb hts hown hK hT h_a (k := 7) rfl fl_X4_197 (fun _ h9 => h9) dX4_readPath_47 (fun z_43 ez_43 rz_43 => ?_)
      have ez_43 : z_43 = G_9.1 a 7 := ez_43
      refine lv_iload_n hx hb dX4_readPath_50 rfl (lv_at hl 0 rfl) ?_
      refine lv_icmp_eq (tgt := 69) hx hb dX4_readPath_51 (by decide) (fun c_44 => ?_) (fun c_44 => ?_)
      · skip
        have tc_44 : z_43.toInt = r_9.toInt := (fa_eq _ _).mp c_44
        refine lv_aload_n hx hb dX4_readPath_69 rfl (lv_at hl 1 rfl) ?_
        refine lv_iconst (v := 2) hx hb dX4_readPath_70 (by decide) ?_
        obtain ⟨z_45, ez_45⟩ : ∃ y : Int32, y = G_9.1 a 0 := ⟨_, rfl⟩
        refine t_callv (runV (As := [.int 2]) (rest := []) ⟨hx, hb, hml, hown, hts⟩ (t_X4_refuse l D cy base τ G_9 a h_a 2 (by decide) z_45 ez_45) sV_X4_79 hK (t_recv cf_2 hK hT h_a) ⟨Nat.le_trans hZ hS.1, hT⟩ ⟨Nat.le_of_ble_eq_true rfl, Nat.le_of_ble_eq_true rfl⟩ rfl hl.1 rfl (Nat.le_of_ble_eq_true rfl) dX4_readPath_71 ⟨Nat.le_of_ble_eq_true rfl, Nat.le_of_ble_eq_true rfl⟩) hS (fun G_46 H locs hF_46 hr_46 hT hS => ?_)
        have hF := hF.tr hF_46 rfl
        have hr_46_p0 := hr_46
        obtain ⟨z_47, ez_47, hr_46_p0⟩ : ∃ z_47 : Int32, z_47 = G_46.1 a 0 ∧ (z_47.toInt ≠ 0) := ⟨_, rfl, hr_46_p0⟩
        refine lv_aload_n hx hb dX4_readPath_74 rfl (lv_at hl 1 rfl) ?_
        refine lv_iconst (v := 0) hx hb dX4_readPath_75 (by decide) ?_
        refine lv_aload_n hx hb dX4_readPath_76 rfl (lv_at hl 1 rfl) ?_
        refine t_getr cf_2 hx hb hts hown hK hT h_a (k := 8) (P := fun q => τ q = 7) rfl (fun _ h9 => h9) fl_X4_22 (fun _ h9 => h9) dX4_readPath_77 (fun q_48 eq_48 hq_48 => ?_)
        have w_49 : q_1 = q_48 := Option.some.inj (eq_1.symm.trans ((hF.r h_a (by decide) rfl _).symm.trans eq_48))
        subst w_49
        refine t_geti cf_7 hx hb hts hown hK hT hq_1 (k := 6) rfl fl_X4_151 (fun _ h9 => h9) dX4_readPath_80 (fun z_50 ez_50 rz_50 => ?_)
        have ez_50 : z_50 = G_46.1 q_1 6 := ez_50
        have rz_50 : 0 ≤ z_50.toInt ∧ z_50.toInt ≤ 6 := rz_50
        refine lv_iconst (v := 1) hx hb dX4_readPath_83 (by decide) ?_
        refine lv_isub hx hb dX4_readPath_84 ?_
        refine lv_topi (fun z_51 ez_51 => ?_)
        have tz_51 : z_51.toInt = z_50.toInt - 1 := sub_t ez_51 (show -2147483648 ≤ z_50.toInt - 1 by omega) (show z_50.toInt - 1 < 2147483648 by omega)
        refine t_calli (runV (As := [.int 0, .int z_51]) (rest := []) ⟨hx, hb, hml, hown, hts⟩ (t_X4_takeNumber l D cy base τ G_46 a h_a 0 z_51) sV_X4_168 hK (t_recv cf_2 hK hT h_a) ⟨Nat.le_trans hZ hS.1, hT⟩ ⟨Nat.le_of_ble_eq_true rfl, Nat.le_of_ble_eq_true rfl⟩ rfl hl.1 rfl (Nat.le_of_ble_eq_true rfl) dX4_readPath_85 ⟨Nat.le_of_ble_eq_true rfl, Nat.le_of_ble_eq_true rfl⟩) hS (fun r_52 G_52 H locs hF_52 hr_52 hT hS => ?_)
        have hF := hF.tr hF_52 rfl
        have hr_52_p0 := hr_52
        have hr_52_p0 : r_52.toInt = (0 : Int) ∨ ((0 : Int) ≤ r_52.toInt ∧ r_52.toInt ≤ z_51.toInt) := hr_52_p0
        refine lv_istore_n (lv' := [(2, .int r_52), (1, .int r_9), (0, .ref a)]) hx hb dX4_readPath_88 rfl hl (by decide) rfl (fun ls hl => ?_)
        refine lv_aload_n hx hb dX4_readPath_89 rfl (lv_at hl 2 rfl) ?_
        refine va_ldcS (tx := "days") hx hb hown (hSS.2.1 1 (by decide)) dX4_readPath_90 ?_
        refine lv_iconst (v := 1) hx hb dX4_readPath_92 (by decide) ?_
        refine lv_bipush (v := 30) hx hb dX4_readPath_93 (by decide) ?_
        refine t_calli (runVs (As := [.ref (adK 1), .int 1, .int 30]) (rest := []) ⟨hx, hb, hml, hown, hts⟩ (t_X4_takeNamed l D cy base τ G_52 adK adV 1 (by decide) a h_a (1 : Int32) (30 : Int32)) sV_X4_116 hK hSS hS (t_recv cf_2 hK hT h_a) ⟨Nat.le_trans hZ hS.1, hT⟩ ⟨Nat.le_of_ble_eq_true rfl, Nat.le_of_ble_eq_true rfl⟩ rfl hl.1 rfl (Nat.le_of_ble_eq_true rfl) dX4_readPath_95 ⟨Nat.le_of_ble_eq_true rfl, Nat.le_of_ble_eq_true rfl⟩) hS (fun r_53 G_53 H locs hF_53 hr_53 hT hS => ?_)
        have hF := hF.tr hF_53 rfl
        have hr_53_p0 := hr_53
        have hr_53_p0 : r_53.toInt = (1 : Int) ∨ ((1 : Int) ≤ r_53.toInt ∧ r_53.toInt ≤ (30 : Int)) := hr_53_p0
        refine lv_istore_n (lv' := [(3, .int r_53), (2, .int r_52), (1, .int r_9), (0, .ref a)]) hx hb dX4_readPath_98 rfl hl (by decide) rfl (fun ls hl => ?_)
        refine lv_aload_n hx hb dX4_readPath_99 rfl (lv_at hl 3 rfl) ?_
        refine t_geti cf_2 hx hb hts hown hK hT h_a (k := 0) rfl fl_X4_36 (fun _ h9 => h9) dX4_readPath_100 (fun z_54 ez_54 rz_54 => ?_)
        have ez_54 : z_54 = G_53.1 a 0 := ez_54
        refine lv_if_ne (tgt := 161) hx hb dX4_readPath_103 (by decide) (fun c_55 => ?_) (fun c_55 => ?_)
        · skip
          have tc_55 : ¬ z_54.toInt = 0 := fun h => c_55 ((fa_eq _ _).mpr h)
          exact ret_v hx hb hr hlocks ⟨⟨hS.1, hS.2.1⟩, G_53, hF, ⟨rfl, trivial⟩, hT⟩ hS.2.2 (Nat.le_of_ble_eq_true rfl) (Nat.le_of_ble_eq_true rfl) dX4_readPath_161
        · skip
          have tc_55 : z_54.toInt = 0 := (fa_eq _ _).mp c_55
          refine lv_aload_n hx hb dX4_readPath_106 rfl (lv_at hl 3 rfl) ?_
          refine t_getr cf_2 hx hb hts hown hK hT h_a (k := 8) (P := fun q => τ q = 7) rfl (fun _ h9 => h9) fl_X4_22 (fun _ h9 => h9) dX4_readPath_107 (fun q_56 eq_56 hq_56 => ?_)
          have w_57 : q_1 = q_56 := Option.some.inj (eq_1.symm.trans ((hF.r h_a (by decide) rfl _).symm.trans eq_56))
          subst w_57
          refine lv_iload_n hx hb dX4_readPath_110 rfl (lv_at hl 2 rfl) ?_
          refine lv_iload_n hx hb dX4_readPath_111 rfl (lv_at hl 1 rfl) ?_
          refine pu_calli (runV (As := [.int r_9, .int r_52]) (rest := []) ⟨hx, hb, hml, hown, hts⟩ (t_X2_hasTwo l D cy base τ G_53 q_1 hq_1 r_9 r_52) sV_X4_203 hK (t_recv cf_7 hK hT hq_1) ⟨Nat.le_trans hZ hS.1, hT⟩ ⟨Nat.le_of_ble_eq_true rfl, Nat.le_of_ble_eq_true rfl⟩ rfl hl.1 rfl (Nat.le_of_ble_eq_true rfl) dX4_readPath_112 ⟨Nat.le_of_ble_eq_true rfl, Nat.le_of_ble_eq_true rfl⟩) (fun r_58 hr_58 => ?_)
          have hr_58_c := hr_58
          rcases hr_58_c with hr_58_0 | hr_58_1
          · skip
            obtain ⟨er_58, hr_58_0_f0, hr_58_0_f1, hr_58_0_f2, hr_58_0_f3⟩ := hr_58_0
            have hr_58_0_f0 : 0 ≤ r_9.toInt := hr_58_0_f0
            have hr_58_0_f1 : r_9.toInt ≤ 5 := hr_58_0_f1
            have hr_58_0_f2 : 0 ≤ r_52.toInt := hr_58_0_f2
            have hr_58_0_f3 : r_52.toInt ≤ 5 := hr_58_0_f3
            subst er_58
            refine W.eq (g2 := F0 m 115 ls [.int 1]) rfl ?_
            refine lv_if_eq (tgt := 161) hx hb dX4_readPath_115 (by decide) (fun c_59 => absurd c_59 (by decide)) (fun _ => ?_)
            refine lv_aload_n hx hb dX4_readPath_118 rfl (lv_at hl 3 rfl) ?_
            refine t_getr cf_2 hx hb hts hown hK hT h_a (k := 8) (P := fun q => τ q = 7) rfl (fun _ h9 => h9) fl_X4_22 (fun _ h9 => h9) dX4_readPath_119 (fun q_60 eq_60 hq_60 => ?_)
            have w_61 : q_1 = q_60 := Option.some.inj (eq_1.symm.trans ((hF.r h_a (by decide) rfl _).symm.trans eq_60))
            subst w_61
            refine t_getr cf_7 hx hb hts hown hK hT hq_1 (k := 20) (P := fun q => τ q = 29) rfl (fun _ h9 => h9) fl_X4_207 (fun _ h9 => h9) dX4_readPath_122 (fun q_62 eq_62 hq_62 => ?_)
            have eq_62 := (hF.r hq_1 (by decide) rfl _).symm.trans eq_62
            refine lv_iload_n hx hb dX4_readPath_125 rfl (lv_at hl 2 rfl) ?_
            refine lv_bipush (v := 6) hx hb dX4_readPath_126 (by decide) ?_
            refine lv_imul hx hb dX4_readPath_128 ?_
            refine lv_topi (fun z_63 ez_63 => ?_)
            have tz_63 : z_63.toInt = r_9.toInt * 6 := mul_t ez_63 (show -2147483648 ≤ r_9.toInt * 6 by omega) (show r_9.toInt * 6 < 2147483648 by omega)
            refine lv_iload_n hx hb dX4_readPath_129 rfl (lv_at hl 1 rfl) ?_
            refine lv_iadd hx hb dX4_readPath_130 ?_
            refine lv_topi (fun z_64 ez_64 => ?_)
            have tz_64 : z_64.toInt = z_63.toInt + r_52.toInt := add_t ez_64 (show -2147483648 ≤ z_63.toInt + r_52.toInt by omega) (show z_63.toInt + r_52.toInt < 2147483648 by omega)
            refine lv_iload_n hx hb dX4_readPath_131 rfl (lv_at hl 0 rfl) ?_
            refine t_iast (n := 36) (i := z_64) (x := r_53) rfl (by decide) hx hb hK hT hS hq_62 (hT.len hq_62 (by decide)) ⟨by omega, by omega⟩ trivial dX4_readPath_132 (fun H locs G_65 eG_65 hT hS => ?_)
            have hF := hF.wI eG_65 hq_62 rfl
            refine lv_aload_n hx hb dX4_readPath_133 rfl (lv_at hl 3 rfl) ?_
            refine t_getr cf_2 hx hb hts hown hK hT h_a (k := 8) (P := fun q => τ q = 7) rfl (fun _ h9 => h9) fl_X4_22 (fun _ h9 => h9) dX4_readPath_134 (fun q_66 eq_66 hq_66 => ?_)
            have w_67 : q_1 = q_66 := Option.some.inj (eq_1.symm.trans ((hF.r h_a (by decide) rfl _).symm.trans eq_66))
            subst w_67
            refine t_getr cf_7 hx hb hts hown hK hT hq_1 (k := 20) (P := fun q => τ q = 29) rfl (fun _ h9 => h9) fl_X4_207 (fun _ h9 => h9) dX4_readPath_137 (fun q_68 eq_68 hq_68 => ?_)
            have w_69 : q_62 = q_68 := Option.some.inj (eq_62.symm.trans ((hF.r hq_1 (by decide) rfl _).symm.trans eq_68))
            subst w_69
            refine lv_iload_n hx hb dX4_readPath_140 rfl (lv_at hl 1 rfl) ?_
            refine lv_bipush (v := 6) hx hb dX4_readPath_141 (by decide) ?_
            refine lv_imul hx hb dX4_readPath_143 ?_
            refine lv_topi (fun z_70 ez_70 => ?_)
            have tz_70 : z_70.toInt = r_52.toInt * 6 := mul_t ez_70 (show -2147483648 ≤ r_52.toInt * 6 by omega) (show r_52.toInt * 6 < 2147483648 by omega)
            refine lv_iload_n hx hb dX4_readPath_144 rfl (lv_at hl 2 rfl) ?_
            refine lv_iadd hx hb dX4_readPath_145 ?_
            refine lv_topi (fun z_71 ez_71 => ?_)
            have tz_71 : z_71.toInt = z_70.toInt + r_9.toInt := add_t ez_71 (show -2147483648 ≤ z_70.toInt + r_9.toInt by omega) (show z_70.toInt + r_9.toInt < 2147483648 by omega)
            refine lv_iload_n hx hb dX4_readPath_146 rfl (lv_at hl 0 rfl) ?_
            refine t_iast (n := 36) (i := z_71) (x := r_53) rfl (by decide) hx hb hK hT hS hq_62 (hT.len hq_62 (by decide)) ⟨by omega, by omega⟩ trivial dX4_readPath_147 (fun H locs G_72 eG_72 hT hS => ?_)
            have hF := hF.wI eG_72 hq_62 rfl
            refine lv_aload_n hx hb dX4_readPath_148 rfl (lv_at hl 3 rfl) ?_
            refine t_getr cf_2 hx hb hts hown hK hT h_a (k := 8) (P := fun q => τ q = 7) rfl (fun _ h9 => h9) fl_X4_22 (fun _ h9 => h9) dX4_readPath_149 (fun q_73 eq_73 hq_73 => ?_)
            have w_74 : q_1 = q_73 := Option.some.inj (eq_1.symm.trans ((hF.r h_a (by decide) rfl _).symm.trans eq_73))
            subst w_74
            refine lv_dup hx hb dX4_readPath_152 rfl ?_
            refine t_geti cf_7 hx hb hts hown hK hT hq_1 (k := 7) rfl fl_X4_194 (fun _ h9 => h9) dX4_readPath_153 (fun z_75 ez_75 rz_75 => ?_)
            have ez_75 : z_75 = G_72.1 q_1 7 := ez_75
            refine lv_iconst (v := 1) hx hb dX4_readPath_156 (by decide) ?_
            refine lv_iadd hx hb dX4_readPath_157 ?_
            refine lv_topi (fun z_76 ez_76 => ?_)
            refine t_puti (x := z_76) cf_7 hx hb hts hown hK hT hS hq_1 (k := 7) rfl trivial fl_X4_194 (fun _ h9 => h9) rfl rfl rfl dX4_readPath_158 (fun H locs G_77 eG_77 hT hS => ?_)
            have hF := hF.wI eG_77 hq_1 rfl
            exact ret_v hx hb hr hlocks ⟨⟨hS.1, hS.2.1⟩, G_77, hF, ⟨rfl, trivial⟩, hT⟩ hS.2.2 (Nat.le_of_ble_eq_true rfl) (Nat.le_of_ble_eq_true rfl) dX4_readPath_161
          · skip
            have er_58 := hr_58_1
            subst er_58
            refine W.eq (g2 := F0 m 115 ls [.int 0]) rfl ?_
            refine lv_if_eq (tgt := 161) hx hb dX4_readPath_115 (by decide) (fun _ => ?_) (fun c_78 => absurd (by decide) c_78)
            exact ret_v hx hb hr hlocks ⟨⟨hS.1, hS.2.1⟩, G_53, hF, ⟨rfl, trivial⟩, hT⟩ hS.2.2 (Nat.le_of_ble_eq_true rfl) (Nat.le_of_ble_eq_true rfl) dX4_readPath_161
      · skip
        have tc_44 : ¬ z_43.toInt = r_9.toInt := fun h => c_44 ((fa_eq _ _).mpr h)
        refine lv_aload_n hx hb dX4_readPath_54 rfl (lv_at hl 1 rfl) ?_
        refine t_getr cf_2 hx hb hts hown hK hT h_a (k := 8) (P := fun q => τ q = 7) rfl (fun _ h9 => h9) fl_X4_22 (fun _ h9 => h9) dX4_readPath_55 (fun q_79 eq_79 hq_79 => ?_)
        have w_80 : q_1 = q_79 := Option.some.inj (eq_1.symm.trans ((hF.r h_a (by decide) rfl _).symm.trans eq_79))
        subst w_80
        refine lv_iload_n hx hb dX4_readPath_58 rfl (lv_at hl 0 rfl) ?_
        refine lv_aload_n hx hb dX4_readPath_59 rfl (lv_at hl 1 rfl) ?_
        refine t_geti cf_2 hx hb hts hown hK hT h_a (k := 7) rfl fl_X4_197 (fun _ h9 => h9) dX4_readPath_60 (fun z_81 ez_81 rz_81 => ?_)
        have w_82 : z_43 = z_81 := ez_43.trans ez_81.symm
        subst w_82
        refine pu_calli (runV (As := [.int r_9, .int z_43]) (rest := []) ⟨hx, hb, hml, hown, hts⟩ (t_X2_pathBetween l D cy base τ G_9 q_1 hq_1 r_9 z_43) sV_X4_200 hK (t_recv cf_7 hK hT hq_1) ⟨Nat.le_trans hZ hS.1, hT⟩ ⟨Nat.le_of_ble_eq_true rfl, Nat.le_of_ble_eq_true rfl⟩ rfl hl.1 rfl (Nat.le_of_ble_eq_true rfl) dX4_readPath_63 ⟨Nat.le_of_ble_eq_true rfl, Nat.le_of_ble_eq_true rfl⟩) (fun r_83 hr_83 => ?_)
        refine lv_if_eq (tgt := 74) hx hb dX4_readPath_66 (by decide) (fun c_84 => ?_) (fun c_84 => ?_)
        · skip
          have tc_84 : r_83.toInt = 0 := (fa_eq _ _).mp c_84
          refine lv_aload_n hx hb dX4_readPath_74 rfl (lv_at hl 1 rfl) ?_
          refine lv_iconst (v := 0) hx hb dX4_readPath_75 (by decide) ?_
          refine lv_aload_n hx hb dX4_readPath_76 rfl (lv_at hl 1 rfl) ?_
          refine t_getr cf_2 hx hb hts hown hK hT h_a (k := 8) (P := fun q => τ q = 7) rfl (fun _ h9 => h9) fl_X4_22 (fun _ h9 => h9) dX4_readPath_77 (fun q_85 eq_85 hq_85 => ?_)
          have w_86 : q_1 = q_85 := Option.some.inj (eq_1.symm.trans ((hF.r h_a (by decide) rfl _).symm.trans eq_85))
          subst w_86
          refine t_geti cf_7 hx hb hts hown hK hT hq_1 (k := 6) rfl fl_X4_151 (fun _ h9 => h9) dX4_readPath_80 (fun z_87 ez_87 rz_87 => ?_)
          have ez_87 : z_87 = G_9.1 q_1 6 := ez_87
          have rz_87 : 0 ≤ z_87.toInt ∧ z_87.toInt ≤ 6 := rz_87
          refine lv_iconst (v := 1) hx hb dX4_readPath_83 (by decide) ?_
          refine lv_isub hx hb dX4_readPath_84 ?_
          refine lv_topi (fun z_88 ez_88 => ?_)
          have tz_88 : z_88.toInt = z_87.toInt - 1 := sub_t ez_88 (show -2147483648 ≤ z_87.toInt - 1 by omega) (show z_87.toInt - 1 < 2147483648 by omega)
          refine t_calli (runV (As := [.int 0, .int z_88]) (rest := []) ⟨hx, hb, hml, hown, hts⟩ (t_X4_takeNumber l D cy base τ G_9 a h_a 0 z_88) sV_X4_168 hK (t_recv cf_2 hK hT h_a) ⟨Nat.le_trans hZ hS.1, hT⟩ ⟨Nat.le_of_ble_eq_true rfl, Nat.le_of_ble_eq_true rfl⟩ rfl hl.1 rfl (Nat.le_of_ble_eq_true rfl) dX4_readPath_85 ⟨Nat.le_of_ble_eq_true rfl, Nat.le_of_ble_eq_true rfl⟩) hS (fun r_89 G_89 H locs hF_89 hr_89 hT hS => ?_)
          have hF := hF.tr hF_89 rfl
          have hr_89_p0 := hr_89
          have hr_89_p0 : r_89.toInt = (0 : Int) ∨ ((0 : Int) ≤ r_89.toInt ∧ r_89.toInt ≤ z_88.toInt) := hr_89_p0
          refine lv_istore_n (lv' := [(2, .int r_89), (1, .int r_9), (0, .ref a)]) hx hb dX4_readPath_88 rfl hl (by decide) rfl (fun ls hl => ?_)
          refine lv_aload_n hx hb dX4_readPath_89 rfl (lv_at hl 2 rfl) ?_
          refine va_ldcS (tx := "days") hx hb hown (hSS.2.1 1 (by decide)) dX4_readPath_90 ?_
          refine lv_iconst (v := 1) hx hb dX4_readPath_92 (by decide) ?_
          refine lv_bipush (v := 30) hx hb dX4_readPath_93 (by decide) ?_
          refine t_calli (runVs (As := [.ref (adK 1), .int 1, .int 30]) (rest := []) ⟨hx, hb, hml, hown, hts⟩ (t_X4_takeNamed l D cy base τ G_89 adK adV 1 (by decide) a h_a (1 : Int32) (30 : Int32)) sV_X4_116 hK hSS hS (t_recv cf_2 hK hT h_a) ⟨Nat.le_trans hZ hS.1, hT⟩ ⟨Nat.le_of_ble_eq_true rfl, Nat.le_of_ble_eq_true rfl⟩ rfl hl.1 rfl (Nat.le_of_ble_eq_true rfl) dX4_readPath_95 ⟨Nat.le_of_ble_eq_true rfl, Nat.le_of_ble_eq_true rfl⟩) hS (fun r_90 G_90 H locs hF_90 hr_90 hT hS => ?_)
          have hF := hF.tr hF_90 rfl
          have hr_90_p0 := hr_90
          have hr_90_p0 : r_90.toInt = (1 : Int) ∨ ((1 : Int) ≤ r_90.toInt ∧ r_90.toInt ≤ (30 : Int)) := hr_90_p0
          refine lv_istore_n (lv' := [(3, .int r_90), (2, .int r_89), (1, .int r_9), (0, .ref a)]) hx hb dX4_readPath_98 rfl hl (by decide) rfl (fun ls hl => ?_)
          refine lv_aload_n hx hb dX4_readPath_99 rfl (lv_at hl 3 rfl) ?_
          refine t_geti cf_2 hx hb hts hown hK hT h_a (k := 0) rfl fl_X4_36 (fun _ h9 => h9) dX4_readPath_100 (fun z_91 ez_91 rz_91 => ?_)
          have ez_91 : z_91 = G_90.1 a 0 := ez_91
          refine lv_if_ne (tgt := 161) hx hb dX4_readPath_103 (by decide) (fun c_92 => ?_) (fun c_92 => ?_)
          · skip
            have tc_92 : ¬ z_91.toInt = 0 := fun h => c_92 ((fa_eq _ _).mpr h)
            exact ret_v hx hb hr hlocks ⟨⟨hS.1, hS.2.1⟩, G_90, hF, ⟨rfl, trivial⟩, hT⟩ hS.2.2 (Nat.le_of_ble_eq_true rfl) (Nat.le_of_ble_eq_true rfl) dX4_readPath_161
          · skip
            have tc_92 : z_91.toInt = 0 := (fa_eq _ _).mp c_92
            refine lv_aload_n hx hb dX4_readPath_106 rfl (lv_at hl 3 rfl) ?_
            refine t_getr cf_2 hx hb hts hown hK hT h_a (k := 8) (P := fun q => τ q = 7) rfl (fun _ h9 => h9) fl_X4_22 (fun _ h9 => h9) dX4_readPath_107 (fun q_93 eq_93 hq_93 => ?_)
            have w_94 : q_1 = q_93 := Option.some.inj (eq_1.symm.trans ((hF.r h_a (by decide) rfl _).symm.trans eq_93))
            subst w_94
            refine lv_iload_n hx hb dX4_readPath_110 rfl (lv_at hl 2 rfl) ?_
            refine lv_iload_n hx hb dX4_readPath_111 rfl (lv_at hl 1 rfl) ?_
            refine pu_calli (runV (As := [.int r_9, .int r_89]) (rest := []) ⟨hx, hb, hml, hown, hts⟩ (t_X2_hasTwo l D cy base τ G_90 q_1 hq_1 r_9 r_89) sV_X4_203 hK (t_recv cf_7 hK hT hq_1) ⟨Nat.le_trans hZ hS.1, hT⟩ ⟨Nat.le_of_ble_eq_true rfl, Nat.le_of_ble_eq_true rfl⟩ rfl hl.1 rfl (Nat.le_of_ble_eq_true rfl) dX4_readPath_112 ⟨Nat.le_of_ble_eq_true rfl, Nat.le_of_ble_eq_true rfl⟩) (fun r_95 hr_95 => ?_)
            have hr_95_c := hr_95
            rcases hr_95_c with hr_95_0 | hr_95_1
            · skip
              obtain ⟨er_95, hr_95_0_f0, hr_95_0_f1, hr_95_0_f2, hr_95_0_f3⟩ := hr_95_0
              have hr_95_0_f0 : 0 ≤ r_9.toInt := hr_95_0_f0
              have hr_95_0_f1 : r_9.toInt ≤ 5 := hr_95_0_f1
              have hr_95_0_f2 : 0 ≤ r_89.toInt := hr_95_0_f2
              have hr_95_0_f3 : r_89.toInt ≤ 5 := hr_95_0_f3
              subst er_95
              refine W.eq (g2 := F0 m 115 ls [.int 1]) rfl ?_
              refine lv_if_eq (tgt := 161) hx hb dX4_readPath_115 (by decide) (fun c_96 => absurd c_96 (by decide)) (fun _ => ?_)
              refine lv_aload_n hx hb dX4_readPath_118 rfl (lv_at hl 3 rfl) ?_
              refine t_getr cf_2 hx hb hts hown hK hT h_a (k := 8) (P := fun q => τ q = 7) rfl (fun _ h9 => h9) fl_X4_22 (fun _ h9 => h9) dX4_readPath_119 (fun q_97 eq_97 hq_97 => ?_)
              have w_98 : q_1 = q_97 := Option.some.inj (eq_1.symm.trans ((hF.r h_a (by decide) rfl _).symm.trans eq_97))
              subst w_98
              refine t_getr cf_7 hx hb hts hown hK hT hq_1 (k := 20) (P := fun q => τ q = 29) rfl (fun _ h9 => h9) fl_X4_207 (fun _ h9 => h9) dX4_readPath_122 (fun q_99 eq_99 hq_99 => ?_)
              have eq_99 := (hF.r hq_1 (by decide) rfl _).symm.trans eq_99
              refine lv_iload_n hx hb dX4_readPath_125 rfl (lv_at hl 2 rfl) ?_
              refine lv_bipush (v := 6) hx hb dX4_readPath_126 (by decide) ?_
              refine lv_imul hx hb dX4_readPath_128 ?_
              refine lv_topi (fun z_100 ez_100 => ?_)
              have tz_100 : z_100.toInt = r_9.toInt * 6 := mul_t ez_100 (show -2147483648 ≤ r_9.toInt * 6 by omega) (show r_9.toInt * 6 < 2147483648 by omega)
              refine lv_iload_n hx hb dX4_readPath_129 rfl (lv_at hl 1 rfl) ?_
              refine lv_iadd hx hb dX4_readPath_130 ?_
              refine lv_topi (fun z_101 ez_101 => ?_)
              have tz_101 : z_101.toInt = z_100.toInt + r_89.toInt := add_t ez_101 (show -2147483648 ≤ z_100.toInt + r_89.toInt by omega) (show z_100.toInt + r_89.toInt < 2147483648 by omega)
              refine lv_iload_n hx hb dX4_readPath_131 rfl (lv_at hl 0 rfl) ?_
              refine t_iast (n := 36) (i := z_101) (x := r_90) rfl (by decide) hx hb hK hT hS hq_99 (hT.len hq_99 (by decide)) ⟨by omega, by omega⟩ trivial dX4_readPath_132 (fun H locs G_102 eG_102 hT hS => ?_)
              have hF := hF.wI eG_102 hq_99 rfl
              refine lv_aload_n hx hb dX4_readPath_133 rfl (lv_at hl 3 rfl) ?_
              refine t_getr cf_2 hx hb hts hown hK hT h_a (k := 8) (P := fun q => τ q = 7) rfl (fun _ h9 => h9) fl_X4_22 (fun _ h9 => h9) dX4_readPath_134 (fun q_103 eq_103 hq_103 => ?_)
              have w_104 : q_1 = q_103 := Option.some.inj (eq_1.symm.trans ((hF.r h_a (by decide) rfl _).symm.trans eq_103))
              subst w_104
              refine t_getr cf_7 hx hb hts hown hK hT hq_1 (k := 20) (P := fun q => τ q = 29) rfl (fun _ h9 => h9) fl_X4_207 (fun _ h9 => h9) dX4_readPath_137 (fun q_105 eq_105 hq_105 => ?_)
              have w_106 : q_99 = q_105 := Option.some.inj (eq_99.symm.trans ((hF.r hq_1 (by decide) rfl _).symm.trans eq_105))
              subst w_106
              refine lv_iload_n hx hb dX4_readPath_140 rfl (lv_at hl 1 rfl) ?_
              refine lv_bipush (v := 6) hx hb dX4_readPath_141 (by decide) ?_
              refine lv_imul hx hb dX4_readPath_143 ?_
              refine lv_topi (fun z_107 ez_107 => ?_)
              have tz_107 : z_107.toInt = r_89.toInt * 6 := mul_t ez_107 (show -2147483648 ≤ r_89.toInt * 6 by omega) (show r_89.toInt * 6 < 2147483648 by omega)
              refine lv_iload_n hx hb dX4_readPath_144 rfl (lv_at hl 2 rfl) ?_
              refine lv_iadd hx hb dX4_readPath_145 ?_
              refine lv_topi (fun z_108 ez_108 => ?_)
              have tz_108 : z_108.toInt = z_107.toInt + r_9.toInt := add_t ez_108 (show -2147483648 ≤ z_107.toInt + r_9.toInt by omega) (show z_107.toInt + r_9.toInt < 2147483648 by omega)
              refine lv_iload_n hx hb dX4_readPath_146 rfl (lv_at hl 0 rfl) ?_
              refine t_iast (n := 36) (i := z_108) (x := r_90) rfl (by decide) hx hb hK hT hS hq_99 (hT.len hq_99 (by decide)) ⟨by omega, by omega⟩ trivial dX4_readPath_147 (fun H locs G_109 eG_109 hT hS => ?_)
              have hF := hF.wI eG_109 hq_99 rfl
              refine lv_aload_n hx hb dX4_readPath_148 rfl (lv_at hl 3 rfl) ?_
              refine t_getr cf_2 hx hb hts hown hK hT h_a (k := 8) (P := fun q => τ q = 7) rfl (fun _ h9 => h9) fl_X4_22 (fun _ h9 => h9) dX4_readPath_149 (fun q_110 eq_110 hq_110 => ?_)
              have w_111 : q_1 = q_110 := Option.some.inj (eq_1.symm.trans ((hF.r h_a (by decide) rfl _).symm.trans eq_110))
              subst w_111
              refine lv_dup hx hb dX4_readPath_152 rfl ?_
              refine t_geti cf_7 hx hb hts hown hK hT hq_1 (k := 7) rfl fl_X4_194 (fun _ h9 => h9) dX4_readPath_153 (fun z_112 ez_112 rz_112 => ?_)
              have ez_112 : z_112 = G_109.1 q_1 7 := ez_112
              refine lv_iconst (v := 1) hx hb dX4_readPath_156 (by decide) ?_
              refine lv_iadd hx hb dX4_readPath_157 ?_
              refine lv_topi (fun z_113 ez_113 => ?_)
              refine t_puti (x := z_113) cf_7 hx hb hts hown hK hT hS hq_1 (k := 7) rfl trivial fl_X4_194 (fun _ h9 => h9) rfl rfl rfl dX4_readPath_158 (fun H locs G_114 eG_114 hT hS => ?_)
              have hF := hF.wI eG_114 hq_1 rfl
              exact ret_v hx hb hr hlocks ⟨⟨hS.1, hS.2.1⟩, G_114, hF, ⟨rfl, trivial⟩, hT⟩ hS.2.2 (Nat.le_of_ble_eq_true rfl) (Nat.le_of_ble_eq_true rfl) dX4_readPath_161
            · skip
              have er_95 := hr_95_1
              subst er_95
              refine W.eq (g2 := F0 m 115 ls [.int 0]) rfl ?_
              refine lv_if_eq (tgt := 161) hx hb dX4_readPath_115 (by decide) (fun _ => ?_) (fun c_115 => absurd (by decide) c_115)
              exact ret_v hx hb hr hlocks ⟨⟨hS.1, hS.2.1⟩, G_90, hF, ⟨rfl, trivial⟩, hT⟩ hS.2.2 (Nat.le_of_ble_eq_true rfl) (Nat.le_of_ble_eq_true rfl) dX4_readPath_161
        · skip
          have tc_84 : ¬ r_83.toInt = 0 := fun h => c_84 ((fa_eq _ _).mpr h)
          refine lv_aload_n hx hb dX4_readPath_69 rfl (lv_at hl 1 rfl) ?_
          refine lv_iconst (v := 2) hx hb dX4_readPath_70 (by decide) ?_
          obtain ⟨z_116, ez_116⟩ : ∃ y : Int32, y = G_9.1 a 0 := ⟨_, rfl⟩
          refine t_callv (runV (As := [.int 2]) (rest := []) ⟨hx, hb, hml, hown, hts⟩ (t_X4_refuse l D cy base τ G_9 a h_a 2 (by decide) z_116 ez_116) sV_X4_79 hK (t_recv cf_2 hK hT h_a) ⟨Nat.le_trans hZ hS.1, hT⟩ ⟨Nat.le_of_ble_eq_true rfl, Nat.le_of_ble_eq_true rfl⟩ rfl hl.1 rfl (Nat.le_of_ble_eq_true rfl) dX4_readPath_71 ⟨Nat.le_of_ble_eq_true rfl, Nat.le_of_ble_eq_true rfl⟩) hS (fun G_117 H locs hF_117 hr_117 hT hS => ?_)
          have hF := hF.tr hF_117 rfl
          have hr_117_p0 := hr_117
          obtain ⟨z_118, ez_118, hr_117_p0⟩ : ∃ z_118 : Int32, z_118 = G_117.1 a 0 ∧ (z_118.toInt ≠ 0) := ⟨_, rfl, hr_117_p0⟩
          refine lv_aload_n hx hb dX4_readPath_74 rfl (lv_at hl 1 rfl) ?_
          refine lv_iconst (v := 0) hx hb dX4_readPath_75 (by decide) ?_
          refine lv_aload_n hx hb dX4_readPath_76 rfl (lv_at hl 1 rfl) ?_
          refine t_getr cf_2 hx hb hts hown hK hT h_a (k := 8) (P := fun q => τ q = 7) rfl (fun _ h9 => h9) fl_X4_22 (fun _ h9 => h9) dX4_readPath_77 (fun q_119 eq_119 hq_119 => ?_)
          have w_120 : q_1 = q_119 := Option.some.inj (eq_1.symm.trans ((hF.r h_a (by decide) rfl _).symm.trans eq_119))
          subst w_120
          refine t_geti cf_7 hx hb hts hown hK hT hq_1 (k := 6) rfl fl_X4_151 (fun _ h9 => h9) dX4_readPath_80 (fun z_121 ez_121 rz_121 => ?_)
          have ez_121 : z_121 = G_117.1 q_1 6 := ez_121
          have rz_121 : 0 ≤ z_121.toInt ∧ z_121.toInt ≤ 6 := rz_121
          refine lv_iconst (v := 1) hx hb dX4_readPath_83 (by decide) ?_
          refine lv_isub hx hb dX4_readPath_84 ?_
          refine lv_topi (fun z_122 ez_122 => ?_)
          have tz_122 : z_122.toInt = z_121.toInt - 1 := sub_t ez_122 (show -2147483648 ≤ z_121.toInt - 1 by omega) (show z_121.toInt - 1 < 2147483648 by omega)
          refine t_calli (runV (As := [.int 0, .int z_122]) (rest := []) ⟨hx, hb, hml, hown, hts⟩ (t_X4_takeNumber l D cy base τ G_117 a h_a 0 z_122) sV_X4_168 hK (t_recv cf_2 hK hT h_a) ⟨Nat.le_trans hZ hS.1, hT⟩ ⟨Nat.le_of_ble_eq_true rfl, Nat.le_of_ble_eq_true rfl⟩ rfl hl.1 rfl (Nat.le_of_ble_eq_true rfl) dX4_readPath_85 ⟨Nat.le_of_ble_eq_true rfl, Nat.le_of_ble_eq_true rfl⟩) hS (fun r_123 G_123 H locs hF_123 hr_123 hT hS => ?_)
          have hF := hF.tr hF_123 rfl
          have hr_123_p0 := hr_123
          have hr_123_p0 : r_123.toInt = (0 : Int) ∨ ((0 : Int) ≤ r_123.toInt ∧ r_123.toInt ≤ z_122.toInt) := hr_123_p0
          refine lv_istore_n (lv' := [(2, .int r_123), (1, .int r_9), (0, .ref a)]) hx hb dX4_readPath_88 rfl hl (by decide) rfl (fun ls hl => ?_)
          refine lv_aload_n hx hb dX4_readPath_89 rfl (lv_at hl 2 rfl) ?_
          refine va_ldcS (tx := "days") hx hb hown (hSS.2.1 1 (by decide)) dX4_readPath_90 ?_
          refine lv_iconst (v := 1) hx hb dX4_readPath_92 (by decide) ?_
          refine lv_bipush (v := 30) hx hb dX4_readPath_93 (by decide) ?_
          refine t_calli (runVs (As := [.ref (adK 1), .int 1, .int 30]) (rest := []) ⟨hx, hb, hml, hown, hts⟩ (t_X4_takeNamed l D cy base τ G_123 adK adV 1 (by decide) a h_a (1 : Int32) (30 : Int32)) sV_X4_116 hK hSS hS (t_recv cf_2 hK hT h_a) ⟨Nat.le_trans hZ hS.1, hT⟩ ⟨Nat.le_of_ble_eq_true rfl, Nat.le_of_ble_eq_true rfl⟩ rfl hl.1 rfl (Nat.le_of_ble_eq_true rfl) dX4_readPath_95 ⟨Nat.le_of_ble_eq_true rfl, Nat.le_of_ble_eq_true rfl⟩) hS (fun r_124 G_124 H locs hF_124 hr_124 hT hS => ?_)
          have hF := hF.tr hF_124 rfl
          have hr_124_p0 := hr_124
          have hr_124_p0 : r_124.toInt = (1 : Int) ∨ ((1 : Int) ≤ r_124.toInt ∧ r_124.toInt ≤ (30 : Int)) := hr_124_p0
          refine lv_istore_n (lv' := [(3, .int r_124), (2, .int r_123), (1, .int r_9), (0, .ref a)]) hx hb dX4_readPath_98 rfl hl (by decide) rfl (fun ls hl => ?_)
          refine lv_aload_n hx hb dX4_readPath_99 rfl (lv_at hl 3 rfl) ?_
          refine t_geti cf_2 hx hb hts hown hK hT h_a (k := 0) rfl fl_X4_36 (fun _ h9 => h9) dX4_readPath_100 (fun z_125 ez_125 rz_125 => ?_)
          have ez_125 : z_125 = G_124.1 a 0 := ez_125
          refine lv_if_ne (tgt := 161) hx hb dX4_readPath_103 (by decide) (fun c_126 => ?_) (fun c_126 => ?_)
          · skip
            have tc_126 : ¬ z_125.toInt = 0 := fun h => c_126 ((fa_eq _ _).mpr h)
            exact ret_v hx hb hr hlocks ⟨⟨hS.1, hS.2.1⟩, G_124, hF, ⟨rfl, trivial⟩, hT⟩ hS.2.2 (Nat.le_of_ble_eq_true rfl) (Nat.le_of_ble_eq_true rfl) dX4_readPath_161
          · skip
            have tc_126 : z_125.toInt = 0 := (fa_eq _ _).mp c_126
            refine lv_aload_n hx hb dX4_readPath_106 rfl (lv_at hl 3 rfl) ?_
            refine t_getr cf_2 hx hb hts hown hK hT h_a (k := 8) (P := fun q => τ q = 7) rfl (fun _ h9 => h9) fl_X4_22 (fun _ h9 => h9) dX4_readPath_107 (fun q_127 eq_127 hq_127 => ?_)
            have w_128 : q_1 = q_127 := Option.some.inj (eq_1.symm.trans ((hF.r h_a (by decide) rfl _).symm.trans eq_127))
            subst w_128
            refine lv_iload_n hx hb dX4_readPath_110 rfl (lv_at hl 2 rfl) ?_
            refine lv_iload_n hx hb dX4_readPath_111 rfl (lv_at hl 1 rfl) ?_
            refine pu_calli (runV (As := [.int r_9, .int r_123]) (rest := []) ⟨hx, hb, hml, hown, hts⟩ (t_X2_hasTwo l D cy base τ G_124 q_1 hq_1 r_9 r_123) sV_X4_203 hK (t_recv cf_7 hK hT hq_1) ⟨Nat.le_trans hZ hS.1, hT⟩ ⟨Nat.le_of_ble_eq_true rfl, Nat.le_of_ble_eq_true rfl⟩ rfl hl.1 rfl (Nat.le_of_ble_eq_true rfl) dX4_readPath_112 ⟨Nat.le_of_ble_eq_true rfl, Nat.le_of_ble_eq_true rfl⟩) (fun r_129 hr_129 => ?_)
            have hr_129_c := hr_129
            rcases hr_129_c with hr_129_0 | hr_129_1
            · skip
              obtain ⟨er_129, hr_129_0_f0, hr_129_0_f1, hr_129_0_f2, hr_129_0_f3⟩ := hr_129_0
              have hr_129_0_f0 : 0 ≤ r_9.toInt := hr_129_0_f0
              have hr_129_0_f1 : r_9.toInt ≤ 5 := hr_129_0_f1
              have hr_129_0_f2 : 0 ≤ r_123.toInt := hr_129_0_f2
              have hr_129_0_f3 : r_123.toInt ≤ 5 := hr_129_0_f3
              subst er_129
              refine W.eq (g2 := F0 m 115 ls [.int 1]) rfl ?_
              refine lv_if_eq (tgt := 161) hx hb dX4_readPath_115 (by decide) (fun c_130 => absurd c_130 (by decide)) (fun _ => ?_)
              refine lv_aload_n hx hb dX4_readPath_118 rfl (lv_at hl 3 rfl) ?_
              refine t_getr cf_2 hx hb hts hown hK hT h_a (k := 8) (P := fun q => τ q = 7) rfl (fun _ h9 => h9) fl_X4_22 (fun _ h9 => h9) dX4_readPath_119 (fun q_131 eq_131 hq_131 => ?_)
              have w_132 : q_1 = q_131 := Option.some.inj (eq_1.symm.trans ((hF.r h_a (by decide) rfl _).symm.trans eq_131))
              subst w_132
              refine t_getr cf_7 hx hb hts hown hK hT hq_1 (k := 20) (P := fun q => τ q = 29) rfl (fun _ h9 => h9) fl_X4_207 (fun _ h9 => h9) dX4_readPath_122 (fun q_133 eq_133 hq_133 => ?_)
              have eq_133 := (hF.r hq_1 (by decide) rfl _).symm.trans eq_133
              refine lv_iload_n hx hb dX4_readPath_125 rfl (lv_at hl 2 rfl) ?_
              refine lv_bipush (v := 6) hx hb dX4_readPath_126 (by decide) ?_
              refine lv_imul hx hb dX4_readPath_128 ?_
              refine lv_topi (fun z_134 ez_134 => ?_)
              have tz_134 : z_134.toInt = r_9.toInt * 6 := mul_t ez_134 (show -2147483648 ≤ r_9.toInt * 6 by omega) (show r_9.toInt * 6 < 2147483648 by omega)
              refine lv_iload_n hx hb dX4_readPath_129 rfl (lv_at hl 1 rfl) ?_
              refine lv_iadd hx hb dX4_readPath_130 ?_
              refine lv_topi (fun z_135 ez_135 => ?_)
              have tz_135 : z_135.toInt = z_134.toInt + r_123.toInt := add_t ez_135 (show -2147483648 ≤ z_134.toInt + r_123.toInt by omega) (show z_134.toInt + r_123.toInt < 2147483648 by omega)
              refine lv_iload_n hx hb dX4_readPath_131 rfl (lv_at hl 0 rfl) ?_
              refine t_iast (n := 36) (i := z_135) (x := r_124) rfl (by decide) hx hb hK hT hS hq_133 (hT.len hq_133 (by decide)) ⟨by omega, by omega⟩ trivial dX4_readPath_132 (fun H locs G_136 eG_136 hT hS => ?_)
              have hF := hF.wI eG_136 hq_133 rfl
              refine lv_aload_n hx hb dX4_readPath_133 rfl (lv_at hl 3 rfl) ?_
              refine t_getr cf_2 hx hb hts hown hK hT h_a (k := 8) (P := fun q => τ q = 7) rfl (fun _ h9 => h9) fl_X4_22 (fun _ h9 => h9) dX4_readPath_134 (fun q_137 eq_137 hq_137 => ?_)
              have w_138 : q_1 = q_137 := Option.some.inj (eq_1.symm.trans ((hF.r h_a (by decide) rfl _).symm.trans eq_137))
              subst w_138
              refine t_getr cf_7 hx hb hts hown hK hT hq_1 (k := 20) (P := fun q => τ q = 29) rfl (fun _ h9 => h9) fl_X4_207 (fun _ h9 => h9) dX4_readPath_137 (fun q_139 eq_139 hq_139 => ?_)
              have w_140 : q_133 = q_139 := Option.some.inj (eq_133.symm.trans ((hF.r hq_1 (by decide) rfl _).symm.trans eq_139))
              subst w_140
              refine lv_iload_n hx hb dX4_readPath_140 rfl (lv_at hl 1 rfl) ?_
              refine lv_bipush (v := 6) hx hb dX4_readPath_141 (by decide) ?_
              refine lv_imul hx hb dX4_readPath_143 ?_
              refine lv_topi (fun z_141 ez_141 => ?_)
              have tz_141 : z_141.toInt = r_123.toInt * 6 := mul_t ez_141 (show -2147483648 ≤ r_123.toInt * 6 by omega) (show r_123.toInt * 6 < 2147483648 by omega)
              refine lv_iload_n hx hb dX4_readPath_144 rfl (lv_at hl 2 rfl) ?_
              refine lv_iadd hx hb dX4_readPath_145 ?_
              refine lv_topi (fun z_142 ez_142 => ?_)
              have tz_142 : z_142.toInt = z_141.toInt + r_9.toInt := add_t ez_142 (show -2147483648 ≤ z_141.toInt + r_9.toInt by omega) (show z_141.toInt + r_9.toInt < 2147483648 by omega)
              refine lv_iload_n hx hb dX4_readPath_146 rfl (lv_at hl 0 rfl) ?_
              refine t_iast (n := 36) (i := z_142) (x := r_124) rfl (by decide) hx hb hK hT hS hq_133 (hT.len hq_133 (by decide)) ⟨by omega, by omega⟩ trivial dX4_readPath_147 (fun H locs G_143 eG_143 hT hS => ?_)
              have hF := hF.wI eG_143 hq_133 rfl
              refine lv_aload_n hx hb dX4_readPath_148 rfl (lv_at hl 3 rfl) ?_
              refine t_getr cf_2 hx hb hts hown hK hT h_a (k := 8) (P := fun q => τ q = 7) rfl (fun _ h9 => h9) fl_X4_22 (fun _ h9 => h9) dX4_readPath_149 (fun q_144 eq_144 hq_144 => ?_)
              have w_145 : q_1 = q_144 := Option.some.inj (eq_1.symm.trans ((hF.r h_a (by decide) rfl _).symm.trans eq_144))
              subst w_145
              refine lv_dup hx hb dX4_readPath_152 rfl ?_
              refine t_geti cf_7 hx hb hts hown hK hT hq_1 (k := 7) rfl fl_X4_194 (fun _ h9 => h9) dX4_readPath_153 (fun z_146 ez_146 rz_146 => ?_)
              have ez_146 : z_146 = G_143.1 q_1 7 := ez_146
              refine lv_iconst (v := 1) hx hb dX4_readPath_156 (by decide) ?_
              refine lv_iadd hx hb dX4_readPath_157 ?_
              refine lv_topi (fun z_147 ez_147 => ?_)
              refine t_puti (x := z_147) cf_7 hx hb hts hown hK hT hS hq_1 (k := 7) rfl trivial fl_X4_194 (fun _ h9 => h9) rfl rfl rfl dX4_readPath_158 (fun H locs G_148 eG_148 hT hS => ?_)
              have hF := hF.wI eG_148 hq_1 rfl
              exact ret_v hx hb hr hlocks ⟨⟨hS.1, hS.2.1⟩, G_148, hF, ⟨rfl, trivial⟩, hT⟩ hS.2.2 (Nat.le_of_ble_eq_true rfl) (Nat.le_of_ble_eq_true rfl) dX4_readPath_161
            · skip
              have er_129 := hr_129_1
              subst er_129
              refine W.eq (g2 := F0 m 115 ls [.int 0]) rfl ?_
              refine lv_if_eq (tgt := 161) hx hb dX4_readPath_115 (by decide) (fun _ => ?_) (fun c_149 => absurd (by decide) c_149)
              exact ret_v hx hb hr hlocks ⟨⟨hS.1, hS.2.1⟩, G_124, hF, ⟨rfl, trivial⟩, hT⟩ hS.2.2 (Nat.le_of_ble_eq_true rfl) (Nat.le_of_ble_eq_true rfl) dX4_readPath_161
  · skip
    have tc_3 : ¬ z_2.toInt < 8 := fun h => c_3 ((fa_lt _ _).mpr h)
    refine lv_aload_n hx hb dX4_readPath_12 rfl (lv_at hl 0 rfl) ?_
    refine lv_iconst (v := 3) hx hb dX4_readPath_13 (by decide) ?_
    obtain ⟨z_150, ez_150⟩ : ∃ y : Int32, y = G.1 a 0 := ⟨_, rfl⟩
    refine t_callv (runV (As := [.int 3]) (rest := []) ⟨hx, hb, hml, hown, hts⟩ (t_X4_refuse l D cy base τ G a h_a 3 (by decide) z_150 ez_150) sV_X4_79 hK (t_recv cf_2 hK hT h_a) ⟨Nat.le_trans hZ hS.1, hT⟩ ⟨Nat.le_of_ble_eq_true rfl, Nat.le_of_ble_eq_true rfl⟩ rfl hl.1 rfl (Nat.le_of_ble_eq_true rfl) dX4_readPath_14 ⟨Nat.le_of_ble_eq_true rfl, Nat.le_of_ble_eq_true rfl⟩) hS (fun G_151 H locs hF_151 hr_151 hT hS => ?_)
    have hF := hF.tr hF_151 rfl
    have hr_151_p0 := hr_151
    obtain ⟨z_152, ez_152, hr_151_p0⟩ : ∃ z_152 : Int32, z_152 = G_151.1 a 0 ∧ (z_152.toInt ≠ 0) := ⟨_, rfl, hr_151_p0⟩
    refine lv_aload_n hx hb dX4_readPath_17 rfl (lv_at hl 0 rfl) ?_
    refine va_ldcS (tx := "path") hx hb hown (hSS.2.1 19 (by decide)) dX4_readPath_18 ?_
    refine t_callv (runVs (As := [.ref (adK 19)]) (rest := []) ⟨hx, hb, hml, hown, hts⟩ (t_X4_takeWord l D cy base τ G_151 adK adV 19 (by decide) a h_a) sV_X4_110 hK hSS hS (t_recv cf_2 hK hT h_a) ⟨Nat.le_trans hZ hS.1, hT⟩ ⟨Nat.le_of_ble_eq_true rfl, Nat.le_of_ble_eq_true rfl⟩ rfl hl.1 rfl (Nat.le_of_ble_eq_true rfl) dX4_readPath_20 ⟨Nat.le_of_ble_eq_true rfl, Nat.le_of_ble_eq_true rfl⟩) hS (fun G_153 H locs hF_153 hr_153 hT hS => ?_)
    have hF := hF.tr hF_153 rfl
    refine lv_aload_n hx hb dX4_readPath_23 rfl (lv_at hl 0 rfl) ?_
    refine lv_iconst (v := 0) hx hb dX4_readPath_24 (by decide) ?_
    refine lv_aload_n hx hb dX4_readPath_25 rfl (lv_at hl 0 rfl) ?_
    refine t_getr cf_2 hx hb hts hown hK hT h_a (k := 8) (P := fun q => τ q = 7) rfl (fun _ h9 => h9) fl_X4_22 (fun _ h9 => h9) dX4_readPath_26 (fun q_154 eq_154 hq_154 => ?_)
    have w_155 : q_1 = q_154 := Option.some.inj (eq_1.symm.trans ((hF.r h_a (by decide) rfl _).symm.trans eq_154))
    subst w_155
    refine t_geti cf_7 hx hb hts hown hK hT hq_1 (k := 6) rfl fl_X4_151 (fun _ h9 => h9) dX4_readPath_29 (fun z_156 ez_156 rz_156 => ?_)
    have ez_156 : z_156 = G_153.1 q_1 6 := ez_156
    have rz_156 : 0 ≤ z_156.toInt ∧ z_156.toInt ≤ 6 := rz_156
    refine lv_iconst (v := 1) hx hb dX4_readPath_32 (by decide) ?_
    refine lv_isub hx hb dX4_readPath_33 ?_
    refine lv_topi (fun z_157 ez_157 => ?_)
    have tz_157 : z_157.toInt = z_156.toInt - 1 := sub_t ez_157 (show -2147483648 ≤ z_156.toInt - 1 by omega) (show z_156.toInt - 1 < 2147483648 by omega)
    refine t_calli (runV (As := [.int 0, .int z_157]) (rest := []) ⟨hx, hb, hml, hown, hts⟩ (t_X4_takeNumber l D cy base τ G_153 a h_a 0 z_157) sV_X4_168 hK (t_recv cf_2 hK hT h_a) ⟨Nat.le_trans hZ hS.1, hT⟩ ⟨Nat.le_of_ble_eq_true rfl, Nat.le_of_ble_eq_true rfl⟩ rfl hl.1 rfl (Nat.le_of_ble_eq_true rfl) dX4_readPath_34 ⟨Nat.le_of_ble_eq_true rfl, Nat.le_of_ble_eq_true rfl⟩) hS (fun r_158 G_158 H locs hF_158 hr_158 hT hS => ?_)
    have hF := hF.tr hF_158 rfl
    have hr_158_p0 := hr_158
    have hr_158_p0 : r_158.toInt = (0 : Int) ∨ ((0 : Int) ≤ r_158.toInt ∧ r_158.toInt ≤ z_157.toInt) := hr_158_p0
    refine lv_istore_n (lv' := [(1, .int r_158), (0, .ref a)]) hx hb dX4_readPath_37 rfl hl (by decide) rfl (fun ls hl => ?_)
    refine lv_aload_n hx hb dX4_readPath_38 rfl (lv_at hl 1 rfl) ?_
    refine t_geti cf_2 hx hb hts hown hK hT h_a (k := 4) rfl fl_X4_33 (fun _ h9 => h9) dX4_readPath_39 (fun z_159 ez_159 rz_159 => ?_)
    have ez_159 : z_159 = G_158.1 a 4 := ez_159
    refine lv_iconst (v := 2) hx hb dX4_readPath_42 (by decide) ?_
    refine lv_icmp_ne (tgt := 74) hx hb dX4_readPath_43 (by decide) (fun c_160 => ?_) (fun c_160 => ?_)
    · skip
      have tc_160 : ¬ z_159.toInt = 2 := fun h => c_160 ((fa_eq _ _).mpr h)
      refine lv_aload_n hx hb dX4_readPath_74 rfl (lv_at hl 1 rfl) ?_
      refine lv_iconst (v := 0) hx hb dX4_readPath_75 (by decide) ?_
      refine lv_aload_n hx hb dX4_readPath_76 rfl (lv_at hl 1 rfl) ?_
      refine t_getr cf_2 hx hb hts hown hK hT h_a (k := 8) (P := fun q => τ q = 7) rfl (fun _ h9 => h9) fl_X4_22 (fun _ h9 => h9) dX4_readPath_77 (fun q_161 eq_161 hq_161 => ?_)
      have w_162 : q_1 = q_161 := Option.some.inj (eq_1.symm.trans ((hF.r h_a (by decide) rfl _).symm.trans eq_161))
      subst w_162
      refine t_geti cf_7 hx hb hts hown hK hT hq_1 (k := 6) rfl fl_X4_151 (fun _ h9 => h9) dX4_readPath_80 (fun z_163 ez_163 rz_163 => ?_)
      have ez_163 : z_163 = G_158.1 q_1 6 := ez_163
      have rz_163 : 0 ≤ z_163.toInt ∧ z_163.toInt ≤ 6 := rz_163
      refine lv_iconst (v := 1) hx hb dX4_readPath_83 (by decide) ?_
      refine lv_isub hx hb dX4_readPath_84 ?_
      refine lv_topi (fun z_164 ez_164 => ?_)
      have tz_164 : z_164.toInt = z_163.toInt - 1 := sub_t ez_164 (show -2147483648 ≤ z_163.toInt - 1 by omega) (show z_163.toInt - 1 < 2147483648 by omega)
      refine t_calli (runV (As := [.int 0, .int z_164]) (rest := []) ⟨hx, hb, hml, hown, hts⟩ (t_X4_takeNumber l D cy base τ G_158 a h_a 0 z_164) sV_X4_168 hK (t_recv cf_2 hK hT h_a) ⟨Nat.le_trans hZ hS.1, hT⟩ ⟨Nat.le_of_ble_eq_true rfl, Nat.le_of_ble_eq_true rfl⟩ rfl hl.1 rfl (Nat.le_of_ble_eq_true rfl) dX4_readPath_85 ⟨Nat.le_of_ble_eq_true rfl, Nat.le_of_ble_eq_true rfl⟩) hS (fun r_165 G_165 H locs hF_165 hr_165 hT hS => ?_)
      have hF := hF.tr hF_165 rfl
      have hr_165_p0 := hr_165
      have hr_165_p0 : r_165.toInt = (0 : Int) ∨ ((0 : Int) ≤ r_165.toInt ∧ r_165.toInt ≤ z_164.toInt) := hr_165_p0
      refine lv_istore_n (lv' := [(2, .int r_165), (1, .int r_158), (0, .ref a)]) hx hb dX4_readPath_88 rfl hl (by decide) rfl (fun ls hl => ?_)
      refine lv_aload_n hx hb dX4_readPath_89 rfl (lv_at hl 2 rfl) ?_
      refine va_ldcS (tx := "days") hx hb hown (hSS.2.1 1 (by decide)) dX4_readPath_90 ?_
      refine lv_iconst (v := 1) hx hb dX4_readPath_92 (by decide) ?_
      refine lv_bipush (v := 30) hx hb dX4_readPath_93 (by decide) ?_
      refine t_calli (runVs (As := [.ref (adK 1), .int 1, .int 30]) (rest := []) ⟨hx, hb, hml, hown, hts⟩ (t_X4_takeNamed l D cy base τ G_165 adK adV 1 (by decide) a h_a (1 : Int32) (30 : Int32)) sV_X4_116 hK hSS hS (t_recv cf_2 hK hT h_a) ⟨Nat.le_trans hZ hS.1, hT⟩ ⟨Nat.le_of_ble_eq_true rfl, Nat.le_of_ble_eq_true rfl⟩ rfl hl.1 rfl (Nat.le_of_ble_eq_true rfl) dX4_readPath_95 ⟨Nat.le_of_ble_eq_true rfl, Nat.le_of_ble_eq_true rfl⟩) hS (fun r_166 G_166 H locs hF_166 hr_166 hT hS => ?_)
      have hF := hF.tr hF_166 rfl
      have hr_166_p0 := hr_166
      have hr_166_p0 : r_166.toInt = (1 : Int) ∨ ((1 : Int) ≤ r_166.toInt ∧ r_166.toInt ≤ (30 : Int)) := hr_166_p0
      refine lv_istore_n (lv' := [(3, .int r_166), (2, .int r_165), (1, .int r_158), (0, .ref a)]) hx hb dX4_readPath_98 rfl hl (by decide) rfl (fun ls hl => ?_)
      refine lv_aload_n hx hb dX4_readPath_99 rfl (lv_at hl 3 rfl) ?_
      refine t_geti cf_2 hx hb hts hown hK hT h_a (k := 0) rfl fl_X4_36 (fun _ h9 => h9) dX4_readPath_100 (fun z_167 ez_167 rz_167 => ?_)
      have ez_167 : z_167 = G_166.1 a 0 := ez_167
      refine lv_if_ne (tgt := 161) hx hb dX4_readPath_103 (by decide) (fun c_168 => ?_) (fun c_168 => ?_)
      · skip
        have tc_168 : ¬ z_167.toInt = 0 := fun h => c_168 ((fa_eq _ _).mpr h)
        exact ret_v hx hb hr hlocks ⟨⟨hS.1, hS.2.1⟩, G_166, hF, ⟨rfl, trivial⟩, hT⟩ hS.2.2 (Nat.le_of_ble_eq_true rfl) (Nat.le_of_ble_eq_true rfl) dX4_readPath_161
      · skip
        have tc_168 : z_167.toInt = 0 := (fa_eq _ _).mp c_168
        refine lv_aload_n hx hb dX4_readPath_106 rfl (lv_at hl 3 rfl) ?_
        refine t_getr cf_2 hx hb hts hown hK hT h_a (k := 8) (P := fun q => τ q = 7) rfl (fun _ h9 => h9) fl_X4_22 (fun _ h9 => h9) dX4_readPath_107 (fun q_169 eq_169 hq_169 => ?_)
        have w_170 : q_1 = q_169 := Option.some.inj (eq_1.symm.trans ((hF.r h_a (by decide) rfl _).symm.trans eq_169))
        subst w_170
        refine lv_iload_n hx hb dX4_readPath_110 rfl (lv_at hl 2 rfl) ?_
        refine lv_iload_n hx hb dX4_readPath_111 rfl (lv_at hl 1 rfl) ?_
        refine pu_calli (runV (As := [.int r_158, .int r_165]) (rest := []) ⟨hx, hb, hml, hown, hts⟩ (t_X2_hasTwo l D cy base τ G_166 q_1 hq_1 r_158 r_165) sV_X4_203 hK (t_recv cf_7 hK hT hq_1) ⟨Nat.le_trans hZ hS.1, hT⟩ ⟨Nat.le_of_ble_eq_true rfl, Nat.le_of_ble_eq_true rfl⟩ rfl hl.1 rfl (Nat.le_of_ble_eq_true rfl) dX4_readPath_112 ⟨Nat.le_of_ble_eq_true rfl, Nat.le_of_ble_eq_true rfl⟩) (fun r_171 hr_171 => ?_)
        have hr_171_c := hr_171
        rcases hr_171_c with hr_171_0 | hr_171_1
        · skip
          obtain ⟨er_171, hr_171_0_f0, hr_171_0_f1, hr_171_0_f2, hr_171_0_f3⟩ := hr_171_0
          have hr_171_0_f0 : 0 ≤ r_158.toInt := hr_171_0_f0
          have hr_171_0_f1 : r_158.toInt ≤ 5 := hr_171_0_f1
          have hr_171_0_f2 : 0 ≤ r_165.toInt := hr_171_0_f2
          have hr_171_0_f3 : r_165.toInt ≤ 5 := hr_171_0_f3
          subst er_171
          refine W.eq (g2 := F0 m 115 ls [.int 1]) rfl ?_
          refine lv_if_eq (tgt := 161) hx hb dX4_readPath_115 (by decide) (fun c_172 => absurd c_172 (by decide)) (fun _ => ?_)
          refine lv_aload_n hx hb dX4_readPath_118 rfl (lv_at hl 3 rfl) ?_
          refine t_getr cf_2 hx hb hts hown hK hT h_a (k := 8) (P := fun q => τ q = 7) rfl (fun _ h9 => h9) fl_X4_22 (fun _ h9 => h9) dX4_readPath_119 (fun q_173 eq_173 hq_173 => ?_)
          have w_174 : q_1 = q_173 := Option.some.inj (eq_1.symm.trans ((hF.r h_a (by decide) rfl _).symm.trans eq_173))
          subst w_174
          refine t_getr cf_7 hx hb hts hown hK hT hq_1 (k := 20) (P := fun q => τ q = 29) rfl (fun _ h9 => h9) fl_X4_207 (fun _ h9 => h9) dX4_readPath_122 (fun q_175 eq_175 hq_175 => ?_)
          have eq_175 := (hF.r hq_1 (by decide) rfl _).symm.trans eq_175
          refine lv_iload_n hx hb dX4_readPath_125 rfl (lv_at hl 2 rfl) ?_
          refine lv_bipush (v := 6) hx hb dX4_readPath_126 (by decide) ?_
          refine lv_imul hx hb dX4_readPath_128 ?_
          refine lv_topi (fun z_176 ez_176 => ?_)
          have tz_176 : z_176.toInt = r_158.toInt * 6 := mul_t ez_176 (show -2147483648 ≤ r_158.toInt * 6 by omega) (show r_158.toInt * 6 < 2147483648 by omega)
          refine lv_iload_n hx hb dX4_readPath_129 rfl (lv_at hl 1 rfl) ?_
          refine lv_iadd hx hb dX4_readPath_130 ?_
          refine lv_topi (fun z_177 ez_177 => ?_)
          have tz_177 : z_177.toInt = z_176.toInt + r_165.toInt := add_t ez_177 (show -2147483648 ≤ z_176.toInt + r_165.toInt by omega) (show z_176.toInt + r_165.toInt < 2147483648 by omega)
          refine lv_iload_n hx hb dX4_readPath_131 rfl (lv_at hl 0 rfl) ?_
          refine t_iast (n := 36) (i := z_177) (x := r_166) rfl (by decide) hx hb hK hT hS hq_175 (hT.len hq_175 (by decide)) ⟨by omega, by omega⟩ trivial dX4_readPath_132 (fun H locs G_178 eG_178 hT hS => ?_)
          have hF := hF.wI eG_178 hq_175 rfl
          refine lv_aload_n hx hb dX4_readPath_133 rfl (lv_at hl 3 rfl) ?_
          refine t_getr cf_2 hx hb hts hown hK hT h_a (k := 8) (P := fun q => τ q = 7) rfl (fun _ h9 => h9) fl_X4_22 (fun _ h9 => h9) dX4_readPath_134 (fun q_179 eq_179 hq_179 => ?_)
          have w_180 : q_1 = q_179 := Option.some.inj (eq_1.symm.trans ((hF.r h_a (by decide) rfl _).symm.trans eq_179))
          subst w_180
          refine t_getr cf_7 hx hb hts hown hK hT hq_1 (k := 20) (P := fun q => τ q = 29) rfl (fun _ h9 => h9) fl_X4_207 (fun _ h9 => h9) dX4_readPath_137 (fun q_181 eq_181 hq_181 => ?_)
          have w_182 : q_175 = q_181 := Option.some.inj (eq_175.symm.trans ((hF.r hq_1 (by decide) rfl _).symm.trans eq_181))
          subst w_182
          refine lv_iload_n hx hb dX4_readPath_140 rfl (lv_at hl 1 rfl) ?_
          refine lv_bipush (v := 6) hx hb dX4_readPath_141 (by decide) ?_
          refine lv_imul hx hb dX4_readPath_143 ?_
          refine lv_topi (fun z_183 ez_183 => ?_)
          have tz_183 : z_183.toInt = r_165.toInt * 6 := mul_t ez_183 (show -2147483648 ≤ r_165.toInt * 6 by omega) (show r_165.toInt * 6 < 2147483648 by omega)
          refine lv_iload_n hx hb dX4_readPath_144 rfl (lv_at hl 2 rfl) ?_
          refine lv_iadd hx hb dX4_readPath_145 ?_
          refine lv_topi (fun z_184 ez_184 => ?_)
          have tz_184 : z_184.toInt = z_183.toInt + r_158.toInt := add_t ez_184 (show -2147483648 ≤ z_183.toInt + r_158.toInt by omega) (show z_183.toInt + r_158.toInt < 2147483648 by omega)
          refine lv_iload_n hx hb dX4_readPath_146 rfl (lv_at hl 0 rfl) ?_
          refine t_iast (n := 36) (i := z_184) (x := r_166) rfl (by decide) hx hb hK hT hS hq_175 (hT.len hq_175 (by decide)) ⟨by omega, by omega⟩ trivial dX4_readPath_147 (fun H locs G_185 eG_185 hT hS => ?_)
          have hF := hF.wI eG_185 hq_175 rfl
          refine lv_aload_n hx hb dX4_readPath_148 rfl (lv_at hl 3 rfl) ?_
          refine t_getr cf_2 hx hb hts hown hK hT h_a (k := 8) (P := fun q => τ q = 7) rfl (fun _ h9 => h9) fl_X4_22 (fun _ h9 => h9) dX4_readPath_149 (fun q_186 eq_186 hq_186 => ?_)
          have w_187 : q_1 = q_186 := Option.some.inj (eq_1.symm.trans ((hF.r h_a (by decide) rfl _).symm.trans eq_186))
          subst w_187
          refine lv_dup hx hb dX4_readPath_152 rfl ?_
          refine t_geti cf_7 hx hb hts hown hK hT hq_1 (k := 7) rfl fl_X4_194 (fun _ h9 => h9) dX4_readPath_153 (fun z_188 ez_188 rz_188 => ?_)
          have ez_188 : z_188 = G_185.1 q_1 7 := ez_188
          refine lv_iconst (v := 1) hx hb dX4_readPath_156 (by decide) ?_
          refine lv_iadd hx hb dX4_readPath_157 ?_
          refine lv_topi (fun z_189 ez_189 => ?_)
          refine t_puti (x := z_189) cf_7 hx hb hts hown hK hT hS hq_1 (k := 7) rfl trivial fl_X4_194 (fun _ h9 => h9) rfl rfl rfl dX4_readPath_158 (fun H locs G_190 eG_190 hT hS => ?_)
          have hF := hF.wI eG_190 hq_1 rfl
          exact ret_v hx hb hr hlocks ⟨⟨hS.1, hS.2.1⟩, G_190, hF, ⟨rfl, trivial⟩, hT⟩ hS.2.2 (Nat.le_of_ble_eq_true rfl) (Nat.le_of_ble_eq_true rfl) dX4_readPath_161
        · skip
          have er_171 := hr_171_1
          subst er_171
          refine W.eq (g2 := F0 m 115 ls [.int 0]) rfl ?_
          refine lv_if_eq (tgt := 161) hx hb dX4_readPath_115 (by decide) (fun _ => ?_) (fun c_191 => absurd (by decide) c_191)
          exact ret_v hx hb hr hlocks ⟨⟨hS.1, hS.2.1⟩, G_166, hF, ⟨rfl, trivial⟩, hT⟩ hS.2.2 (Nat.le_of_ble_eq_true rfl) (Nat.le_of_ble_eq_true rfl) dX4_readPath_161
    · skip
      have tc_160 : z_159.toInt = 2 := (fa_eq _ _).mp c_160
      refine lv_aload_n hx hb dX4_readPath_46 rfl (lv_at hl 1 rfl) ?_
      refine t_geti cf_2 hx hb hts hown hK hT h_a (k := 7) rfl fl_X4_197 (fun _ h9 => h9) dX4_readPath_47 (fun z_192 ez_192 rz_192 => ?_)
      have ez_192 : z_192 = G_158.1 a 7 := ez_192
      refine lv_iload_n hx hb dX4_readPath_50 rfl (lv_at hl 0 rfl) ?_
      refine lv_icmp_eq (tgt := 69) hx hb dX4_readPath_51 (by decide) (fun c_193 => ?_) (fun c_193 => ?_)
      · skip
        have tc_193 : z_192.toInt = r_158.toInt := (fa_eq _ _).mp c_193
        refine lv_aload_n hx hb dX4_readPath_69 rfl (lv_at hl 1 rfl) ?_
        refine lv_iconst (v := 2) hx hb dX4_readPath_70 (by decide) ?_
        obtain ⟨z_194, ez_194⟩ : ∃ y : Int32, y = G_158.1 a 0 := ⟨_, rfl⟩
        refine t_callv (runV (As := [.int 2]) (rest := []) ⟨hx, hb, hml, hown, hts⟩ (t_X4_refuse l D cy base τ G_158 a h_a 2 (by decide) z_194 ez_194) sV_X4_79 hK (t_recv cf_2 hK hT h_a) ⟨Nat.le_trans hZ hS.1, hT⟩ ⟨Nat.le_of_ble_eq_true rfl, Nat.le_of_ble_eq_true rfl⟩ rfl hl.1 rfl (Nat.le_of_ble_eq_true rfl) dX4_readPath_71 ⟨Nat.le_of_ble_eq_true rfl, Nat.le_of_ble_eq_true rfl⟩) hS (fun G_195 H locs hF_195 hr_195 hT hS => ?_)
        have hF := hF.tr hF_195 rfl
        have hr_195_p0 := hr_195
        obtain ⟨z_196, ez_196, hr_195_p0⟩ : ∃ z_196 : Int32, z_196 = G_195.1 a 0 ∧ (z_196.toInt ≠ 0) := ⟨_, rfl, hr_195_p0⟩
        refine lv_aload_n hx hb dX4_readPath_74 rfl (lv_at hl 1 rfl) ?_
        refine lv_iconst (v := 0) hx hb dX4_readPath_75 (by decide) ?_
        refine lv_aload_n hx hb dX4_readPath_76 rfl (lv_at hl 1 rfl) ?_
        refine t_getr cf_2 hx hb hts hown hK hT h_a (k := 8) (P := fun q => τ q = 7) rfl (fun _ h9 => h9) fl_X4_22 (fun _ h9 => h9) dX4_readPath_77 (fun q_197 eq_197 hq_197 => ?_)
        have w_198 : q_1 = q_197 := Option.some.inj (eq_1.symm.trans ((hF.r h_a (by decide) rfl _).symm.trans eq_197))
        subst w_198
        refine t_geti cf_7 hx hb hts hown hK hT hq_1 (k := 6) rfl fl_X4_151 (fun _ h9 => h9) dX4_readPath_80 (fun z_199 ez_199 rz_199 => ?_)
        have ez_199 : z_199 = G_195.1 q_1 6 := ez_199
        have rz_199 : 0 ≤ z_199.toInt ∧ z_199.toInt ≤ 6 := rz_199
        refine lv_iconst (v := 1) hx hb dX4_readPath_83 (by decide) ?_
        refine lv_isub hx hb dX4_readPath_84 ?_
        refine lv_topi (fun z_200 ez_200 => ?_)
        have tz_200 : z_200.toInt = z_199.toInt - 1 := sub_t ez_200 (show -2147483648 ≤ z_199.toInt - 1 by omega) (show z_199.toInt - 1 < 2147483648 by omega)
        refine t_calli (runV (As := [.int 0, .int z_200]) (rest := []) ⟨hx, hb, hml, hown, hts⟩ (t_X4_takeNumber l D cy base τ G_195 a h_a 0 z_200) sV_X4_168 hK (t_recv cf_2 hK hT h_a) ⟨Nat.le_trans hZ hS.1, hT⟩ ⟨Nat.le_of_ble_eq_true rfl, Nat.le_of_ble_eq_true rfl⟩ rfl hl.1 rfl (Nat.le_of_ble_eq_true rfl) dX4_readPath_85 ⟨Nat.le_of_ble_eq_true rfl, Nat.le_of_ble_eq_true rfl⟩) hS (fun r_201 G_201 H locs hF_201 hr_201 hT hS => ?_)
        have hF := hF.tr hF_201 rfl
        have hr_201_p0 := hr_201
        have hr_201_p0 : r_201.toInt = (0 : Int) ∨ ((0 : Int) ≤ r_201.toInt ∧ r_201.toInt ≤ z_200.toInt) := hr_201_p0
        refine lv_istore_n (lv' := [(2, .int r_201), (1, .int r_158), (0, .ref a)]) hx hb dX4_readPath_88 rfl hl (by decide) rfl (fun ls hl => ?_)
        refine lv_aload_n hx hb dX4_readPath_89 rfl (lv_at hl 2 rfl) ?_
        refine va_ldcS (tx := "days") hx hb hown (hSS.2.1 1 (by decide)) dX4_readPath_90 ?_
        refine lv_iconst (v := 1) hx hb dX4_readPath_92 (by decide) ?_
        refine lv_bipush (v := 30) hx hb dX4_readPath_93 (by decide) ?_
        refine t_calli (runVs (As := [.ref (adK 1), .int 1, .int 30]) (rest := []) ⟨hx, hb, hml, hown, hts⟩ (t_X4_takeNamed l D cy base τ G_201 adK adV 1 (by decide) a h_a (1 : Int32) (30 : Int32)) sV_X4_116 hK hSS hS (t_recv cf_2 hK hT h_a) ⟨Nat.le_trans hZ hS.1, hT⟩ ⟨Nat.le_of_ble_eq_true rfl, Nat.le_of_ble_eq_true rfl⟩ rfl hl.1 rfl (Nat.le_of_ble_eq_true rfl) dX4_readPath_95 ⟨Nat.le_of_ble_eq_true rfl, Nat.le_of_ble_eq_true rfl⟩) hS (fun r_202 G_202 H locs hF_202 hr_202 hT hS => ?_)
        have hF := hF.tr hF_202 rfl
        have hr_202_p0 := hr_202
        have hr_202_p0 : r_202.toInt = (1 : Int) ∨ ((1 : Int) ≤ r_202.toInt ∧ r_202.toInt ≤ (30 : Int)) := hr_202_p0
        refine lv_istore_n (lv' := [(3, .int r_202), (2, .int r_201), (1, .int r_158), (0, .ref a)]) hx hb dX4_readPath_98 rfl hl (by decide) rfl (fun ls hl => ?_)
        refine lv_aload_n hx hb dX4_readPath_99 rfl (lv_at hl 3 rfl) ?_
        refine t_geti cf_2 hx hb hts hown hK hT h_a (k := 0) rfl fl_X4_36 (fun _ h9 => h9) dX4_readPath_100 (fun z_203 ez_203 rz_203 => ?_)
        have ez_203 : z_203 = G_202.1 a 0 := ez_203
        refine lv_if_ne (tgt := 161) hx hb dX4_readPath_103 (by decide) (fun c_204 => ?_) (fun c_204 => ?_)
        · skip
          have tc_204 : ¬ z_203.toInt = 0 := fun h => c_204 ((fa_eq _ _).mpr h)
          exact ret_v hx hb hr hlocks ⟨⟨hS.1, hS.2.1⟩, G_202, hF, ⟨rfl, trivial⟩, hT⟩ hS.2.2 (Nat.le_of_ble_eq_true rfl) (Nat.le_of_ble_eq_true rfl) dX4_readPath_161
        · skip
          have tc_204 : z_203.toInt = 0 := (fa_eq _ _).mp c_204
          refine lv_aload_n hx hb dX4_readPath_106 rfl (lv_at hl 3 rfl) ?_
          refine t_getr cf_2 hx hb hts hown hK hT h_a (k := 8) (P := fun q => τ q = 7) rfl (fun _ h9 => h9) fl_X4_22 (fun _ h9 => h9) dX4_readPath_107 (fun q_205 eq_205 hq_205 => ?_)
          have w_206 : q_1 = q_205 := Option.some.inj (eq_1.symm.trans ((hF.r h_a (by decide) rfl _).symm.trans eq_205))
          subst w_206
          refine lv_iload_n hx hb dX4_readPath_110 rfl (lv_at hl 2 rfl) ?_
          refine lv_iload_n hx hb dX4_readPath_111 rfl (lv_at hl 1 rfl) ?_
          refine pu_calli (runV (As := [.int r_158, .int r_201]) (rest := []) ⟨hx, hb, hml, hown, hts⟩ (t_X2_hasTwo l D cy base τ G_202 q_1 hq_1 r_158 r_201) sV_X4_203 hK (t_recv cf_7 hK hT hq_1) ⟨Nat.le_trans hZ hS.1, hT⟩ ⟨Nat.le_of_ble_eq_true rfl, Nat.le_of_ble_eq_true rfl⟩ rfl hl.1 rfl (Nat.le_of_ble_eq_true rfl) dX4_readPath_112 ⟨Nat.le_of_ble_eq_true rfl, Nat.le_of_ble_eq_true rfl⟩) (fun r_207 hr_207 => ?_)
          have hr_207_c := hr_207
          rcases hr_207_c with hr_207_0 | hr_207_1
          · skip
            obtain ⟨er_207, hr_207_0_f0, hr_207_0_f1, hr_207_0_f2, hr_207_0_f3⟩ := hr_207_0
            have hr_207_0_f0 : 0 ≤ r_158.toInt := hr_207_0_f0
            have hr_207_0_f1 : r_158.toInt ≤ 5 := hr_207_0_f1
            have hr_207_0_f2 : 0 ≤ r_201.toInt := hr_207_0_f2
            have hr_207_0_f3 : r_201.toInt ≤ 5 := hr_207_0_f3
            subst er_207
            refine W.eq (g2 := F0 m 115 ls [.int 1]) rfl ?_
            refine lv_if_eq (tgt := 161) hx hb dX4_readPath_115 (by decide) (fun c_208 => absurd c_208 (by decide)) (fun _ => ?_)
            refine lv_aload_n hx hb dX4_readPath_118 rfl (lv_at hl 3 rfl) ?_
            refine t_getr cf_2 hx hb hts hown hK hT h_a (k := 8) (P := fun q => τ q = 7) rfl (fun _ h9 => h9) fl_X4_22 (fun _ h9 => h9) dX4_readPath_119 (fun q_209 eq_209 hq_209 => ?_)
            have w_210 : q_1 = q_209 := Option.some.inj (eq_1.symm.trans ((hF.r h_a (by decide) rfl _).symm.trans eq_209))
            subst w_210
            refine t_getr cf_7 hx hb hts hown hK hT hq_1 (k := 20) (P := fun q => τ q = 29) rfl (fun _ h9 => h9) fl_X4_207 (fun _ h9 => h9) dX4_readPath_122 (fun q_211 eq_211 hq_211 => ?_)
            have eq_211 := (hF.r hq_1 (by decide) rfl _).symm.trans eq_211
            refine lv_iload_n hx hb dX4_readPath_125 rfl (lv_at hl 2 rfl) ?_
            refine lv_bipush (v := 6) hx hb dX4_readPath_126 (by decide) ?_
            refine lv_imul hx hb dX4_readPath_128 ?_
            refine lv_topi (fun z_212 ez_212 => ?_)
            have tz_212 : z_212.toInt = r_158.toInt * 6 := mul_t ez_212 (show -2147483648 ≤ r_158.toInt * 6 by omega) (show r_158.toInt * 6 < 2147483648 by omega)
            refine lv_iload_n hx hb dX4_readPath_129 rfl (lv_at hl 1 rfl) ?_
            refine lv_iadd hx hb dX4_readPath_130 ?_
            refine lv_topi (fun z_213 ez_213 => ?_)
            have tz_213 : z_213.toInt = z_212.toInt + r_201.toInt := add_t ez_213 (show -2147483648 ≤ z_212.toInt + r_201.toInt by omega) (show z_212.toInt + r_201.toInt < 2147483648 by omega)
            refine lv_iload_n hx hb dX4_readPath_131 rfl (lv_at hl 0 rfl) ?_
            refine t_iast (n := 36) (i := z_213) (x := r_202) rfl (by decide) hx hb hK hT hS hq_211 (hT.len hq_211 (by decide)) ⟨by omega, by omega⟩ trivial dX4_readPath_132 (fun H locs G_214 eG_214 hT hS => ?_)
            have hF := hF.wI eG_214 hq_211 rfl
            refine lv_aload_n hx hb dX4_readPath_133 rfl (lv_at hl 3 rfl) ?_
            refine t_getr cf_2 hx hb hts hown hK hT h_a (k := 8) (P := fun q => τ q = 7) rfl (fun _ h9 => h9) fl_X4_22 (fun _ h9 => h9) dX4_readPath_134 (fun q_215 eq_215 hq_215 => ?_)
            have w_216 : q_1 = q_215 := Option.some.inj (eq_1.symm.trans ((hF.r h_a (by decide) rfl _).symm.trans eq_215))
            subst w_216
            refine t_getr cf_7 hx hb hts hown hK hT hq_1 (k := 20) (P := fun q => τ q = 29) rfl (fun _ h9 => h9) fl_X4_207 (fun _ h9 => h9) dX4_readPath_137 (fun q_217 eq_217 hq_217 => ?_)
            have w_218 : q_211 = q_217 := Option.some.inj (eq_211.symm.trans ((hF.r hq_1 (by decide) rfl _).symm.trans eq_217))
            subst w_218
            refine lv_iload_n hx hb dX4_readPath_140 rfl (lv_at hl 1 rfl) ?_
            refine lv_bipush (v := 6) hx hb dX4_readPath_141 (by decide) ?_
            refine lv_imul hx hb dX4_readPath_143 ?_
            refine lv_topi (fun z_219 ez_219 => ?_)
            have tz_219 : z_219.toInt = r_201.toInt * 6 := mul_t ez_219 (show -2147483648 ≤ r_201.toInt * 6 by omega) (show r_201.toInt * 6 < 2147483648 by omega)
            refine lv_iload_n hx hb dX4_readPath_144 rfl (lv_at hl 2 rfl) ?_
            refine lv_iadd hx hb dX4_readPath_145 ?_
            refine lv_topi (fun z_220 ez_220 => ?_)
            have tz_220 : z_220.toInt = z_219.toInt + r_158.toInt := add_t ez_220 (show -2147483648 ≤ z_219.toInt + r_158.toInt by omega) (show z_219.toInt + r_158.toInt < 2147483648 by omega)
            refine lv_iload_n hx hb dX4_readPath_146 rfl (lv_at hl 0 rfl) ?_
            refine t_iast (n := 36) (i := z_220) (x := r_202) rfl (by decide) hx hb hK hT hS hq_211 (hT.len hq_211 (by decide)) ⟨by omega, by omega⟩ trivial dX4_readPath_147 (fun H locs G_221 eG_221 hT hS => ?_)
            have hF := hF.wI eG_221 hq_211 rfl
            refine lv_aload_n hx hb dX4_readPath_148 rfl (lv_at hl 3 rfl) ?_
            refine t_getr cf_2 hx hb hts hown hK hT h_a (k := 8) (P := fun q => τ q = 7) rfl (fun _ h9 => h9) fl_X4_22 (fun _ h9 => h9) dX4_readPath_149 (fun q_222 eq_222 hq_222 => ?_)
            have w_223 : q_1 = q_222 := Option.some.inj (eq_1.symm.trans ((hF.r h_a (by decide) rfl _).symm.trans eq_222))
            subst w_223
            refine lv_dup hx hb dX4_readPath_152 rfl ?_
            refine t_geti cf_7 hx hb hts hown hK hT hq_1 (k := 7) rfl fl_X4_194 (fun _ h9 => h9) dX4_readPath_153 (fun z_224 ez_224 rz_224 => ?_)
            have ez_224 : z_224 = G_221.1 q_1 7 := ez_224
            refine lv_iconst (v := 1) hx hb dX4_readPath_156 (by decide) ?_
            refine lv_iadd hx hb dX4_readPath_157 ?_
            refine lv_topi (fun z_225 ez_225 => ?_)
            refine t_puti (x := z_225) cf_7 hx hb hts hown hK hT hS hq_1 (k := 7) rfl trivial fl_X4_194 (fun _ h9 => h9) rfl rfl rfl dX4_readPath_158 (fun H locs G_226 eG_226 hT hS => ?_)
            have hF := hF.wI eG_226 hq_1 rfl
            exact ret_v hx hb hr hlocks ⟨⟨hS.1, hS.2.1⟩, G_226, hF, ⟨rfl, trivial⟩, hT⟩ hS.2.2 (Nat.le_of_ble_eq_true rfl) (Nat.le_of_ble_eq_true rfl) dX4_readPath_161
          · skip
            have er_207 := hr_207_1
            subst er_207
            refine W.eq (g2 := F0 m 115 ls [.int 0]) rfl ?_
            refine lv_if_eq (tgt := 161) hx hb dX4_readPath_115 (by decide) (fun _ => ?_) (fun c_227 => absurd (by decide) c_227)
            exact ret_v hx hb hr hlocks ⟨⟨hS.1, hS.2.1⟩, G_202, hF, ⟨rfl, trivial⟩, hT⟩ hS.2.2 (Nat.le_of_ble_eq_true rfl) (Nat.le_of_ble_eq_true rfl) dX4_readPath_161
      · skip
        have tc_193 : ¬ z_192.toInt = r_158.toInt := fun h => c_193 ((fa_eq _ _).mpr h)
        refine lv_aload_n hx hb dX4_readPath_54 rfl (lv_at hl 1 rfl) ?_
        refine t_getr cf_2 hx hb hts hown hK hT h_a (k := 8) (P := fun q => τ q = 7) rfl (fun _ h9 => h9) fl_X4_22 (fun _ h9 => h9) dX4_readPath_55 (fun q_228 eq_228 hq_228 => ?_)
        have w_229 : q_1 = q_228 := Option.some.inj (eq_1.symm.trans ((hF.r h_a (by decide) rfl _).symm.trans eq_228))
        subst w_229
        refine lv_iload_n hx hb dX4_readPath_58 rfl (lv_at hl 0 rfl) ?_
        refine lv_aload_n hx hb dX4_readPath_59 rfl (lv_at hl 1 rfl) ?_
        refine t_geti cf_2 hx hb hts hown hK hT h_a (k := 7) rfl fl_X4_197 (fun _ h9 => h9) dX4_readPath_60 (fun z_230 ez_230 rz_230 => ?_)
        have w_231 : z_192 = z_230 := ez_192.trans ez_230.symm
        subst w_231
        refine pu_calli (runV (As := [.int r_158, .int z_192]) (rest := []) ⟨hx, hb, hml, hown, hts⟩ (t_X2_pathBetween l D cy base τ G_158 q_1 hq_1 r_158 z_192) sV_X4_200 hK (t_recv cf_7 hK hT hq_1) ⟨Nat.le_trans hZ hS.1, hT⟩ ⟨Nat.le_of_ble_eq_true rfl, Nat.le_of_ble_eq_true rfl⟩ rfl hl.1 rfl (Nat.le_of_ble_eq_true rfl) dX4_readPath_63 ⟨Nat.le_of_ble_eq_true rfl, Nat.le_of_ble_eq_true rfl⟩) (fun r_232 hr_232 => ?_)
        refine lv_if_eq (tgt := 74) hx hb dX4_readPath_66 (by decide) (fun c_233 => ?_) (fun c_233 => ?_)
        · skip
          have tc_233 : r_232.toInt = 0 := (fa_eq _ _).mp c_233
          refine lv_aload_n hx hb dX4_readPath_74 rfl (lv_at hl 1 rfl) ?_
          refine lv_iconst (v := 0) hx hb dX4_readPath_75 (by decide) ?_
          refine lv_aload_n hx hb dX4_readPath_76 rfl (lv_at hl 1 rfl) ?_
          refine t_getr cf_2 hx hb hts hown hK hT h_a (k := 8) (P := fun q => τ q = 7) rfl (fun _ h9 => h9) fl_X4_22 (fun _ h9 => h9) dX4_readPath_77 (fun q_234 eq_234 hq_234 => ?_)
          have w_235 : q_1 = q_234 := Option.some.inj (eq_1.symm.trans ((hF.r h_a (by decide) rfl _).symm.trans eq_234))
          subst w_235
          refine t_geti cf_7 hx hb hts hown hK hT hq_1 (k := 6) rfl fl_X4_151 (fun _ h9 => h9) dX4_readPath_80 (fun z_236 ez_236 rz_236 => ?_)
          have ez_236 : z_236 = G_158.1 q_1 6 := ez_236
          have rz_236 : 0 ≤ z_236.toInt ∧ z_236.toInt ≤ 6 := rz_236
          refine lv_iconst (v := 1) hx hb dX4_readPath_83 (by decide) ?_
          refine lv_isub hx hb dX4_readPath_84 ?_
          refine lv_topi (fun z_237 ez_237 => ?_)
          have tz_237 : z_237.toInt = z_236.toInt - 1 := sub_t ez_237 (show -2147483648 ≤ z_236.toInt - 1 by omega) (show z_236.toInt - 1 < 2147483648 by omega)
          refine t_calli (runV (As := [.int 0, .int z_237]) (rest := []) ⟨hx, hb, hml, hown, hts⟩ (t_X4_takeNumber l D cy base τ G_158 a h_a 0 z_237) sV_X4_168 hK (t_recv cf_2 hK hT h_a) ⟨Nat.le_trans hZ hS.1, hT⟩ ⟨Nat.le_of_ble_eq_true rfl, Nat.le_of_ble_eq_true rfl⟩ rfl hl.1 rfl (Nat.le_of_ble_eq_true rfl) dX4_readPath_85 ⟨Nat.le_of_ble_eq_true rfl, Nat.le_of_ble_eq_true rfl⟩) hS (fun r_238 G_238 H locs hF_238 hr_238 hT hS => ?_)
          have hF := hF.tr hF_238 rfl
          have hr_238_p0 := hr_238
          have hr_238_p0 : r_238.toInt = (0 : Int) ∨ ((0 : Int) ≤ r_238.toInt ∧ r_238.toInt ≤ z_237.toInt) := hr_238_p0
          refine lv_istore_n (lv' := [(2, .int r_238), (1, .int r_158), (0, .ref a)]) hx hb dX4_readPath_88 rfl hl (by decide) rfl (fun ls hl => ?_)
          refine lv_aload_n hx hb dX4_readPath_89 rfl (lv_at hl 2 rfl) ?_
          refine va_ldcS (tx := "days") hx hb hown (hSS.2.1 1 (by decide)) dX4_readPath_90 ?_
          refine lv_iconst (v := 1) hx hb dX4_readPath_92 (by decide) ?_
          refine lv_bipush (v := 30) hx hb dX4_readPath_93 (by decide) ?_
          refine t_calli (runVs (As := [.ref (adK 1), .int 1, .int 30]) (rest := []) ⟨hx, hb, hml, hown, hts⟩ (t_X4_takeNamed l D cy base τ G_238 adK adV 1 (by decide) a h_a (1 : Int32) (30 : Int32)) sV_X4_116 hK hSS hS (t_recv cf_2 hK hT h_a) ⟨Nat.le_trans hZ hS.1, hT⟩ ⟨Nat.le_of_ble_eq_true rfl, Nat.le_of_ble_eq_true rfl⟩ rfl hl.1 rfl (Nat.le_of_ble_eq_true rfl) dX4_readPath_95 ⟨Nat.le_of_ble_eq_true rfl, Nat.le_of_ble_eq_true rfl⟩) hS (fun r_239 G_239 H locs hF_239 hr_239 hT hS => ?_)
          have hF := hF.tr hF_239 rfl
          have hr_239_p0 := hr_239
          have hr_239_p0 : r_239.toInt = (1 : Int) ∨ ((1 : Int) ≤ r_239.toInt ∧ r_239.toInt ≤ (30 : Int)) := hr_239_p0
          refine lv_istore_n (lv' := [(3, .int r_239), (2, .int r_238), (1, .int r_158), (0, .ref a)]) hx hb dX4_readPath_98 rfl hl (by decide) rfl (fun ls hl => ?_)
          refine lv_aload_n hx hb dX4_readPath_99 rfl (lv_at hl 3 rfl) ?_
          refine t_geti cf_2 hx hb hts hown hK hT h_a (k := 0) rfl fl_X4_36 (fun _ h9 => h9) dX4_readPath_100 (fun z_240 ez_240 rz_240 => ?_)
          have ez_240 : z_240 = G_239.1 a 0 := ez_240
          refine lv_if_ne (tgt := 161) hx hb dX4_readPath_103 (by decide) (fun c_241 => ?_) (fun c_241 => ?_)
          · skip
            have tc_241 : ¬ z_240.toInt = 0 := fun h => c_241 ((fa_eq _ _).mpr h)
            exact ret_v hx hb hr hlocks ⟨⟨hS.1, hS.2.1⟩, G_239, hF, ⟨rfl, trivial⟩, hT⟩ hS.2.2 (Nat.le_of_ble_eq_true rfl) (Nat.le_of_ble_eq_true rfl) dX4_readPath_161
          · skip
            have tc_241 : z_240.toInt = 0 := (fa_eq _ _).mp c_241
            refine lv_aload_n hx hb dX4_readPath_106 rfl (lv_at hl 3 rfl) ?_
            refine t_getr cf_2 hx hb hts hown hK hT h_a (k := 8) (P := fun q => τ q = 7) rfl (fun _ h9 => h9) fl_X4_22 (fun _ h9 => h9) dX4_readPath_107 (fun q_242 eq_242 hq_242 => ?_)
            have w_243 : q_1 = q_242 := Option.some.inj (eq_1.symm.trans ((hF.r h_a (by decide) rfl _).symm.trans eq_242))
            subst w_243
            refine lv_iload_n hx hb dX4_readPath_110 rfl (lv_at hl 2 rfl) ?_
            refine lv_iload_n hx hb dX4_readPath_111 rfl (lv_at hl 1 rfl) ?_
            refine pu_calli (runV (As := [.int r_158, .int r_238]) (rest := []) ⟨hx, hb, hml, hown, hts⟩ (t_X2_hasTwo l D cy base τ G_239 q_1 hq_1 r_158 r_238) sV_X4_203 hK (t_recv cf_7 hK hT hq_1) ⟨Nat.le_trans hZ hS.1, hT⟩ ⟨Nat.le_of_ble_eq_true rfl, Nat.le_of_ble_eq_true rfl⟩ rfl hl.1 rfl (Nat.le_of_ble_eq_true rfl) dX4_readPath_112 ⟨Nat.le_of_ble_eq_true rfl, Nat.le_of_ble_eq_true rfl⟩) (fun r_244 hr_244 => ?_)
            have hr_244_c := hr_244
            rcases hr_244_c with hr_244_0 | hr_244_1
            · skip
              obtain ⟨er_244, hr_244_0_f0, hr_244_0_f1, hr_244_0_f2, hr_244_0_f3⟩ := hr_244_0
              have hr_244_0_f0 : 0 ≤ r_158.toInt := hr_244_0_f0
              have hr_244_0_f1 : r_158.toInt ≤ 5 := hr_244_0_f1
              have hr_244_0_f2 : 0 ≤ r_238.toInt := hr_244_0_f2
              have hr_244_0_f3 : r_238.toInt ≤ 5 := hr_244_0_f3
              subst er_244
              refine W.eq (g2 := F0 m 115 ls [.int 1]) rfl ?_
              refine lv_if_eq (tgt := 161) hx hb dX4_readPath_115 (by decide) (fun c_245 => absurd c_245 (by decide)) (fun _ => ?_)
              refine lv_aload_n hx hb dX4_readPath_118 rfl (lv_at hl 3 rfl) ?_
              refine t_getr cf_2 hx hb hts hown hK hT h_a (k := 8) (P := fun q => τ q = 7) rfl (fun _ h9 => h9) fl_X4_22 (fun _ h9 => h9) dX4_readPath_119 (fun q_246 eq_246 hq_246 => ?_)
              have w_247 : q_1 = q_246 := Option.some.inj (eq_1.symm.trans ((hF.r h_a (by decide) rfl _).symm.trans eq_246))
              subst w_247
              refine t_getr cf_7 hx hb hts hown hK hT hq_1 (k := 20) (P := fun q => τ q = 29) rfl (fun _ h9 => h9) fl_X4_207 (fun _ h9 => h9) dX4_readPath_122 (fun q_248 eq_248 hq_248 => ?_)
              have eq_248 := (hF.r hq_1 (by decide) rfl _).symm.trans eq_248
              refine lv_iload_n hx hb dX4_readPath_125 rfl (lv_at hl 2 rfl) ?_
              refine lv_bipush (v := 6) hx hb dX4_readPath_126 (by decide) ?_
              refine lv_imul hx hb dX4_readPath_128 ?_
              refine lv_topi (fun z_249 ez_249 => ?_)
              have tz_249 : z_249.toInt = r_158.toInt * 6 := mul_t ez_249 (show -2147483648 ≤ r_158.toInt * 6 by omega) (show r_158.toInt * 6 < 2147483648 by omega)
              refine lv_iload_n hx hb dX4_readPath_129 rfl (lv_at hl 1 rfl) ?_
              refine lv_iadd hx hb dX4_readPath_130 ?_
              refine lv_topi (fun z_250 ez_250 => ?_)
              have tz_250 : z_250.toInt = z_249.toInt + r_238.toInt := add_t ez_250 (show -2147483648 ≤ z_249.toInt + r_238.toInt by omega) (show z_249.toInt + r_238.toInt < 2147483648 by omega)
              refine lv_iload_n hx hb dX4_readPath_131 rfl (lv_at hl 0 rfl) ?_
              refine t_iast (n := 36) (i := z_250) (x := r_239) rfl (by decide) hx hb hK hT hS hq_248 (hT.len hq_248 (by decide)) ⟨by omega, by omega⟩ trivial dX4_readPath_132 (fun H locs G_251 eG_251 hT hS => ?_)
              have hF := hF.wI eG_251 hq_248 rfl
              refine lv_aload_n hx hb dX4_readPath_133 rfl (lv_at hl 3 rfl) ?_
              refine t_getr cf_2 hx hb hts hown hK hT h_a (k := 8) (P := fun q => τ q = 7) rfl (fun _ h9 => h9) fl_X4_22 (fun _ h9 => h9) dX4_readPath_134 (fun q_252 eq_252 hq_252 => ?_)
              have w_253 : q_1 = q_252 := Option.some.inj (eq_1.symm.trans ((hF.r h_a (by decide) rfl _).symm.trans eq_252))
              subst w_253
              refine t_getr cf_7 hx hb hts hown hK hT hq_1 (k := 20) (P := fun q => τ q = 29) rfl (fun _ h9 => h9) fl_X4_207 (fun _ h9 => h9) dX4_readPath_137 (fun q_254 eq_254 hq_254 => ?_)
              have w_255 : q_248 = q_254 := Option.some.inj (eq_248.symm.trans ((hF.r hq_1 (by decide) rfl _).symm.trans eq_254))
              subst w_255
              refine lv_iload_n hx hb dX4_readPath_140 rfl (lv_at hl 1 rfl) ?_
              refine lv_bipush (v := 6) hx hb dX4_readPath_141 (by decide) ?_
              refine lv_imul hx hb dX4_readPath_143 ?_
              refine lv_topi (fun z_256 ez_256 => ?_)
              have tz_256 : z_256.toInt = r_238.toInt * 6 := mul_t ez_256 (show -2147483648 ≤ r_238.toInt * 6 by omega) (show r_238.toInt * 6 < 2147483648 by omega)
              refine lv_iload_n hx hb dX4_readPath_144 rfl (lv_at hl 2 rfl) ?_
              refine lv_iadd hx hb dX4_readPath_145 ?_
              refine lv_topi (fun z_257 ez_257 => ?_)
              have tz_257 : z_257.toInt = z_256.toInt + r_158.toInt := add_t ez_257 (show -2147483648 ≤ z_256.toInt + r_158.toInt by omega) (show z_256.toInt + r_158.toInt < 2147483648 by omega)
              refine lv_iload_n hx hb dX4_readPath_146 rfl (lv_at hl 0 rfl) ?_
              refine t_iast (n := 36) (i := z_257) (x := r_239) rfl (by decide) hx hb hK hT hS hq_248 (hT.len hq_248 (by decide)) ⟨by omega, by omega⟩ trivial dX4_readPath_147 (fun H locs G_258 eG_258 hT hS => ?_)
              have hF := hF.wI eG_258 hq_248 rfl
              refine lv_aload_n hx hb dX4_readPath_148 rfl (lv_at hl 3 rfl) ?_
              refine t_getr cf_2 hx hb hts hown hK hT h_a (k := 8) (P := fun q => τ q = 7) rfl (fun _ h9 => h9) fl_X4_22 (fun _ h9 => h9) dX4_readPath_149 (fun q_259 eq_259 hq_259 => ?_)
              have w_260 : q_1 = q_259 := Option.some.inj (eq_1.symm.trans ((hF.r h_a (by decide) rfl _).symm.trans eq_259))
              subst w_260
              refine lv_dup hx hb dX4_readPath_152 rfl ?_
              refine t_geti cf_7 hx hb hts hown hK hT hq_1 (k := 7) rfl fl_X4_194 (fun _ h9 => h9) dX4_readPath_153 (fun z_261 ez_261 rz_261 => ?_)
              have ez_261 : z_261 = G_258.1 q_1 7 := ez_261
              refine lv_iconst (v := 1) hx hb dX4_readPath_156 (by decide) ?_
              refine lv_iadd hx hb dX4_readPath_157 ?_
              refine lv_topi (fun z_262 ez_262 => ?_)
              refine t_puti (x := z_262) cf_7 hx hb hts hown hK hT hS hq_1 (k := 7) rfl trivial fl_X4_194 (fun _ h9 => h9) rfl rfl rfl dX4_readPath_158 (fun H locs G_263 eG_263 hT hS => ?_)
              have hF := hF.wI eG_263 hq_1 rfl
              exact ret_v hx hb hr hlocks ⟨⟨hS.1, hS.2.1⟩, G_263, hF, ⟨rfl, trivial⟩, hT⟩ hS.2.2 (Nat.le_of_ble_eq_true rfl) (Nat.le_of_ble_eq_true rfl) dX4_readPath_161
            · skip
              have er_244 := hr_244_1
              subst er_244
              refine W.eq (g2 := F0 m 115 ls [.int 0]) rfl ?_
              refine lv_if_eq (tgt := 161) hx hb dX4_readPath_115 (by decide) (fun _ => ?_) (fun c_264 => absurd (by decide) c_264)
              exact ret_v hx hb hr hlocks ⟨⟨hS.1, hS.2.1⟩, G_239, hF, ⟨rfl, trivial⟩, hT⟩ hS.2.2 (Nat.le_of_ble_eq_true rfl) (Nat.le_of_ble_eq_true rfl) dX4_readPath_161
        · skip
          have tc_233 : ¬ r_232.toInt = 0 := fun h => c_233 ((fa_eq _ _).mpr h)
          refine lv_aload_n hx hb dX4_readPath_69 rfl (lv_at hl 1 rfl) ?_
          refine lv_iconst (v := 2) hx hb dX4_readPath_70 (by decide) ?_
          obtain ⟨z_265, ez_265⟩ : ∃ y : Int32, y = G_158.1 a 0 := ⟨_, rfl⟩
          refine t_callv (runV (As := [.int 2]) (rest := []) ⟨hx, hb, hml, hown, hts⟩ (t_X4_refuse l D cy base τ G_158 a h_a 2 (by decide) z_265 ez_265) sV_X4_79 hK (t_recv cf_2 hK hT h_a) ⟨Nat.le_trans hZ hS.1, hT⟩ ⟨Nat.le_of_ble_eq_true rfl, Nat.le_of_ble_eq_true rfl⟩ rfl hl.1 rfl (Nat.le_of_ble_eq_true rfl) dX4_readPath_71 ⟨Nat.le_of_ble_eq_true rfl, Nat.le_of_ble_eq_true rfl⟩) hS (fun G_266 H locs hF_266 hr_266 hT hS => ?_)
          have hF := hF.tr hF_266 rfl
          have hr_266_p0 := hr_266
          obtain ⟨z_267, ez_267, hr_266_p0⟩ : ∃ z_267 : Int32, z_267 = G_266.1 a 0 ∧ (z_267.toInt ≠ 0) := ⟨_, rfl, hr_266_p0⟩
          refine lv_aload_n hx hb dX4_readPath_74 rfl (lv_at hl 1 rfl) ?_
          refine lv_iconst (v := 0) hx hb dX4_readPath_75 (by decide) ?_
          refine lv_aload_n hx hb dX4_readPath_76 rfl (lv_at hl 1 rfl) ?_
          refine t_getr cf_2 hx hb hts hown hK hT h_a (k := 8) (P := fun q => τ q = 7) rfl (fun _ h9 => h9) fl_X4_22 (fun _ h9 => h9) dX4_readPath_77 (fun q_268 eq_268 hq_268 => ?_)
          have w_269 : q_1 = q_268 := Option.some.inj (eq_1.symm.trans ((hF.r h_a (by decide) rfl _).symm.trans eq_268))
          subst w_269
          refine t_geti cf_7 hx hb hts hown hK hT hq_1 (k := 6) rfl fl_X4_151 (fun _ h9 => h9) dX4_readPath_80 (fun z_270 ez_270 rz_270 => ?_)
          have ez_270 : z_270 = G_266.1 q_1 6 := ez_270
          have rz_270 : 0 ≤ z_270.toInt ∧ z_270.toInt ≤ 6 := rz_270
          refine lv_iconst (v := 1) hx hb dX4_readPath_83 (by decide) ?_
          refine lv_isub hx hb dX4_readPath_84 ?_
          refine lv_topi (fun z_271 ez_271 => ?_)
          have tz_271 : z_271.toInt = z_270.toInt - 1 := sub_t ez_271 (show -2147483648 ≤ z_270.toInt - 1 by omega) (show z_270.toInt - 1 < 2147483648 by omega)
          refine t_calli (runV (As := [.int 0, .int z_271]) (rest := []) ⟨hx, hb, hml, hown, hts⟩ (t_X4_takeNumber l D cy base τ G_266 a h_a 0 z_271) sV_X4_168 hK (t_recv cf_2 hK hT h_a) ⟨Nat.le_trans hZ hS.1, hT⟩ ⟨Nat.le_of_ble_eq_true rfl, Nat.le_of_ble_eq_true rfl⟩ rfl hl.1 rfl (Nat.le_of_ble_eq_true rfl) dX4_readPath_85 ⟨Nat.le_of_ble_eq_true rfl, Nat.le_of_ble_eq_true rfl⟩) hS (fun r_272 G_272 H locs hF_272 hr_272 hT hS => ?_)
          have hF := hF.tr hF_272 rfl
          have hr_272_p0 := hr_272
          have hr_272_p0 : r_272.toInt = (0 : Int) ∨ ((0 : Int) ≤ r_272.toInt ∧ r_272.toInt ≤ z_271.toInt) := hr_272_p0
          refine lv_istore_n (lv' := [(2, .int r_272), (1, .int r_158), (0, .ref a)]) hx hb dX4_readPath_88 rfl hl (by decide) rfl (fun ls hl => ?_)
          refine lv_aload_n hx hb dX4_readPath_89 rfl (lv_at hl 2 rfl) ?_
          refine va_ldcS (tx := "days") hx hb hown (hSS.2.1 1 (by decide)) dX4_readPath_90 ?_
          refine lv_iconst (v := 1) hx hb dX4_readPath_92 (by decide) ?_
          refine lv_bipush (v := 30) hx hb dX4_readPath_93 (by decide) ?_
          refine t_calli (runVs (As := [.ref (adK 1), .int 1, .int 30]) (rest := []) ⟨hx, hb, hml, hown, hts⟩ (t_X4_takeNamed l D cy base τ G_272 adK adV 1 (by decide) a h_a (1 : Int32) (30 : Int32)) sV_X4_116 hK hSS hS (t_recv cf_2 hK hT h_a) ⟨Nat.le_trans hZ hS.1, hT⟩ ⟨Nat.le_of_ble_eq_true rfl, Nat.le_of_ble_eq_true rfl⟩ rfl hl.1 rfl (Nat.le_of_ble_eq_true rfl) dX4_readPath_95 ⟨Nat.le_of_ble_eq_true rfl, Nat.le_of_ble_eq_true rfl⟩) hS (fun r_273 G_273 H locs hF_273 hr_273 hT hS => ?_)
          have hF := hF.tr hF_273 rfl
          have hr_273_p0 := hr_273
          have hr_273_p0 : r_273.toInt = (1 : Int) ∨ ((1 : Int) ≤ r_273.toInt ∧ r_273.toInt ≤ (30 : Int)) := hr_273_p0
          refine lv_istore_n (lv' := [(3, .int r_273), (2, .int r_272), (1, .int r_158), (0, .ref a)]) hx hb dX4_readPath_98 rfl hl (by decide) rfl (fun ls hl => ?_)
          refine lv_aload_n hx hb dX4_readPath_99 rfl (lv_at hl 3 rfl) ?_
          refine t_geti cf_2 hx hb hts hown hK hT h_a (k := 0) rfl fl_X4_36 (fun _ h9 => h9) dX4_readPath_100 (fun z_274 ez_274 rz_274 => ?_)
          have ez_274 : z_274 = G_273.1 a 0 := ez_274
          refine lv_if_ne (tgt := 161) hx hb dX4_readPath_103 (by decide) (fun c_275 => ?_) (fun c_275 => ?_)
          · skip
            have tc_275 : ¬ z_274.toInt = 0 := fun h => c_275 ((fa_eq _ _).mpr h)
            exact ret_v hx hb hr hlocks ⟨⟨hS.1, hS.2.1⟩, G_273, hF, ⟨rfl, trivial⟩, hT⟩ hS.2.2 (Nat.le_of_ble_eq_true rfl) (Nat.le_of_ble_eq_true rfl) dX4_readPath_161
          · skip
            have tc_275 : z_274.toInt = 0 := (fa_eq _ _).mp c_275
            refine lv_aload_n hx hb dX4_readPath_106 rfl (lv_at hl 3 rfl) ?_
            refine t_getr cf_2 hx hb hts hown hK hT h_a (k := 8) (P := fun q => τ q = 7) rfl (fun _ h9 => h9) fl_X4_22 (fun _ h9 => h9) dX4_readPath_107 (fun q_276 eq_276 hq_276 => ?_)
            have w_277 : q_1 = q_276 := Option.some.inj (eq_1.symm.trans ((hF.r h_a (by decide) rfl _).symm.trans eq_276))
            subst w_277
            refine lv_iload_n hx hb dX4_readPath_110 rfl (lv_at hl 2 rfl) ?_
            refine lv_iload_n hx hb dX4_readPath_111 rfl (lv_at hl 1 rfl) ?_
            refine pu_calli (runV (As := [.int r_158, .int r_272]) (rest := []) ⟨hx, hb, hml, hown, hts⟩ (t_X2_hasTwo l D cy base τ G_273 q_1 hq_1 r_158 r_272) sV_X4_203 hK (t_recv cf_7 hK hT hq_1) ⟨Nat.le_trans hZ hS.1, hT⟩ ⟨Nat.le_of_ble_eq_true rfl, Nat.le_of_ble_eq_true rfl⟩ rfl hl.1 rfl (Nat.le_of_ble_eq_true rfl) dX4_readPath_112 ⟨Nat.le_of_ble_eq_true rfl, Nat.le_of_ble_eq_true rfl⟩) (fun r_278 hr_278 => ?_)
            have hr_278_c := hr_278
            rcases hr_278_c with hr_278_0 | hr_278_1
            · skip
              obtain ⟨er_278, hr_278_0_f0, hr_278_0_f1, hr_278_0_f2, hr_278_0_f3⟩ := hr_278_0
              have hr_278_0_f0 : 0 ≤ r_158.toInt := hr_278_0_f0
              have hr_278_0_f1 : r_158.toInt ≤ 5 := hr_278_0_f1
              have hr_278_0_f2 : 0 ≤ r_272.toInt := hr_278_0_f2
              have hr_278_0_f3 : r_272.toInt ≤ 5 := hr_278_0_f3
              subst er_278
              refine W.eq (g2 := F0 m 115 ls [.int 1]) rfl ?_
              refine lv_if_eq (tgt := 161) hx hb dX4_readPath_115 (by decide) (fun c_279 => absurd c_279 (by decide)) (fun _ => ?_)
              refine lv_aload_n hx hb dX4_readPath_118 rfl (lv_at hl 3 rfl) ?_
              refine t_getr cf_2 hx hb hts hown hK hT h_a (k := 8) (P := fun q => τ q = 7) rfl (fun _ h9 => h9) fl_X4_22 (fun _ h9 => h9) dX4_readPath_119 (fun q_280 eq_280 hq_280 => ?_)
              have w_281 : q_1 = q_280 := Option.some.inj (eq_1.symm.trans ((hF.r h_a (by decide) rfl _).symm.trans eq_280))
              subst w_281
              refine t_getr cf_7 hx hb hts hown hK hT hq_1 (k := 20) (P := fun q => τ q = 29) rfl (fun _ h9 => h9) fl_X4_207 (fun _ h9 => h9) dX4_readPath_122 (fun q_282 eq_282 hq_282 => ?_)
              have eq_282 := (hF.r hq_1 (by decide) rfl _).symm.trans eq_282
              refine lv_iload_n hx hb dX4_readPath_125 rfl (lv_at hl 2 rfl) ?_
              refine lv_bipush (v := 6) hx hb dX4_readPath_126 (by decide) ?_
              refine lv_imul hx hb dX4_readPath_128 ?_
              refine lv_topi (fun z_283 ez_283 => ?_)
              have tz_283 : z_283.toInt = r_158.toInt * 6 := mul_t ez_283 (show -2147483648 ≤ r_158.toInt * 6 by omega) (show r_158.toInt * 6 < 2147483648 by omega)
              refine lv_iload_n hx hb dX4_readPath_129 rfl (lv_at hl 1 rfl) ?_
              refine lv_iadd hx hb dX4_readPath_130 ?_
              refine lv_topi (fun z_284 ez_284 => ?_)
              have tz_284 : z_284.toInt = z_283.toInt + r_272.toInt := add_t ez_284 (show -2147483648 ≤ z_283.toInt + r_272.toInt by omega) (show z_283.toInt + r_272.toInt < 2147483648 by omega)
              refine lv_iload_n hx hb dX4_readPath_131 rfl (lv_at hl 0 rfl) ?_
              refine t_iast (n := 36) (i := z_284) (x := r_273) rfl (by decide) hx hb hK hT hS hq_282 (hT.len hq_282 (by decide)) ⟨by omega, by omega⟩ trivial dX4_readPath_132 (fun H locs G_285 eG_285 hT hS => ?_)
              have hF := hF.wI eG_285 hq_282 rfl
              refine lv_aload_n hx hb dX4_readPath_133 rfl (lv_at hl 3 rfl) ?_
              refine t_getr cf_2 hx hb hts hown hK hT h_a (k := 8) (P := fun q => τ q = 7) rfl (fun _ h9 => h9) fl_X4_22 (fun _ h9 => h9) dX4_readPath_134 (fun q_286 eq_286 hq_286 => ?_)
              have w_287 : q_1 = q_286 := Option.some.inj (eq_1.symm.trans ((hF.r h_a (by decide) rfl _).symm.trans eq_286))
              subst w_287
              refine t_getr cf_7 hx hb hts hown hK hT hq_1 (k := 20) (P := fun q => τ q = 29) rfl (fun _ h9 => h9) fl_X4_207 (fun _ h9 => h9) dX4_readPath_137 (fun q_288 eq_288 hq_288 => ?_)
              have w_289 : q_282 = q_288 := Option.some.inj (eq_282.symm.trans ((hF.r hq_1 (by decide) rfl _).symm.trans eq_288))
              subst w_289
              refine lv_iload_n hx hb dX4_readPath_140 rfl (lv_at hl 1 rfl) ?_
              refine lv_bipush (v := 6) hx hb dX4_readPath_141 (by decide) ?_
              refine lv_imul hx hb dX4_readPath_143 ?_
              refine lv_topi (fun z_290 ez_290 => ?_)
              have tz_290 : z_290.toInt = r_272.toInt * 6 := mul_t ez_290 (show -2147483648 ≤ r_272.toInt * 6 by omega) (show r_272.toInt * 6 < 2147483648 by omega)
              refine lv_iload_n hx hb dX4_readPath_144 rfl (lv_at hl 2 rfl) ?_
              refine lv_iadd hx hb dX4_readPath_145 ?_
              refine lv_topi (fun z_291 ez_291 => ?_)
              have tz_291 : z_291.toInt = z_290.toInt + r_158.toInt := add_t ez_291 (show -2147483648 ≤ z_290.toInt + r_158.toInt by omega) (show z_290.toInt + r_158.toInt < 2147483648 by omega)
              refine lv_iload_n hx hb dX4_readPath_146 rfl (lv_at hl 0 rfl) ?_
              refine t_iast (n := 36) (i := z_291) (x := r_273) rfl (by decide) hx hb hK hT hS hq_282 (hT.len hq_282 (by decide)) ⟨by omega, by omega⟩ trivial dX4_readPath_147 (fun H locs G_292 eG_292 hT hS => ?_)
              have hF := hF.wI eG_292 hq_282 rfl
              refine lv_aload_n hx hb dX4_readPath_148 rfl (lv_at hl 3 rfl) ?_
              refine t_getr cf_2 hx hb hts hown hK hT h_a (k := 8) (P := fun q => τ q = 7) rfl (fun _ h9 => h9) fl_X4_22 (fun _ h9 => h9) dX4_readPath_149 (fun q_293 eq_293 hq_293 => ?_)
              have w_294 : q_1 = q_293 := Option.some.inj (eq_1.symm.trans ((hF.r h_a (by decide) rfl _).symm.trans eq_293))
              subst w_294
              refine lv_dup hx hb dX4_readPath_152 rfl ?_
              refine t_geti cf_7 hx hb hts hown hK hT hq_1 (k := 7) rfl fl_X4_194 (fun _ h9 => h9) dX4_readPath_153 (fun z_295 ez_295 rz_295 => ?_)
              have ez_295 : z_295 = G_292.1 q_1 7 := ez_295
              refine lv_iconst (v := 1) hx hb dX4_readPath_156 (by decide) ?_
              refine lv_iadd hx hb dX4_readPath_157 ?_
              refine lv_topi (fun z_296 ez_296 => ?_)
              refine t_puti (x := z_296) cf_7 hx hb hts hown hK hT hS hq_1 (k := 7) rfl trivial fl_X4_194 (fun _ h9 => h9) rfl rfl rfl dX4_readPath_158 (fun H locs G_297 eG_297 hT hS => ?_)
              have hF := hF.wI eG_297 hq_1 rfl
              exact ret_v hx hb hr hlocks ⟨⟨hS.1, hS.2.1⟩, G_297, hF, ⟨rfl, trivial⟩, hT⟩ hS.2.2 (Nat.le_of_ble_eq_true rfl) (Nat.le_of_ble_eq_true rfl) dX4_readPath_161
            · skip
              have er_278 := hr_278_1
              subst er_278
              refine W.eq (g2 := F0 m 115 ls [.int 0]) rfl ?_
              refine lv_if_eq (tgt := 161) hx hb dX4_readPath_115 (by decide) (fun _ => ?_) (fun c_298 => absurd (by decide) c_298)
              exact ret_v hx hb hr hlocks ⟨⟨hS.1, hS.2.1⟩, G_273, hF, ⟨rfl, trivial⟩, hT⟩ hS.2.2 (Nat.le_of_ble_eq_true rfl) (Nat.le_of_ble_eq_true rfl) dX4_readPath_161
set_option maxHeartbeats 4000000 in
set_option maxRecDepth 100000 in
theorem t_X4_begin (l : Launch) (D : va_G) (cy : Nat → ClassId) (base : Nat) (τ : Nat → Nat) (G : Gh)  (a : Nat) (h_a : τ a = 2) (b : Nat) (h_b : τ b = 7) (d : Nat) (h_d : τ d = 20) (v : Int32) (r_v : 0 ≤ v.toInt ∧ v.toInt ≤ 1600) : MM l yX4_begin cX4_begin 4 none 2 0 0 D cy [.ref a, .ref b, .ref d, .int v] (PT D cy base τ G) (QT D cy base τ G [2, 1002] (fun v g => v = none ∧ (True))) (RA base) := by
  refine MM.of (by decide) (Nat.le_of_ble_eq_true rfl) ?_
  intro p e s m below meth c C hPT ls hl
  obtain ⟨hx, hb, hr, hml, hown, hts, hlocks, hK, hnm⟩ := C
  obtain ⟨hZ, hT⟩ := hPT
  have hS : va_S (RA base) s.heap s.heap [] := va_S.rf
  have hF : Fr τ [2, 1002] G G := Fr.rf
  have hl : lv_has ls 4 [(0, .ref a), (1, .ref b), (2, .ref d), (3, .int v)] := hl
  refine lv_aload_n hx hb dX4_begin_0 rfl (lv_at hl 0 rfl) ?_
  refine lv_aload_n hx hb dX4_begin_1 rfl (lv_at hl 1 rfl) ?_
  refine t_putr cf_2 hx hb hts hown hK hT hS h_a (k := 8) rfl ⟨_, rfl, h_b⟩ fl_X4_22 (fun _ h9 => h9) rfl rfl rfl dX4_begin_2 (fun H locs G_1 eG_1 hT hS => ?_)
  have hF := hF.wR eG_1 h_a rfl
  refine lv_aload_n hx hb dX4_begin_5 rfl (lv_at hl 0 rfl) ?_
  refine lv_aload_n hx hb dX4_begin_6 rfl (lv_at hl 2 rfl) ?_
  refine t_putr cf_2 hx hb hts hown hK hT hS h_a (k := 2) rfl ⟨_, rfl, h_d⟩ fl_X4_15 (fun _ h9 => h9) rfl rfl rfl dX4_begin_7 (fun H locs G_2 eG_2 hT hS => ?_)
  have hF := hF.wR eG_2 h_a rfl
  refine lv_aload_n hx hb dX4_begin_10 rfl (lv_at hl 0 rfl) ?_
  refine lv_iload_n hx hb dX4_begin_11 rfl (lv_at hl 3 rfl) ?_
  refine lv_aload_n hx hb dX4_begin_12 rfl (lv_at hl 2 rfl) ?_
  obtain ⟨n_3, en_3⟩ : ∃ y : Nat, y = G.2.2.2 d := ⟨_, rfl⟩
  have rn_3 : n_3 ≤ 1600 := by rw [en_3]; rw [← hF.n h_d (by decide)]; exact hT.len h_d (by decide)
  refine t_alen (v := Int32.ofNat n_3) rfl (by decide) hx hb hK hT h_d rfl (by rw [show _ = n_3 from ((hF.n h_d (by decide)).trans en_3.symm)]) dX4_begin_13 ?_
  refine lv_topi (fun z_4 ez_4 => ?_)
  have tz_4 : z_4.toInt = n_3 := len_t ez_4 (by omega)
  refine va_mmin hx hb (by rw [hml]; exact hl.1.symm) hown (hts _ ml_X4_86) (hts _ st_math_min) (hts _ ini_J9) (hts _ co_math_min) (Nat.le_of_ble_eq_true rfl) (Nat.le_of_ble_eq_true rfl) (Nat.le_of_ble_eq_true rfl) (Nat.le_of_ble_eq_true rfl) dX4_begin_14 ?_
  refine lv_topi (fun z_5 ez_5 => ?_)
  have tz_5 : (v.toInt ≥ z_5.toInt ∧ z_4.toInt ≥ z_5.toInt ∧ (z_5.toInt = v.toInt ∨ z_5.toInt = z_4.toInt)) := mmin_t ez_5
  refine t_puti (x := z_5) cf_2 hx hb hts hown hK hT hS h_a (k := 3) rfl (show 0 ≤ z_5.toInt ∧ z_5.toInt ≤ 1600 from ⟨by omega, by omega⟩) fl_X4_30 (fun _ h9 => h9) rfl rfl rfl dX4_begin_17 (fun H locs G_6 eG_6 hT hS => ?_)
  have hF := hF.wI eG_6 h_a rfl
  refine lv_aload_n hx hb dX4_begin_20 rfl (lv_at hl 0 rfl) ?_
  refine lv_iconst (v := 0) hx hb dX4_begin_21 (by decide) ?_
  refine t_puti (x := 0) cf_2 hx hb hts hown hK hT hS h_a (k := 6) rfl trivial fl_X4_92 (fun _ h9 => h9) rfl rfl rfl dX4_begin_22 (fun H locs G_7 eG_7 hT hS => ?_)
  have hF := hF.wI eG_7 h_a rfl
  refine lv_aload_n hx hb dX4_begin_25 rfl (lv_at hl 0 rfl) ?_
  refine lv_iconst (v := 0) hx hb dX4_begin_26 (by decide) ?_
  refine t_puti (x := 0) cf_2 hx hb hts hown hK hT hS h_a (k := 0) rfl trivial fl_X4_36 (fun _ h9 => h9) rfl rfl rfl dX4_begin_27 (fun H locs G_8 eG_8 hT hS => ?_)
  have hF := hF.wI eG_8 h_a rfl
  refine lv_aload_n hx hb dX4_begin_30 rfl (lv_at hl 0 rfl) ?_
  refine lv_iconst (v := (-1)) hx hb dX4_begin_31 (by decide) ?_
  refine t_puti (x := (-1)) cf_2 hx hb hts hown hK hT hS h_a (k := 1) rfl trivial fl_X4_9 (fun _ h9 => h9) rfl rfl rfl dX4_begin_32 (fun H locs G_9 eG_9 hT hS => ?_)
  have hF := hF.wI eG_9 h_a rfl
  refine lv_aload_n hx hb dX4_begin_35 rfl (lv_at hl 0 rfl) ?_
  refine lv_iconst (v := 0) hx hb dX4_begin_36 (by decide) ?_
  refine t_puti (x := 0) cf_2 hx hb hts hown hK hT hS h_a (k := 9) rfl trivial fl_X4_95 (fun _ h9 => h9) rfl rfl rfl dX4_begin_37 (fun H locs G_10 eG_10 hT hS => ?_)
  have hF := hF.wI eG_10 h_a rfl
  refine lv_aload_n hx hb dX4_begin_40 rfl (lv_at hl 0 rfl) ?_
  refine lv_iconst (v := 0) hx hb dX4_begin_41 (by decide) ?_
  refine t_puti (x := 0) cf_2 hx hb hts hown hK hT hS h_a (k := 10) rfl trivial fl_X4_99 (fun _ h9 => h9) rfl rfl rfl dX4_begin_42 (fun H locs G_11 eG_11 hT hS => ?_)
  have hF := hF.wI eG_11 h_a rfl
  refine lv_aload_n hx hb dX4_begin_45 rfl (lv_at hl 0 rfl) ?_
  refine lv_iconst (v := 0) hx hb dX4_begin_46 (by decide) ?_
  refine t_puti (x := 0) cf_2 hx hb hts hown hK hT hS h_a (k := 11) rfl trivial fl_X4_102 (fun _ h9 => h9) rfl rfl rfl dX4_begin_47 (fun H locs G_12 eG_12 hT hS => ?_)
  have hF := hF.wI eG_12 h_a rfl
  refine lv_aload_n hx hb dX4_begin_50 rfl (lv_at hl 0 rfl) ?_
  obtain ⟨z_13, ez_13⟩ : ∃ y : Int32, y = G_12.1 a 0 := ⟨_, rfl⟩
  obtain ⟨z_14, ez_14⟩ : ∃ y : Int32, y = G_12.1 a 3 := ⟨_, rfl⟩
  have rz_14 : 0 ≤ z_14.toInt ∧ z_14.toInt ≤ 1600 := by rw [ez_14]; exact hT.rgi h_a (by decide) 3
  refine t_callv (runV (As := []) (rest := []) ⟨hx, hb, hml, hown, hts⟩ (t_X4_step l D cy base τ G_12 a h_a z_13 ez_13 z_14 ez_14) sV_X4_105 hK (t_recv cf_2 hK hT h_a) ⟨Nat.le_trans hZ hS.1, hT⟩ ⟨Nat.le_of_ble_eq_true rfl, Nat.le_of_ble_eq_true rfl⟩ rfl hl.1 rfl (Nat.le_of_ble_eq_true rfl) dX4_begin_51 ⟨Nat.le_of_ble_eq_true rfl, Nat.le_of_ble_eq_true rfl⟩) hS (fun G_15 H locs hF_15 hr_15 hT hS => ?_)
  have hF := hF.tr hF_15 rfl
  have hr_15_s0 := hr_15
  have k_16 : z_13 = G_15.1 a 0 := ez_13.trans hr_15_s0.symm
  exact ret_v hx hb hr hlocks ⟨⟨hS.1, hS.2.1⟩, G_15, hF, ⟨rfl, trivial⟩, hT⟩ hS.2.2 (Nat.le_of_ble_eq_true rfl) (Nat.le_of_ble_eq_true rfl) dX4_begin_54
