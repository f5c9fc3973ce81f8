theorem dX10_copyLand_0 : decode cX10_copyLand 0 = .ok (.aload_n 0, 1) := by decide +kernel
theorem dX10_copyLand_1 : decode cX10_copyLand 1 = .ok (.getfield 31, 3) := by decide +kernel
theorem dX10_copyLand_4 : decode cX10_copyLand 4 = .ok (.iconst 1, 1) := by decide +kernel
theorem dX10_copyLand_5 : decode cX10_copyLand 5 = .ok (.iload_n 1, 1) := by decide +kernel
theorem dX10_copyLand_6 : decode cX10_copyLand 6 = .ok (.iload_n 2, 1) := by decide +kernel
theorem dX10_copyLand_7 : decode cX10_copyLand 7 = .ok (.invokestatic 274, 3) := by decide +kernel
theorem dX10_copyLand_10 : decode cX10_copyLand 10 = .ok (.aload_n 0, 1) := by decide +kernel
theorem dX10_copyLand_11 : decode cX10_copyLand 11 = .ok (.getfield 34, 3) := by decide +kernel
theorem dX10_copyLand_14 : decode cX10_copyLand 14 = .ok (.iconst 4, 1) := by decide +kernel
theorem dX10_copyLand_15 : decode cX10_copyLand 15 = .ok (.iload_n 1, 1) := by decide +kernel
theorem dX10_copyLand_16 : decode cX10_copyLand 16 = .ok (.iload_n 2, 1) := by decide +kernel
theorem dX10_copyLand_17 : decode cX10_copyLand 17 = .ok (.invokestatic 274, 3) := by decide +kernel
theorem dX10_copyLand_20 : decode cX10_copyLand 20 = .ok (.aload_n 0, 1) := by decide +kernel
theorem dX10_copyLand_21 : decode cX10_copyLand 21 = .ok (.getfield 37, 3) := by decide +kernel
theorem dX10_copyLand_24 : decode cX10_copyLand 24 = .ok (.iconst 1, 1) := by decide +kernel
theorem dX10_copyLand_25 : decode cX10_copyLand 25 = .ok (.iload_n 1, 1) := by decide +kernel
theorem dX10_copyLand_26 : decode cX10_copyLand 26 = .ok (.iload_n 2, 1) := by decide +kernel
theorem dX10_copyLand_27 : decode cX10_copyLand 27 = .ok (.invokestatic 274, 3) := by decide +kernel
theorem dX10_copyLand_30 : decode cX10_copyLand 30 = .ok (.aload_n 0, 1) := by decide +kernel
theorem dX10_copyLand_31 : decode cX10_copyLand 31 = .ok (.getfield 40, 3) := by decide +kernel
theorem dX10_copyLand_34 : decode cX10_copyLand 34 = .ok (.bipush 9, 2) := by decide +kernel
theorem dX10_copyLand_36 : decode cX10_copyLand 36 = .ok (.iload_n 1, 1) := by decide +kernel
theorem dX10_copyLand_37 : decode cX10_copyLand 37 = .ok (.iload_n 2, 1) := by decide +kernel
theorem dX10_copyLand_38 : decode cX10_copyLand 38 = .ok (.invokestatic 274, 3) := by decide +kernel
theorem dX10_copyLand_41 : decode cX10_copyLand 41 = .ok (.aload_n 0, 1) := by decide +kernel
theorem dX10_copyLand_42 : decode cX10_copyLand 42 = .ok (.getfield 43, 3) := by decide +kernel
theorem dX10_copyLand_45 : decode cX10_copyLand 45 = .ok (.iconst 1, 1) := by decide +kernel
theorem dX10_copyLand_46 : decode cX10_copyLand 46 = .ok (.iload_n 1, 1) := by decide +kernel
theorem dX10_copyLand_47 : decode cX10_copyLand 47 = .ok (.iload_n 2, 1) := by decide +kernel
theorem dX10_copyLand_48 : decode cX10_copyLand 48 = .ok (.invokestatic 274, 3) := by decide +kernel
theorem dX10_copyLand_51 : decode cX10_copyLand 51 = .ok (.aload_n 0, 1) := by decide +kernel
theorem dX10_copyLand_52 : decode cX10_copyLand 52 = .ok (.getfield 46, 3) := by decide +kernel
theorem dX10_copyLand_55 : decode cX10_copyLand 55 = .ok (.bipush 30, 2) := by decide +kernel
theorem dX10_copyLand_57 : decode cX10_copyLand 57 = .ok (.iload_n 1, 1) := by decide +kernel
theorem dX10_copyLand_58 : decode cX10_copyLand 58 = .ok (.iload_n 2, 1) := by decide +kernel
theorem dX10_copyLand_59 : decode cX10_copyLand 59 = .ok (.invokestatic 274, 3) := by decide +kernel
theorem dX10_copyLand_62 : decode cX10_copyLand 62 = .ok (.aload_n 0, 1) := by decide +kernel
theorem dX10_copyLand_63 : decode cX10_copyLand 63 = .ok (.getfield 49, 3) := by decide +kernel
theorem dX10_copyLand_66 : decode cX10_copyLand 66 = .ok (.iconst 1, 1) := by decide +kernel
theorem dX10_copyLand_67 : decode cX10_copyLand 67 = .ok (.iload_n 1, 1) := by decide +kernel
theorem dX10_copyLand_68 : decode cX10_copyLand 68 = .ok (.iload_n 2, 1) := by decide +kernel
theorem dX10_copyLand_69 : decode cX10_copyLand 69 = .ok (.invokestatic 274, 3) := by decide +kernel
theorem dX10_copyLand_72 : decode cX10_copyLand 72 = .ok (.aload_n 0, 1) := by decide +kernel
theorem dX10_copyLand_73 : decode cX10_copyLand 73 = .ok (.getfield 52, 3) := by decide +kernel
theorem dX10_copyLand_76 : decode cX10_copyLand 76 = .ok (.bipush 24, 2) := by decide +kernel
theorem dX10_copyLand_78 : decode cX10_copyLand 78 = .ok (.iload_n 1, 1) := by decide +kernel
theorem dX10_copyLand_79 : decode cX10_copyLand 79 = .ok (.iload_n 2, 1) := by decide +kernel
theorem dX10_copyLand_80 : decode cX10_copyLand 80 = .ok (.invokestatic 274, 3) := by decide +kernel
theorem dX10_copyLand_83 : decode cX10_copyLand 83 = .ok (.aload_n 0, 1) := by decide +kernel
theorem dX10_copyLand_84 : decode cX10_copyLand 84 = .ok (.getfield 55, 3) := by decide +kernel
theorem dX10_copyLand_87 : decode cX10_copyLand 87 = .ok (.bipush 6, 2) := by decide +kernel
theorem dX10_copyLand_89 : decode cX10_copyLand 89 = .ok (.iload_n 1, 1) := by decide +kernel
theorem dX10_copyLand_90 : decode cX10_copyLand 90 = .ok (.iload_n 2, 1) := by decide +kernel
theorem dX10_copyLand_91 : decode cX10_copyLand 91 = .ok (.invokestatic 274, 3) := by decide +kernel
theorem dX10_copyLand_94 : decode cX10_copyLand 94 = .ok (.return_, 1) := by decide +kernel
theorem dX10_copyAll_0 : decode cX10_copyAll 0 = .ok (.aload_n 0, 1) := by decide +kernel
theorem dX10_copyAll_1 : decode cX10_copyAll 1 = .ok (.iload_n 1, 1) := by decide +kernel
theorem dX10_copyAll_2 : decode cX10_copyAll 2 = .ok (.iload_n 2, 1) := by decide +kernel
theorem dX10_copyAll_3 : decode cX10_copyAll 3 = .ok (.invokevirtual 270, 3) := by decide +kernel
theorem dX10_copyAll_6 : decode cX10_copyAll 6 = .ok (.aload_n 0, 1) := by decide +kernel
theorem dX10_copyAll_7 : decode cX10_copyAll 7 = .ok (.getfield 62, 3) := by decide +kernel
theorem dX10_copyAll_10 : decode cX10_copyAll 10 = .ok (.iconst 1, 1) := by decide +kernel
theorem dX10_copyAll_11 : decode cX10_copyAll 11 = .ok (.iload_n 1, 1) := by decide +kernel
theorem dX10_copyAll_12 : decode cX10_copyAll 12 = .ok (.iload_n 2, 1) := by decide +kernel
theorem dX10_copyAll_13 : decode cX10_copyAll 13 = .ok (.invokestatic 274, 3) := by decide +kernel
theorem dX10_copyAll_16 : decode cX10_copyAll 16 = .ok (.aload_n 0, 1) := by decide +kernel
theorem dX10_copyAll_17 : decode cX10_copyAll 17 = .ok (.getfield 65, 3) := by decide +kernel
theorem dX10_copyAll_20 : decode cX10_copyAll 20 = .ok (.bipush 6, 2) := by decide +kernel
theorem dX10_copyAll_22 : decode cX10_copyAll 22 = .ok (.iload_n 1, 1) := by decide +kernel
theorem dX10_copyAll_23 : decode cX10_copyAll 23 = .ok (.iload_n 2, 1) := by decide +kernel
theorem dX10_copyAll_24 : decode cX10_copyAll 24 = .ok (.invokestatic 274, 3) := by decide +kernel
theorem dX10_copyAll_27 : decode cX10_copyAll 27 = .ok (.return_, 1) := by decide +kernel
theorem dX10_keep_0 : decode cX10_keep 0 = .ok (.aload_n 0, 1) := by decide +kernel
theorem dX10_keep_1 : decode cX10_keep 1 = .ok (.iconst 0, 1) := by decide +kernel
theorem dX10_keep_2 : decode cX10_keep 2 = .ok (.putfield 111, 3) := by decide +kernel
theorem dX10_keep_5 : decode cX10_keep 5 = .ok (.iload_n 1, 1) := by decide +kernel
theorem dX10_keep_6 : decode cX10_keep 6 = .ok (.i2l, 1) := by decide +kernel
theorem dX10_keep_7 : decode cX10_keep 7 = .ok (.lconst 0, 1) := by decide +kernel
theorem dX10_keep_8 : decode cX10_keep 8 = .ok (.ldc2_w 502, 3) := by decide +kernel
theorem dX10_keep_11 : decode cX10_keep 11 = .ok (.invokestatic 116, 3) := by decide +kernel
theorem dX10_keep_14 : decode cX10_keep 14 = .ok (.ifCond .ne 6, 3) := by decide +kernel
theorem dX10_keep_20 : decode cX10_keep 20 = .ok (.aload_n 0, 1) := by decide +kernel
theorem dX10_keep_21 : decode cX10_keep 21 = .ok (.iconst 0, 1) := by decide +kernel
theorem dX10_keep_22 : decode cX10_keep 22 = .ok (.iconst 1, 1) := by decide +kernel
theorem dX10_keep_23 : decode cX10_keep 23 = .ok (.iload_n 1, 1) := by decide +kernel
theorem dX10_keep_24 : decode cX10_keep 24 = .ok (.iadd, 1) := by decide +kernel
theorem dX10_keep_25 : decode cX10_keep 25 = .ok (.invokevirtual 516, 3) := by decide +kernel
theorem dX10_keep_28 : decode cX10_keep 28 = .ok (.aload_n 0, 1) := by decide +kernel
theorem dX10_keep_29 : decode cX10_keep 29 = .ok (.getfield 68, 3) := by decide +kernel
theorem dX10_keep_32 : decode cX10_keep 32 = .ok (.iload_n 1, 1) := by decide +kernel
theorem dX10_keep_33 : decode cX10_keep 33 = .ok (.iconst 1, 1) := by decide +kernel
theorem dX10_keep_34 : decode cX10_keep 34 = .ok (.bastore, 1) := by decide +kernel
theorem dX10_keep_35 : decode cX10_keep 35 = .ok (.iconst 0, 1) := by decide +kernel
theorem dX10_keep_36 : decode cX10_keep 36 = .ok (.ireturn, 1) := by decide +kernel
theorem dX10_keep_17 : decode cX10_keep 17 = .ok (.bipush (-2), 2) := by decide +kernel
theorem dX10_keep_19 : decode cX10_keep 19 = .ok (.ireturn, 1) := by decide +kernel
theorem dX10_back_0 : decode cX10_back 0 = .ok (.aload_n 0, 1) := by decide +kernel
theorem dX10_back_1 : decode cX10_back 1 = .ok (.iconst 0, 1) := by decide +kernel
theorem dX10_back_2 : decode cX10_back 2 = .ok (.putfield 111, 3) := by decide +kernel
theorem dX10_back_5 : decode cX10_back 5 = .ok (.iload_n 1, 1) := by decide +kernel
theorem dX10_back_6 : decode cX10_back 6 = .ok (.i2l, 1) := by decide +kernel
theorem dX10_back_7 : decode cX10_back 7 = .ok (.lconst 0, 1) := by decide +kernel
theorem dX10_back_8 : decode cX10_back 8 = .ok (.ldc2_w 502, 3) := by decide +kernel
theorem dX10_back_11 : decode cX10_back 11 = .ok (.invokestatic 116, 3) := by decide +kernel
theorem dX10_back_14 : decode cX10_back 14 = .ok (.ifCond .ne 6, 3) := by decide +kernel
theorem dX10_back_20 : decode cX10_back 20 = .ok (.aload_n 0, 1) := by decide +kernel
theorem dX10_back_21 : decode cX10_back 21 = .ok (.getfield 68, 3) := by decide +kernel
theorem dX10_back_24 : decode cX10_back 24 = .ok (.iload_n 1, 1) := by decide +kernel
theorem dX10_back_25 : decode cX10_back 25 = .ok (.baload, 1) := by decide +kernel
theorem dX10_back_26 : decode cX10_back 26 = .ok (.ifCond .ne 6, 3) := by decide +kernel
theorem dX10_back_32 : decode cX10_back 32 = .ok (.aload_n 0, 1) := by decide +kernel
theorem dX10_back_33 : decode cX10_back 33 = .ok (.iconst 1, 1) := by decide +kernel
theorem dX10_back_34 : decode cX10_back 34 = .ok (.iload_n 1, 1) := by decide +kernel
theorem dX10_back_35 : decode cX10_back 35 = .ok (.iadd, 1) := by decide +kernel
theorem dX10_back_36 : decode cX10_back 36 = .ok (.iconst 0, 1) := by decide +kernel
theorem dX10_back_37 : decode cX10_back 37 = .ok (.invokevirtual 516, 3) := by decide +kernel
theorem dX10_back_40 : decode cX10_back 40 = .ok (.iconst 0, 1) := by decide +kernel
theorem dX10_back_41 : decode cX10_back 41 = .ok (.ireturn, 1) := by decide +kernel
theorem dX10_back_29 : decode cX10_back 29 = .ok (.bipush (-6), 2) := by decide +kernel
theorem dX10_back_31 : decode cX10_back 31 = .ok (.ireturn, 1) := by decide +kernel
theorem dX10_back_17 : decode cX10_back 17 = .ok (.bipush (-2), 2) := by decide +kernel
theorem dX10_back_19 : decode cX10_back 19 = .ok (.ireturn, 1) := by decide +kernel
theorem dX10_land_0 : decode cX10_land 0 = .ok (.aload_n 0, 1) := by decide +kernel
theorem dX10_land_1 : decode cX10_land 1 = .ok (.iconst 0, 1) := by decide +kernel
theorem dX10_land_2 : decode cX10_land 2 = .ok (.putfield 111, 3) := by decide +kernel
theorem dX10_land_5 : decode cX10_land 5 = .ok (.aload_n 0, 1) := by decide +kernel
theorem dX10_land_6 : decode cX10_land 6 = .ok (.invokevirtual 248, 3) := by decide +kernel
theorem dX10_land_9 : decode cX10_land 9 = .ok (.aload_n 0, 1) := by decide +kernel
theorem dX10_land_10 : decode cX10_land 10 = .ok (.invokevirtual 251, 3) := by decide +kernel
theorem dX10_land_13 : decode cX10_land 13 = .ok (.aload_n 0, 1) := by decide +kernel
theorem dX10_land_14 : decode cX10_land 14 = .ok (.invokevirtual 254, 3) := by decide +kernel
theorem dX10_land_17 : decode cX10_land 17 = .ok (.ifCond .eq 54, 3) := by decide +kernel
theorem dX10_land_20 : decode cX10_land 20 = .ok (.aload_n 0, 1) := by decide +kernel
theorem dX10_land_21 : decode cX10_land 21 = .ok (.getfield 152, 3) := by decide +kernel
theorem dX10_land_24 : decode cX10_land 24 = .ok (.ifCond .eq 47, 3) := by decide +kernel
theorem dX10_land_71 : decode cX10_land 71 = .ok (.aload_n 0, 1) := by decide +kernel
theorem dX10_land_72 : decode cX10_land 72 = .ok (.invokevirtual 267, 3) := by decide +kernel
theorem dX10_land_75 : decode cX10_land 75 = .ok (.aload_n 0, 1) := by decide +kernel
theorem dX10_land_76 : decode cX10_land 76 = .ok (.getfield 163, 3) := by decide +kernel
theorem dX10_land_79 : decode cX10_land 79 = .ok (.ifCond .eq 6, 3) := by decide +kernel
theorem dX10_land_85 : decode cX10_land 85 = .ok (.aload_n 0, 1) := by decide +kernel
theorem dX10_land_86 : decode cX10_land 86 = .ok (.iconst 4, 1) := by decide +kernel
theorem dX10_land_87 : decode cX10_land 87 = .ok (.iconst 0, 1) := by decide +kernel
theorem dX10_land_88 : decode cX10_land 88 = .ok (.invokevirtual 270, 3) := by decide +kernel
theorem dX10_land_91 : decode cX10_land 91 = .ok (.aload_n 0, 1) := by decide +kernel
theorem dX10_land_92 : decode cX10_land 92 = .ok (.getfield 62, 3) := by decide +kernel
theorem dX10_land_95 : decode cX10_land 95 = .ok (.iconst 0, 1) := by decide +kernel
theorem dX10_land_96 : decode cX10_land 96 = .ok (.iconst 0, 1) := by decide +kernel
theorem dX10_land_97 : decode cX10_land 97 = .ok (.iastore, 1) := by decide +kernel
theorem dX10_land_98 : decode cX10_land 98 = .ok (.aload_n 0, 1) := by decide +kernel
theorem dX10_land_99 : decode cX10_land 99 = .ok (.getfield 31, 3) := by decide +kernel
theorem dX10_land_102 : decode cX10_land 102 = .ok (.iconst 0, 1) := by decide +kernel
theorem dX10_land_103 : decode cX10_land 103 = .ok (.iaload, 1) := by decide +kernel
theorem dX10_land_104 : decode cX10_land 104 = .ok (.ireturn, 1) := by decide +kernel
theorem dX10_land_82 : decode cX10_land 82 = .ok (.bipush (-4), 2) := by decide +kernel
theorem dX10_land_84 : decode cX10_land 84 = .ok (.ireturn, 1) := by decide +kernel
theorem dX10_land_27 : decode cX10_land 27 = .ok (.aload_n 0, 1) := by decide +kernel
theorem dX10_land_28 : decode cX10_land 28 = .ok (.getfield 31, 3) := by decide +kernel
theorem dX10_land_31 : decode cX10_land 31 = .ok (.iconst 4, 1) := by decide +kernel
theorem dX10_land_32 : decode cX10_land 32 = .ok (.iaload, 1) := by decide +kernel
theorem dX10_land_33 : decode cX10_land 33 = .ok (.ifCond .ne 10, 3) := by decide +kernel
theorem dX10_land_43 : decode cX10_land 43 = .ok (.aload_n 0, 1) := by decide +kernel
theorem dX10_land_44 : decode cX10_land 44 = .ok (.invokevirtual 261, 3) := by decide +kernel
theorem dX10_land_47 : decode cX10_land 47 = .ok (.aload_n 0, 1) := by decide +kernel
theorem dX10_land_48 : decode cX10_land 48 = .ok (.invokevirtual 254, 3) := by decide +kernel
theorem dX10_land_51 : decode cX10_land 51 = .ok (.ifCond .eq 7, 3) := by decide +kernel
theorem dX10_land_54 : decode cX10_land 54 = .ok (.aload_n 0, 1) := by decide +kernel
theorem dX10_land_55 : decode cX10_land 55 = .ok (.invokevirtual 264, 3) := by decide +kernel
theorem dX10_land_58 : decode cX10_land 58 = .ok (.aload_n 0, 1) := by decide +kernel
theorem dX10_land_59 : decode cX10_land 59 = .ok (.getfield 31, 3) := by decide +kernel
theorem dX10_land_62 : decode cX10_land 62 = .ok (.iconst 4, 1) := by decide +kernel
theorem dX10_land_63 : decode cX10_land 63 = .ok (.dup2, 1) := by decide +kernel
theorem dX10_land_64 : decode cX10_land 64 = .ok (.iaload, 1) := by decide +kernel
theorem dX10_land_65 : decode cX10_land 65 = .ok (.iconst 1, 1) := by decide +kernel
theorem dX10_land_66 : decode cX10_land 66 = .ok (.iadd, 1) := by decide +kernel
theorem dX10_land_67 : decode cX10_land 67 = .ok (.iastore, 1) := by decide +kernel
theorem dX10_land_68 : decode cX10_land 68 = .ok (.goto (-55), 3) := by decide +kernel
theorem dX10_land_36 : decode cX10_land 36 = .ok (.aload_n 0, 1) := by decide +kernel
theorem dX10_land_37 : decode cX10_land 37 = .ok (.invokevirtual 258, 3) := by decide +kernel
theorem dX10_land_40 : decode cX10_land 40 = .ok (.goto 7, 3) := by decide +kernel
theorem sS_X10_274 : SiteS RX10 274 yX10_copyRow cX10_copyRow 5 none 4 := ⟨ml_X10_274, st_X10_copyRow, ini_X10, co_X10_copyRow, by decide +kernel⟩
theorem sV_X10_270 : SiteV RX10 270 yX10_copyLand cX10_copyLand 3 none 2 := ⟨ml_X10_270, im_X10_copyLand, se_X10_copyLand, ini_X10, co_X10_copyLand, by decide +kernel⟩
theorem sV_X10_516 : SiteV RX10 516 yX10_copyAll cX10_copyAll 3 none 2 := ⟨ml_X10_516, im_X10_copyAll, se_X10_copyAll, ini_X10, co_X10_copyAll, by decide +kernel⟩
theorem sV_X10_248 : SiteV RX10 248 yX10_clears cX10_clears 2 none 0 := ⟨ml_X10_248, im_X10_clears, se_X10_clears, ini_X10, co_X10_clears, by decide +kernel⟩
theorem sV_X10_251 : SiteV RX10 251 yX10_begins cX10_begins 1 none 0 := ⟨ml_X10_251, im_X10_begins, se_X10_begins, ini_X10, co_X10_begins, by decide +kernel⟩
theorem sV_X10_254 : SiteV RX10 254 yX10_isGood cX10_isGood 1 (some .boolean) 0 := ⟨ml_X10_254, im_X10_isGood, se_X10_isGood, ini_X10, co_X10_isGood, by decide +kernel⟩
theorem sV_X10_267 : SiteV RX10 267 yX10_isOver cX10_isOver 1 none 0 := ⟨ml_X10_267, im_X10_isOver, se_X10_isOver, ini_X10, co_X10_isOver, by decide +kernel⟩
theorem sV_X10_261 : SiteV RX10 261 yX10_line cX10_line 4 none 0 := ⟨ml_X10_261, im_X10_line, se_X10_line, ini_X10, co_X10_line, by decide +kernel⟩
theorem sV_X10_264 : SiteV RX10 264 yX10_ends cX10_ends 1 none 0 := ⟨ml_X10_264, im_X10_ends, se_X10_ends, ini_X10, co_X10_ends, by decide +kernel⟩
theorem sV_X10_258 : SiteV RX10 258 yX10_winterLine cX10_winterLine 2 none 0 := ⟨ml_X10_258, im_X10_winterLine, se_X10_winterLine, ini_X10, co_X10_winterLine, by decide +kernel⟩
def INV (G : Gh) (tha sa : Nat) : Prop := ∀ b : Nat, b < 5 → 0 < (G.1 tha b).toInt → 1 ≤ (G.1 sa (6 * b + 1)).toInt
theorem INV.cp {G G' : Gh} {tha sa X Y : Nat} (h : INV G tha sa) (hX : X < 5) (h1 : ∀ j, G'.1 tha j = if 1 * Y ≤ j ∧ j < 1 * Y + 1 then G.1 tha (1 * X + (j - 1 * Y)) else G.1 tha j) (h2 : ∀ j, G'.1 sa j = if 6 * Y ≤ j ∧ j < 6 * Y + 6 then G.1 sa (6 * X + (j - 6 * Y)) else G.1 sa j) : INV G' tha sa := by
  intro b hb h0
  by_cases e : b = Y
  · subst e
    rw [h1 b, if_pos (by omega), show 1 * X + (b - 1 * b) = X by omega] at h0
    rw [h2, if_pos (by omega), show 6 * X + (6 * b + 1 - 6 * b) = 6 * X + 1 by omega]
    exact h X hX h0
  · rw [h1 b, if_neg (by omega)] at h0
    rw [h2, if_neg (by omega)]
    exact h b hb h0
theorem INV.same {G G' : Gh} {tha sa : Nat} (h : INV G tha sa) (h1 : ∀ j, G'.1 tha j = G.1 tha j) (h2 : ∀ j, G'.1 sa j = G.1 sa j) : INV G' tha sa := by
  intro b hb h0
  rw [h1] at h0
  rw [h2]
  exact h b hb h0
theorem INV.rd {G G' : Gh} {tha sa : Nat} (h : INV G tha sa) (h1 : ∀ j : Nat, j ≠ 4 → G'.1 tha j = G.1 tha j) (h2 : ∀ j : Nat, j < 24 → G'.1 sa j = G.1 sa j) (h3 : 1 ≤ (G'.1 sa 25).toInt) : INV G' tha sa := by
  intro b hb h0
  by_cases e : b = 4
  · subst e; exact h3
  · rw [h1 b e] at h0
    rw [h2 _ (by omega)]
    exact h b hb h0
set_option maxHeartbeats 4000000 in
set_option maxRecDepth 100000 in
theorem t_X10_copyLand (l : Launch) (D : va_G) (cy : Nat → ClassId) (base : Nat) (τ : Nat → Nat) (G : Gh) (a : Nat) (h_a : τ a = 11) (x : Int32) (r_x : 0 ≤ x.toInt ∧ x.toInt ≤ 4) (y : Int32) (r_y : 0 ≤ y.toInt ∧ y.toInt ≤ 4) (tha : Nat) (h_tha : τ tha = 68) (e_tha : G.2.2.1 a 18 = some tha) (sa : Nat) (h_sa : τ sa = 74) (e_sa : G.2.2.1 a 24 = some sa) : MM l yX10_copyLand cX10_copyLand 3 none 1 0 0 D cy [.ref a, .int x, .int y] (PT D cy base τ G) (QT D cy base τ G [66, 67, 68, 69, 70, 71, 72, 73, 74] (fun v g => v = none ∧ ((∀ j : Nat, g.1 tha j = if 1 * y.toInt.toNat ≤ j ∧ j < 1 * y.toInt.toNat + 1 then G.1 tha (1 * x.toInt.toNat + (j - 1 * y.toInt.toNat)) else G.1 tha j) ∧ (∀ j : Nat, g.1 sa j = if 6 * y.toInt.toNat ≤ j ∧ j < 6 * y.toInt.toNat + 6 then G.1 sa (6 * x.toInt.toNat + (j - 6 * y.toInt.toNat)) else G.1 sa j)))) (RA base) := by
  refine MM.of (by decide) (Nat.le_of_ble_eq_true rfl) ?_
  intro p e s m below meth c C hPT ls hl
  obtain ⟨hx, hb, hr, hml, hown, hts, hlocks, hK, hnm⟩ := C
  obtain ⟨hZ, hT⟩ := hPT
  have hS : va_S (RA base) s.heap s.heap [] := va_S.rf
  have hF : Fr τ [66, 67, 68, 69, 70, 71, 72, 73, 74] G G := Fr.rf
  have hl : lv_has ls 3 [(0, .ref a), (1, .int x), (2, .int y)] := hl
  refine lv_aload_n hx hb dX10_copyLand_0 rfl (lv_at hl 0 rfl) ?_
  refine t_getr cf_11 hx hb hts hown hK hT h_a (k := 16) (P := fun q => τ q = 66) rfl (fun _ h9 => h9) fl_X10_31 (fun _ h9 => h9) dX10_copyLand_1 (fun q_1 eq_1 hq_1 => ?_)
  refine lv_iconst (v := 1) hx hb dX10_copyLand_4 (by decide) ?_
  refine lv_iload_n hx hb dX10_copyLand_5 rfl (lv_at hl 1 rfl) ?_
  refine lv_iload_n hx hb dX10_copyLand_6 rfl (lv_at hl 2 rfl) ?_
  refine t_callv (runS (As := [.ref q_1, .int 1, .int x, .int y]) (rest := []) ⟨hx, hb, hml, hown, hts⟩ (t_X10_copyRow_66 l D cy base τ G q_1 hq_1 x ⟨by omega, by omega⟩ y ⟨by omega, by omega⟩) sS_X10_274 hK ⟨Nat.le_trans hZ hS.1, hT⟩ ⟨Nat.le_of_ble_eq_true rfl, Nat.le_of_ble_eq_true rfl⟩ rfl hl.1 rfl (Nat.le_of_ble_eq_true rfl) dX10_copyLand_7 ⟨Nat.le_of_ble_eq_true rfl, Nat.le_of_ble_eq_true rfl⟩) hS (fun G_2 H locs hF_2 hr_2 hT hS => ?_)
  have hF := hF.tr hF_2 rfl
  have hr_2_p0 := hr_2
  have hr_2_p0 : ∀ j : Nat, G_2.1 q_1 j = if 1 * y.toInt.toNat ≤ j ∧ j < 1 * y.toInt.toNat + 1 then G.1 q_1 (1 * x.toInt.toNat + (j - 1 * y.toInt.toNat)) else G.1 q_1 j := hr_2_p0
  refine lv_aload_n hx hb dX10_copyLand_10 rfl (lv_at hl 0 rfl) ?_
  refine t_getr cf_11 hx hb hts hown hK hT h_a (k := 17) (P := fun q => τ q = 67) rfl (fun _ h9 => h9) fl_X10_34 (fun _ h9 => h9) dX10_copyLand_11 (fun q_3 eq_3 hq_3 => ?_)
  have eq_3 := (hF.r h_a (by decide) rfl _).symm.trans eq_3
  refine lv_iconst (v := 4) hx hb dX10_copyLand_14 (by decide) ?_
  refine lv_iload_n hx hb dX10_copyLand_15 rfl (lv_at hl 1 rfl) ?_
  refine lv_iload_n hx hb dX10_copyLand_16 rfl (lv_at hl 2 rfl) ?_
  refine t_callv (runS (As := [.ref q_3, .int 4, .int x, .int y]) (rest := []) ⟨hx, hb, hml, hown, hts⟩ (t_X10_copyRow_67 l D cy base τ G_2 q_3 hq_3 x ⟨by omega, by omega⟩ y ⟨by omega, by omega⟩) sS_X10_274 hK ⟨Nat.le_trans hZ hS.1, hT⟩ ⟨Nat.le_of_ble_eq_true rfl, Nat.le_of_ble_eq_true rfl⟩ rfl hl.1 rfl (Nat.le_of_ble_eq_true rfl) dX10_copyLand_17 ⟨Nat.le_of_ble_eq_true rfl, Nat.le_of_ble_eq_true rfl⟩) hS (fun G_4 H locs hF_4 hr_4 hT hS => ?_)
  have hF := hF.tr hF_4 rfl
  have hr_4_p0 := hr_4
  have hr_4_p0 : ∀ j : Nat, G_4.1 q_3 j = if 4 * y.toInt.toNat ≤ j ∧ j < 4 * y.toInt.toNat + 4 then G_2.1 q_3 (4 * x.toInt.toNat + (j - 4 * y.toInt.toNat)) else G_2.1 q_3 j := hr_4_p0
  refine lv_aload_n hx hb dX10_copyLand_20 rfl (lv_at hl 0 rfl) ?_
  refine t_getr cf_11 hx hb hts hown hK hT h_a (k := 18) (P := fun q => τ q = 68) rfl (fun _ h9 => h9) fl_X10_37 (fun _ h9 => h9) dX10_copyLand_21 (fun q_5 eq_5 hq_5 => ?_)
  have w_6 : tha = q_5 := Option.some.inj (e_tha.symm.trans ((hF.r h_a (by decide) rfl _).symm.trans eq_5))
  subst w_6
  refine lv_iconst (v := 1) hx hb dX10_copyLand_24 (by decide) ?_
  refine lv_iload_n hx hb dX10_copyLand_25 rfl (lv_at hl 1 rfl) ?_
  refine lv_iload_n hx hb dX10_copyLand_26 rfl (lv_at hl 2 rfl) ?_
  refine t_callv (runS (As := [.ref tha, .int 1, .int x, .int y]) (rest := []) ⟨hx, hb, hml, hown, hts⟩ (t_X10_copyRow_68 l D cy base τ G_4 tha h_tha x ⟨by omega, by omega⟩ y ⟨by omega, by omega⟩) sS_X10_274 hK ⟨Nat.le_trans hZ hS.1, hT⟩ ⟨Nat.le_of_ble_eq_true rfl, Nat.le_of_ble_eq_true rfl⟩ rfl hl.1 rfl (Nat.le_of_ble_eq_true rfl) dX10_copyLand_27 ⟨Nat.le_of_ble_eq_true rfl, Nat.le_of_ble_eq_true rfl⟩) hS (fun G_7 H locs hF_7 hr_7 hT hS => ?_)
  have hF := hF.tr hF_7 rfl
  have hr_7_p0 := hr_7
  have hr_7_p0 : ∀ j : Nat, G_7.1 tha j = if 1 * y.toInt.toNat ≤ j ∧ j < 1 * y.toInt.toNat + 1 then G_4.1 tha (1 * x.toInt.toNat + (j - 1 * y.toInt.toNat)) else G_4.1 tha j := hr_7_p0
  refine lv_aload_n hx hb dX10_copyLand_30 rfl (lv_at hl 0 rfl) ?_
  refine t_getr cf_11 hx hb hts hown hK hT h_a (k := 19) (P := fun q => τ q = 69) rfl (fun _ h9 => h9) fl_X10_40 (fun _ h9 => h9) dX10_copyLand_31 (fun q_8 eq_8 hq_8 => ?_)
  have eq_8 := (hF.r h_a (by decide) rfl _).symm.trans eq_8
  refine lv_bipush (v := 9) hx hb dX10_copyLand_34 (by decide) ?_
  refine lv_iload_n hx hb dX10_copyLand_36 rfl (lv_at hl 1 rfl) ?_
  refine lv_iload_n hx hb dX10_copyLand_37 rfl (lv_at hl 2 rfl) ?_
  refine t_callv (runS (As := [.ref q_8, .int 9, .int x, .int y]) (rest := []) ⟨hx, hb, hml, hown, hts⟩ (t_X10_copyRow_69 l D cy base τ G_7 q_8 hq_8 x ⟨by omega, by omega⟩ y ⟨by omega, by omega⟩) sS_X10_274 hK ⟨Nat.le_trans hZ hS.1, hT⟩ ⟨Nat.le_of_ble_eq_true rfl, Nat.le_of_ble_eq_true rfl⟩ rfl hl.1 rfl (Nat.le_of_ble_eq_true rfl) dX10_copyLand_38 ⟨Nat.le_of_ble_eq_true rfl, Nat.le_of_ble_eq_true rfl⟩) hS (fun G_9 H locs hF_9 hr_9 hT hS => ?_)
  have hF := hF.tr hF_9 rfl
  have hr_9_p0 := hr_9
  have hr_9_p0 : ∀ j : Nat, G_9.1 q_8 j = if 9 * y.toInt.toNat ≤ j ∧ j < 9 * y.toInt.toNat + 9 then G_7.1 q_8 (9 * x.toInt.toNat + (j - 9 * y.toInt.toNat)) else G_7.1 q_8 j := hr_9_p0
  refine lv_aload_n hx hb dX10_copyLand_41 rfl (lv_at hl 0 rfl) ?_
  refine t_getr cf_11 hx hb hts hown hK hT h_a (k := 20) (P := fun q => τ q = 70) rfl (fun _ h9 => h9) fl_X10_43 (fun _ h9 => h9) dX10_copyLand_42 (fun q_10 eq_10 hq_10 => ?_)
  have eq_10 := (hF.r h_a (by decide) rfl _).symm.trans eq_10
  refine lv_iconst (v := 1) hx hb dX10_copyLand_45 (by decide) ?_
  refine lv_iload_n hx hb dX10_copyLand_46 rfl (lv_at hl 1 rfl) ?_
  refine lv_iload_n hx hb dX10_copyLand_47 rfl (lv_at hl 2 rfl) ?_
  refine t_callv (runS (As := [.ref q_10, .int 1, .int x, .int y]) (rest := []) ⟨hx, hb, hml, hown, hts⟩ (t_X10_copyRow_70 l D cy base τ G_9 q_10 hq_10 x ⟨by omega, by omega⟩ y ⟨by omega, by omega⟩) sS_X10_274 hK ⟨Nat.le_trans hZ hS.1, hT⟩ ⟨Nat.le_of_ble_eq_true rfl, Nat.le_of_ble_eq_true rfl⟩ rfl hl.1 rfl (Nat.le_of_ble_eq_true rfl) dX10_copyLand_48 ⟨Nat.le_of_ble_eq_true rfl, Nat.le_of_ble_eq_true rfl⟩) hS (fun G_11 H locs hF_11 hr_11 hT hS => ?_)
  have hF := hF.tr hF_11 rfl
  have hr_11_p0 := hr_11
  have hr_11_p0 : ∀ j : Nat, G_11.1 q_10 j = if 1 * y.toInt.toNat ≤ j ∧ j < 1 * y.toInt.toNat + 1 then G_9.1 q_10 (1 * x.toInt.toNat + (j - 1 * y.toInt.toNat)) else G_9.1 q_10 j := hr_11_p0
  refine lv_aload_n hx hb dX10_copyLand_51 rfl (lv_at hl 0 rfl) ?_
  refine t_getr cf_11 hx hb hts hown hK hT h_a (k := 21) (P := fun q => τ q = 71) rfl (fun _ h9 => h9) fl_X10_46 (fun _ h9 => h9) dX10_copyLand_52 (fun q_12 eq_12 hq_12 => ?_)
  have eq_12 := (hF.r h_a (by decide) rfl _).symm.trans eq_12
  refine lv_bipush (v := 30) hx hb dX10_copyLand_55 (by decide) ?_
  refine lv_iload_n hx hb dX10_copyLand_57 rfl (lv_at hl 1 rfl) ?_
  refine lv_iload_n hx hb dX10_copyLand_58 rfl (lv_at hl 2 rfl) ?_
  refine t_callv (runS (As := [.ref q_12, .int 30, .int x, .int y]) (rest := []) ⟨hx, hb, hml, hown, hts⟩ (t_X10_copyRow_71 l D cy base τ G_11 q_12 hq_12 x ⟨by omega, by omega⟩ y ⟨by omega, by omega⟩) sS_X10_274 hK ⟨Nat.le_trans hZ hS.1, hT⟩ ⟨Nat.le_of_ble_eq_true rfl, Nat.le_of_ble_eq_true rfl⟩ rfl hl.1 rfl (Nat.le_of_ble_eq_true rfl) dX10_copyLand_59 ⟨Nat.le_of_ble_eq_true rfl, Nat.le_of_ble_eq_true rfl⟩) hS (fun G_13 H locs hF_13 hr_13 hT hS => ?_)
  have hF := hF.tr hF_13 rfl
  have hr_13_p0 := hr_13
  have hr_13_p0 : ∀ j : Nat, G_13.1 q_12 j = if 30 * y.toInt.toNat ≤ j ∧ j < 30 * y.toInt.toNat + 30 then G_11.1 q_12 (30 * x.toInt.toNat + (j - 30 * y.toInt.toNat)) else G_11.1 q_12 j := hr_13_p0
  refine lv_aload_n hx hb dX10_copyLand_62 rfl (lv_at hl 0 rfl) ?_
  refine t_getr cf_11 hx hb hts hown hK hT h_a (k := 22) (P := fun q => τ q = 72) rfl (fun _ h9 => h9) fl_X10_49 (fun _ h9 => h9) dX10_copyLand_63 (fun q_14 eq_14 hq_14 => ?_)
  have eq_14 := (hF.r h_a (by decide) rfl _).symm.trans eq_14
  refine lv_iconst (v := 1) hx hb dX10_copyLand_66 (by decide) ?_
  refine lv_iload_n hx hb dX10_copyLand_67 rfl (lv_at hl 1 rfl) ?_
  refine lv_iload_n hx hb dX10_copyLand_68 rfl (lv_at hl 2 rfl) ?_
  refine t_callv (runS (As := [.ref q_14, .int 1, .int x, .int y]) (rest := []) ⟨hx, hb, hml, hown, hts⟩ (t_X10_copyRow_72 l D cy base τ G_13 q_14 hq_14 x ⟨by omega, by omega⟩ y ⟨by omega, by omega⟩) sS_X10_274 hK ⟨Nat.le_trans hZ hS.1, hT⟩ ⟨Nat.le_of_ble_eq_true rfl, Nat.le_of_ble_eq_true rfl⟩ rfl hl.1 rfl (Nat.le_of_ble_eq_true rfl) dX10_copyLand_69 ⟨Nat.le_of_ble_eq_true rfl, Nat.le_of_ble_eq_true rfl⟩) hS (fun G_15 H locs hF_15 hr_15 hT hS => ?_)
  have hF := hF.tr hF_15 rfl
  have hr_15_p0 := hr_15
  have hr_15_p0 : ∀ j : Nat, G_15.1 q_14 j = if 1 * y.toInt.toNat ≤ j ∧ j < 1 * y.toInt.toNat + 1 then G_13.1 q_14 (1 * x.toInt.toNat + (j - 1 * y.toInt.toNat)) else G_13.1 q_14 j := hr_15_p0
  refine lv_aload_n hx hb dX10_copyLand_72 rfl (lv_at hl 0 rfl) ?_
  refine t_getr cf_11 hx hb hts hown hK hT h_a (k := 23) (P := fun q => τ q = 73) rfl (fun _ h9 => h9) fl_X10_52 (fun _ h9 => h9) dX10_copyLand_73 (fun q_16 eq_16 hq_16 => ?_)
  have eq_16 := (hF.r h_a (by decide) rfl _).symm.trans eq_16
  refine lv_bipush (v := 24) hx hb dX10_copyLand_76 (by decide) ?_
  refine lv_iload_n hx hb dX10_copyLand_78 rfl (lv_at hl 1 rfl) ?_
  refine lv_iload_n hx hb dX10_copyLand_79 rfl (lv_at hl 2 rfl) ?_
  refine t_callv (runS (As := [.ref q_16, .int 24, .int x, .int y]) (rest := []) ⟨hx, hb, hml, hown, hts⟩ (t_X10_copyRow_73 l D cy base τ G_15 q_16 hq_16 x ⟨by omega, by omega⟩ y ⟨by omega, by omega⟩) sS_X10_274 hK ⟨Nat.le_trans hZ hS.1, hT⟩ ⟨Nat.le_of_ble_eq_true rfl, Nat.le_of_ble_eq_true rfl⟩ rfl hl.1 rfl (Nat.le_of_ble_eq_true rfl) dX10_copyLand_80 ⟨Nat.le_of_ble_eq_true rfl, Nat.le_of_ble_eq_true rfl⟩) hS (fun G_17 H locs hF_17 hr_17 hT hS => ?_)
  have hF := hF.tr hF_17 rfl
  have hr_17_p0 := hr_17
  have hr_17_p0 : ∀ j : Nat, G_17.1 q_16 j = if 24 * y.toInt.toNat ≤ j ∧ j < 24 * y.toInt.toNat + 24 then G_15.1 q_16 (24 * x.toInt.toNat + (j - 24 * y.toInt.toNat)) else G_15.1 q_16 j := hr_17_p0
  refine lv_aload_n hx hb dX10_copyLand_83 rfl (lv_at hl 0 rfl) ?_
  refine t_getr cf_11 hx hb hts hown hK hT h_a (k := 24) (P := fun q => τ q = 74) rfl (fun _ h9 => h9) fl_X10_55 (fun _ h9 => h9) dX10_copyLand_84 (fun q_18 eq_18 hq_18 => ?_)
  have w_19 : sa = q_18 := Option.some.inj (e_sa.symm.trans ((hF.r h_a (by decide) rfl _).symm.trans eq_18))
  subst w_19
  refine lv_bipush (v := 6) hx hb dX10_copyLand_87 (by decide) ?_
  refine lv_iload_n hx hb dX10_copyLand_89 rfl (lv_at hl 1 rfl) ?_
  refine lv_iload_n hx hb dX10_copyLand_90 rfl (lv_at hl 2 rfl) ?_
  refine t_callv (runS (As := [.ref sa, .int 6, .int x, .int y]) (rest := []) ⟨hx, hb, hml, hown, hts⟩ (t_X10_copyRow_74 l D cy base τ G_17 sa h_sa x ⟨by omega, by omega⟩ y ⟨by omega, by omega⟩) sS_X10_274 hK ⟨Nat.le_trans hZ hS.1, hT⟩ ⟨Nat.le_of_ble_eq_true rfl, Nat.le_of_ble_eq_true rfl⟩ rfl hl.1 rfl (Nat.le_of_ble_eq_true rfl) dX10_copyLand_91 ⟨Nat.le_of_ble_eq_true rfl, Nat.le_of_ble_eq_true rfl⟩) hS (fun G_20 H locs hF_20 hr_20 hT hS => ?_)
  have hF := hF.tr hF_20 rfl
  have hr_20_p0 := hr_20
  have hr_20_p0 : ∀ j : Nat, G_20.1 sa j = if 6 * y.toInt.toNat ≤ j ∧ j < 6 * y.toInt.toNat + 6 then G_17.1 sa (6 * x.toInt.toNat + (j - 6 * y.toInt.toNat)) else G_17.1 sa j := hr_20_p0
  exact ret_v hx hb hr hlocks ⟨⟨hS.1, hS.2.1⟩, G_20, hF, ⟨rfl, ⟨(fun j => by rw [show G_20.1 tha j = G_7.1 tha j from ((hF_20.i h_tha (by decide) rfl j).trans ((hF_17.i h_tha (by decide) rfl j).trans ((hF_15.i h_tha (by decide) rfl j).trans ((hF_13.i h_tha (by decide) rfl j).trans ((hF_11.i h_tha (by decide) rfl j).trans (hF_9.i h_tha (by decide) rfl j)))))), hr_7_p0 j]; have e1 : ∀ j, G_4.1 tha j = G.1 tha j := fun j => ((hF_4.i h_tha (by decide) rfl j).trans (hF_2.i h_tha (by decide) rfl j)); simp only [e1]), (fun j => by rw [show G_20.1 sa j = G_20.1 sa j from rfl, hr_20_p0 j]; have e1 : ∀ j, G_17.1 sa j = G.1 sa j := fun j => ((hF_17.i h_sa (by decide) rfl j).trans ((hF_15.i h_sa (by decide) rfl j).trans ((hF_13.i h_sa (by decide) rfl j).trans ((hF_11.i h_sa (by decide) rfl j).trans ((hF_9.i h_sa (by decide) rfl j).trans ((hF_7.i h_sa (by decide) rfl j).trans ((hF_4.i h_sa (by decide) rfl j).trans (hF_2.i h_sa (by decide) rfl j)))))))); simp only [e1])⟩⟩, hT⟩ hS.2.2 (Nat.le_of_ble_eq_true rfl) (Nat.le_of_ble_eq_true rfl) dX10_copyLand_94
set_option maxHeartbeats 4000000 in
set_option maxRecDepth 100000 in
theorem t_X10_copyAll (l : Launch) (D : va_G) (cy : Nat → ClassId) (base : Nat) (τ : Nat → Nat) (G : Gh) (a : Nat) (h_a : τ a = 11) (x : Int32) (r_x : 0 ≤ x.toInt ∧ x.toInt ≤ 4) (y : Int32) (r_y : 0 ≤ y.toInt ∧ y.toInt ≤ 4) (tha : Nat) (h_tha : τ tha = 68) (e_tha : G.2.2.1 a 18 = some tha) (sa : Nat) (h_sa : τ sa = 74) (e_sa : G.2.2.1 a 24 = some sa) : MM l yX10_copyAll cX10_copyAll 3 none 2 0 0 D cy [.ref a, .int x, .int y] (PT D cy base τ G) (QT D cy base τ G [66, 67, 68, 69, 70, 71, 72, 73, 74, 76, 77] (fun v g => v = none ∧ ((∀ j : Nat, g.1 tha j = if 1 * y.toInt.toNat ≤ j ∧ j < 1 * y.toInt.toNat + 1 then G.1 tha (1 * x.toInt.toNat + (j - 1 * y.toInt.toNat)) else G.1 tha j) ∧ (∀ j : Nat, g.1 sa j = if 6 * y.toInt.toNat ≤ j ∧ j < 6 * y.toInt.toNat + 6 then G.1 sa (6 * x.toInt.toNat + (j - 6 * y.toInt.toNat)) else G.1 sa j)))) (RA base) := by
  refine MM.of (by decide) (Nat.le_of_ble_eq_true rfl) ?_
  intro p e s m below meth c C hPT ls hl
  obtain ⟨hx, hb, hr, hml, hown, hts, hlocks, hK, hnm⟩ := C
  obtain ⟨hZ, hT⟩ := hPT
  have hS : va_S (RA base) s.heap s.heap [] := va_S.rf
  have hF : Fr τ [66, 67, 68, 69, 70, 71, 72, 73, 74, 76, 77] G G := Fr.rf
  have hl : lv_has ls 3 [(0, .ref a), (1, .int x), (2, .int y)] := hl
  refine lv_aload_n hx hb dX10_copyAll_0 rfl (lv_at hl 0 rfl) ?_
  refine lv_iload_n hx hb dX10_copyAll_1 rfl (lv_at hl 1 rfl) ?_
  refine lv_iload_n hx hb dX10_copyAll_2 rfl (lv_at hl 2 rfl) ?_
  refine t_callv (runV (As := [.int x, .int y]) (rest := []) ⟨hx, hb, hml, hown, hts⟩ (t_X10_copyLand l D cy base τ G a h_a x ⟨by omega, by omega⟩ y ⟨by omega, by omega⟩ tha h_tha e_tha sa h_sa e_sa) sV_X10_270 hK (t_recv cf_11 hK hT h_a) ⟨Nat.le_trans hZ hS.1, hT⟩ ⟨Nat.le_of_ble_eq_true rfl, Nat.le_of_ble_eq_true rfl⟩ rfl hl.1 rfl (Nat.le_of_ble_eq_true rfl) dX10_copyAll_3 ⟨Nat.le_of_ble_eq_true rfl, Nat.le_of_ble_eq_true rfl⟩) hS (fun G_1 H locs hF_1 hr_1 hT hS => ?_)
  have hF := hF.tr hF_1 rfl
  obtain ⟨hr_1_p0, hr_1_p1⟩ := hr_1
  have hr_1_p0 : ∀ j : Nat, G_1.1 tha j = if 1 * y.toInt.toNat ≤ j ∧ j < 1 * y.toInt.toNat + 1 then G.1 tha (1 * x.toInt.toNat + (j - 1 * y.toInt.toNat)) else G.1 tha j := hr_1_p0
  have hr_1_p1 : ∀ j : Nat, G_1.1 sa j = if 6 * y.toInt.toNat ≤ j ∧ j < 6 * y.toInt.toNat + 6 then G.1 sa (6 * x.toInt.toNat + (j - 6 * y.toInt.toNat)) else G.1 sa j := hr_1_p1
  refine lv_aload_n hx hb dX10_copyAll_6 rfl (lv_at hl 0 rfl) ?_
  refine t_getr cf_11 hx hb hts hown hK hT h_a (k := 26) (P := fun q => τ q = 76) rfl (fun _ h9 => h9) fl_X10_62 (fun _ h9 => h9) dX10_copyAll_7 (fun q_2 eq_2 hq_2 => ?_)
  have eq_2 := (hF.r h_a (by decide) rfl _).symm.trans eq_2
  refine lv_iconst (v := 1) hx hb dX10_copyAll_10 (by decide) ?_
  refine lv_iload_n hx hb dX10_copyAll_11 rfl (lv_at hl 1 rfl) ?_
  refine lv_iload_n hx hb dX10_copyAll_12 rfl (lv_at hl 2 rfl) ?_
  refine t_callv (runS (As := [.ref q_2, .int 1, .int x, .int y]) (rest := []) ⟨hx, hb, hml, hown, hts⟩ (t_X10_copyRow_76 l D cy base τ G_1 q_2 hq_2 x ⟨by omega, by omega⟩ y ⟨by omega, by omega⟩) sS_X10_274 hK ⟨Nat.le_trans hZ hS.1, hT⟩ ⟨Nat.le_of_ble_eq_true rfl, Nat.le_of_ble_eq_true rfl⟩ rfl hl.1 rfl (Nat.le_of_ble_eq_true rfl) dX10_copyAll_13 ⟨Nat.le_of_ble_eq_true rfl, Nat.le_of_ble_eq_true rfl⟩) hS (fun G_3 H locs hF_3 hr_3 hT hS => ?_)
  have hF := hF.tr hF_3 rfl
  have hr_3_p0 := hr_3
  have hr_3_p0 : ∀ j : Nat, G_3.1 q_2 j = if 1 * y.toInt.toNat ≤ j ∧ j < 1 * y.toInt.toNat + 1 then G_1.1 q_2 (1 * x.toInt.toNat + (j - 1 * y.toInt.toNat)) else G_1.1 q_2 j := hr_3_p0
  refine lv_aload_n hx hb dX10_copyAll_16 rfl (lv_at hl 0 rfl) ?_
  refine t_getr cf_11 hx hb hts hown hK hT h_a (k := 27) (P := fun q => τ q = 77) rfl (fun _ h9 => h9) fl_X10_65 (fun _ h9 => h9) dX10_copyAll_17 (fun q_4 eq_4 hq_4 => ?_)
  have eq_4 := (hF.r h_a (by decide) rfl _).symm.trans eq_4
  refine lv_bipush (v := 6) hx hb dX10_copyAll_20 (by decide) ?_
  refine lv_iload_n hx hb dX10_copyAll_22 rfl (lv_at hl 1 rfl) ?_
  refine lv_iload_n hx hb dX10_copyAll_23 rfl (lv_at hl 2 rfl) ?_
  refine t_callv (runS (As := [.ref q_4, .int 6, .int x, .int y]) (rest := []) ⟨hx, hb, hml, hown, hts⟩ (t_X10_copyRow_77 l D cy base τ G_3 q_4 hq_4 x ⟨by omega, by omega⟩ y ⟨by omega, by omega⟩) sS_X10_274 hK ⟨Nat.le_trans hZ hS.1, hT⟩ ⟨Nat.le_of_ble_eq_true rfl, Nat.le_of_ble_eq_true rfl⟩ rfl hl.1 rfl (Nat.le_of_ble_eq_true rfl) dX10_copyAll_24 ⟨Nat.le_of_ble_eq_true rfl, Nat.le_of_ble_eq_true rfl⟩) hS (fun G_5 H locs hF_5 hr_5 hT hS => ?_)
  have hF := hF.tr hF_5 rfl
  have hr_5_p0 := hr_5
  have hr_5_p0 : ∀ j : Nat, G_5.1 q_4 j = if 6 * y.toInt.toNat ≤ j ∧ j < 6 * y.toInt.toNat + 6 then G_3.1 q_4 (6 * x.toInt.toNat + (j - 6 * y.toInt.toNat)) else G_3.1 q_4 j := hr_5_p0
  exact ret_v hx hb hr hlocks ⟨⟨hS.1, hS.2.1⟩, G_5, hF, ⟨rfl, ⟨(fun j => by rw [show G_5.1 tha j = G_1.1 tha j from ((hF_5.i h_tha (by decide) rfl j).trans (hF_3.i h_tha (by decide) rfl j)), hr_1_p0 j]), (fun j => by rw [show G_5.1 sa j = G_1.1 sa j from ((hF_5.i h_sa (by decide) rfl j).trans (hF_3.i h_sa (by decide) rfl j)), hr_1_p1 j])⟩⟩, hT⟩ hS.2.2 (Nat.le_of_ble_eq_true rfl) (Nat.le_of_ble_eq_true rfl) dX10_copyAll_27
set_option maxHeartbeats 4000000 in
set_option maxRecDepth 100000 in
theorem t_X10_keep (l : Launch) (D : va_G) (cy : Nat → ClassId) (base : Nat) (τ : Nat → Nat) (G : Gh) (a : Nat) (h_a : τ a = 11) (v0 : Int32) (tha : Nat) (h_tha : τ tha = 68) (e_tha : G.2.2.1 a 18 = some tha) (sa : Nat) (h_sa : τ sa = 74) (e_sa : G.2.2.1 a 24 = some sa) (hI : INV G tha sa) : MM l yX10_keep cX10_keep 2 (some .int) 3 0 0 D cy [.ref a, .int v0] (PT D cy base τ G) (QT D cy base τ G [11, 66, 67, 68, 69, 70, 71, 72, 73, 74, 76, 77, 78] (fun v g => ∃ r : Int32, v = some (.int r) ∧ ((INV g tha sa)))) (RA base) := by
  refine MM.of (by decide) (Nat.le_of_ble_eq_true rfl) ?_
  intro p e s m below meth c C hPT ls hl
  obtain ⟨hx, hb, hr, hml, hown, hts, hlocks, hK, hnm⟩ := C
  obtain ⟨hZ, hT⟩ := hPT
  have hS : va_S (RA base) s.heap s.heap [] := va_S.rf
  have hF : Fr τ [11, 66, 67, 68, 69, 70, 71, 72, 73, 74, 76, 77, 78] G G := Fr.rf
  have hl : lv_has ls 2 [(0, .ref a), (1, .int v0)] := hl
  refine lv_aload_n hx hb dX10_keep_0 rfl (lv_at hl 0 rfl) ?_
  refine lv_iconst (v := 0) hx hb dX10_keep_1 (by decide) ?_
  refine t_puti (x := 0) cf_11 hx hb hts hown hK hT hS h_a (k := 0) rfl trivial fl_X10_111 (fun _ h9 => h9) rfl rfl rfl dX10_keep_2 (fun H locs G_1 eG_1 hT hS => ?_)
  have hF := hF.wI eG_1 h_a rfl
  refine lv_iload_n hx hb dX10_keep_5 rfl (lv_at hl 1 rfl) ?_
  refine lv_i2l hx hb dX10_keep_6 rfl ?_
  refine lv_topl (fun z_2 ez_2 => ?_)
  have tz_2 : z_2.toInt = v0.toInt := by rw [ez_2]; exact wide_t v0
  have az_2 := min_t v0
  have bz_2 := max_t v0
  refine lv_lconst (v := 0) hx hb dX10_keep_7 (by decide) ?_
  refine lv_ldc2 (v := 2) hx hb hown (hts _ kl_X10_502) dX10_keep_8 ?_
  refine pu_calli (runS (As := [.long z_2, .long 0, .long 2]) (rest := []) ⟨hx, hb, hml, hown, hts⟩ (t_X10_in l D cy base τ G_1 z_2 0 2) sS_X10_116 hK ⟨Nat.le_trans hZ hS.1, hT⟩ ⟨Nat.le_of_ble_eq_true rfl, Nat.le_of_ble_eq_true rfl⟩ rfl hl.1 rfl (Nat.le_of_ble_eq_true rfl) dX10_keep_11 ⟨Nat.le_of_ble_eq_true rfl, Nat.le_of_ble_eq_true rfl⟩) (fun r_3 hr_3 => ?_)
  have hr_3_c := hr_3
  rcases hr_3_c with hr_3_0 | hr_3_1
  · skip
    obtain ⟨er_3, hr_3_0_f0, hr_3_0_f1⟩ := hr_3_0
    have hr_3_0_f0 : 0 ≤ z_2.toInt := hr_3_0_f0
    have hr_3_0_f1 : z_2.toInt ≤ 2 := hr_3_0_f1
    subst er_3
    refine W.eq (g2 := F0 m 14 ls [.int 1]) rfl ?_
    refine lv_if_ne (tgt := 20) hx hb dX10_keep_14 (by decide) (fun _ => ?_) (fun c_4 => absurd c_4 (by decide))
    refine lv_aload_n hx hb dX10_keep_20 rfl (lv_at hl 0 rfl) ?_
    refine lv_iconst (v := 0) hx hb dX10_keep_21 (by decide) ?_
    refine lv_iconst (v := 1) hx hb dX10_keep_22 (by decide) ?_
    refine lv_iload_n hx hb dX10_keep_23 rfl (lv_at hl 1 rfl) ?_
    refine lv_iadd hx hb dX10_keep_24 ?_
    refine lv_topi (fun z_5 ez_5 => ?_)
    have tz_5 : z_5.toInt = 1 + v0.toInt := add_t ez_5 (show -2147483648 ≤ 1 + v0.toInt by omega) (show 1 + v0.toInt < 2147483648 by omega)
    refine t_callv (runV (As := [.int 0, .int z_5]) (rest := []) ⟨hx, hb, hml, hown, hts⟩ (t_X10_copyAll l D cy base τ G_1 a h_a 0 (by decide) z_5 ⟨by omega, by omega⟩ tha h_tha ((hF.r h_a (by decide) rfl _).trans e_tha) sa h_sa ((hF.r h_a (by decide) rfl _).trans e_sa)) sV_X10_516 hK (t_recv cf_11 hK hT h_a) ⟨Nat.le_trans hZ hS.1, hT⟩ ⟨Nat.le_of_ble_eq_true rfl, Nat.le_of_ble_eq_true rfl⟩ rfl hl.1 rfl (Nat.le_of_ble_eq_true rfl) dX10_keep_25 ⟨Nat.le_of_ble_eq_true rfl, Nat.le_of_ble_eq_true rfl⟩) hS (fun G_6 H locs hF_6 hr_6 hT hS => ?_)
    have hF := hF.tr hF_6 rfl
    obtain ⟨hr_6_p0, hr_6_p1⟩ := hr_6
    have hr_6_p0 : ∀ j : Nat, G_6.1 tha j = if 1 * z_5.toInt.toNat ≤ j ∧ j < 1 * z_5.toInt.toNat + 1 then G_1.1 tha (1 * (0 : Int).toNat + (j - 1 * z_5.toInt.toNat)) else G_1.1 tha j := hr_6_p0
    have hr_6_p1 : ∀ j : Nat, G_6.1 sa j = if 6 * z_5.toInt.toNat ≤ j ∧ j < 6 * z_5.toInt.toNat + 6 then G_1.1 sa (6 * (0 : Int).toNat + (j - 6 * z_5.toInt.toNat)) else G_1.1 sa j := hr_6_p1
    refine lv_aload_n hx hb dX10_keep_28 rfl (lv_at hl 0 rfl) ?_
    refine t_getr cf_11 hx hb hts hown hK hT h_a (k := 28) (P := fun q => τ q = 78) rfl (fun _ h9 => h9) fl_X10_68 (fun _ h9 => h9) dX10_keep_29 (fun q_7 eq_7 hq_7 => ?_)
    have eq_7 := (hF.r h_a (by decide) rfl _).symm.trans eq_7
    refine lv_iload_n hx hb dX10_keep_32 rfl (lv_at hl 1 rfl) ?_
    refine lv_iconst (v := 1) hx hb dX10_keep_33 (by decide) ?_
    refine t_zast (n := 3) (i := v0) (x := 1) rfl (by decide) hx hb hK hT hS hq_7 (hT.len hq_7 (by decide)) ⟨by omega, by omega⟩ trivial dX10_keep_34 (fun H locs G_8 eG_8 hT hS => ?_)
    have hF := hF.wI eG_8 hq_7 rfl
    refine lv_iconst (v := 0) hx hb dX10_keep_35 (by decide) ?_
    exact ret_i hx hb hr hlocks ⟨⟨hS.1, hS.2.1⟩, G_8, hF, ⟨_, rfl, (INV.same (INV.cp (INV.same hI (fun j => by rw [eG_1]; exact wI_ne (Or.inl (tag_ne h_a h_tha (by decide)))) (fun j => by rw [eG_1]; exact wI_ne (Or.inl (tag_ne h_a h_sa (by decide))))) (by omega) hr_6_p0 hr_6_p1) (fun j => by rw [eG_8]; exact wI_ne (Or.inl (tag_ne hq_7 h_tha (by decide)))) (fun j => by rw [eG_8]; exact wI_ne (Or.inl (tag_ne hq_7 h_sa (by decide)))))⟩, hT⟩ hS.2.2 (Nat.le_of_ble_eq_true rfl) (Nat.le_of_ble_eq_true rfl) dX10_keep_36
  · skip
    have er_3 := hr_3_1
    subst er_3
    refine W.eq (g2 := F0 m 14 ls [.int 0]) rfl ?_
    refine lv_if_ne (tgt := 20) hx hb dX10_keep_14 (by decide) (fun c_9 => absurd rfl c_9) (fun _ => ?_)
    refine lv_bipush (v := (-2)) hx hb dX10_keep_17 (by decide) ?_
    exact ret_i hx hb hr hlocks ⟨⟨hS.1, hS.2.1⟩, G_1, hF, ⟨_, rfl, (INV.same hI (fun j => by rw [eG_1]; exact wI_ne (Or.inl (tag_ne h_a h_tha (by decide)))) (fun j => by rw [eG_1]; exact wI_ne (Or.inl (tag_ne h_a h_sa (by decide)))))⟩, hT⟩ hS.2.2 (Nat.le_of_ble_eq_true rfl) (Nat.le_of_ble_eq_true rfl) dX10_keep_19
set_option maxHeartbeats 4000000 in
set_option maxRecDepth 100000 in
theorem t_X10_back (l : Launch) (D : va_G) (cy : Nat → ClassId) (base : Nat) (τ : Nat → Nat) (G : Gh) (a : Nat) (h_a : τ a = 11) (v0 : Int32) (tha : Nat) (h_tha : τ tha = 68) (e_tha : G.2.2.1 a 18 = some tha) (sa : Nat) (h_sa : τ sa = 74) (e_sa : G.2.2.1 a 24 = some sa) (hI : INV G tha sa) : MM l yX10_back cX10_back 2 (some .int) 3 0 0 D cy [.ref a, .int v0] (PT D cy base τ G) (QT D cy base τ G [11, 66, 67, 68, 69, 70, 71, 72, 73, 74, 76, 77] (fun v g => ∃ r : Int32, v = some (.int r) ∧ ((INV g tha sa)))) (RA base) := by
  refine MM.of (by decide) (Nat.le_of_ble_eq_true rfl) ?_
  intro p e s m below meth c C hPT ls hl
  obtain ⟨hx, hb, hr, hml, hown, hts, hlocks, hK, hnm⟩ := C
  obtain ⟨hZ, hT⟩ := hPT
  have hS : va_S (RA base) s.heap s.heap [] := va_S.rf
  have hF : Fr τ [11, 66, 67, 68, 69, 70, 71, 72, 73, 74, 76, 77] G G := Fr.rf
  have hl : lv_has ls 2 [(0, .ref a), (1, .int v0)] := hl
  refine lv_aload_n hx hb dX10_back_0 rfl (lv_at hl 0 rfl) ?_
  refine lv_iconst (v := 0) hx hb dX10_back_1 (by decide) ?_
  refine t_puti (x := 0) cf_11 hx hb hts hown hK hT hS h_a (k := 0) rfl trivial fl_X10_111 (fun _ h9 => h9) rfl rfl rfl dX10_back_2 (fun H locs G_1 eG_1 hT hS => ?_)
  have hF := hF.wI eG_1 h_a rfl
  refine lv_iload_n hx hb dX10_back_5 rfl (lv_at hl 1 rfl) ?_
  refine lv_i2l hx hb dX10_back_6 rfl ?_
  refine lv_topl (fun z_2 ez_2 => ?_)
  have tz_2 : z_2.toInt = v0.toInt := by rw [ez_2]; exact wide_t v0
  have az_2 := min_t v0
  have bz_2 := max_t v0
  refine lv_lconst (v := 0) hx hb dX10_back_7 (by decide) ?_
  refine lv_ldc2 (v := 2) hx hb hown (hts _ kl_X10_502) dX10_back_8 ?_
  refine pu_calli (runS (As := [.long z_2, .long 0, .long 2]) (rest := []) ⟨hx, hb, hml, hown, hts⟩ (t_X10_in l D cy base τ G_1 z_2 0 2) sS_X10_116 hK ⟨Nat.le_trans hZ hS.1, hT⟩ ⟨Nat.le_of_ble_eq_true rfl, Nat.le_of_ble_eq_true rfl⟩ rfl hl.1 rfl (Nat.le_of_ble_eq_true rfl) dX10_back_11 ⟨Nat.le_of_ble_eq_true rfl, Nat.le_of_ble_eq_true rfl⟩) (fun r_3 hr_3 => ?_)
  have hr_3_c := hr_3
  rcases hr_3_c with hr_3_0 | hr_3_1
  · skip
    obtain ⟨er_3, hr_3_0_f0, hr_3_0_f1⟩ := hr_3_0
    have hr_3_0_f0 : 0 ≤ z_2.toInt := hr_3_0_f0
    have hr_3_0_f1 : z_2.toInt ≤ 2 := hr_3_0_f1
    subst er_3
    refine W.eq (g2 := F0 m 14 ls [.int 1]) rfl ?_
    refine lv_if_ne (tgt := 20) hx hb dX10_back_14 (by decide) (fun _ => ?_) (fun c_4 => absurd c_4 (by decide))
    refine lv_aload_n hx hb dX10_back_20 rfl (lv_at hl 0 rfl) ?_
    refine t_getr cf_11 hx hb hts hown hK hT h_a (k := 28) (P := fun q => τ q = 78) rfl (fun _ h9 => h9) fl_X10_68 (fun _ h9 => h9) dX10_back_21 (fun q_5 eq_5 hq_5 => ?_)
    have eq_5 := (hF.r h_a (by decide) rfl _).symm.trans eq_5
    refine lv_iload_n hx hb dX10_back_24 rfl (lv_at hl 1 rfl) ?_
    refine t_zald (n := 3) (i := v0) rfl (by decide) hx hb hK hT hq_5 (hT.len hq_5 (by decide)) ⟨by omega, by omega⟩ dX10_back_25 (fun z_6 ez_6 rz_6 => ?_)
    have ez_6 : z_6 = G.1 q_5 v0.toNatClampNeg := ez_6.trans (hF.i hq_5 (by decide) rfl _)
    refine lv_if_ne (tgt := 32) hx hb dX10_back_26 (by decide) (fun c_7 => ?_) (fun c_7 => ?_)
    · skip
      have tc_7 : ¬ z_6.toInt = 0 := fun h => c_7 ((fa_eq _ _).mpr h)
      refine lv_aload_n hx hb dX10_back_32 rfl (lv_at hl 0 rfl) ?_
      refine lv_iconst (v := 1) hx hb dX10_back_33 (by decide) ?_
      refine lv_iload_n hx hb dX10_back_34 rfl (lv_at hl 1 rfl) ?_
      refine lv_iadd hx hb dX10_back_35 ?_
      refine lv_topi (fun z_8 ez_8 => ?_)
      have tz_8 : z_8.toInt = 1 + v0.toInt := add_t ez_8 (show -2147483648 ≤ 1 + v0.toInt by omega) (show 1 + v0.toInt < 2147483648 by omega)
      refine lv_iconst (v := 0) hx hb dX10_back_36 (by decide) ?_
      refine t_callv (runV (As := [.int z_8, .int 0]) (rest := []) ⟨hx, hb, hml, hown, hts⟩ (t_X10_copyAll l D cy base τ G_1 a h_a z_8 ⟨by omega, by omega⟩ 0 (by decide) tha h_tha ((hF.r h_a (by decide) rfl _).trans e_tha) sa h_sa ((hF.r h_a (by decide) rfl _).trans e_sa)) sV_X10_516 hK (t_recv cf_11 hK hT h_a) ⟨Nat.le_trans hZ hS.1, hT⟩ ⟨Nat.le_of_ble_eq_true rfl, Nat.le_of_ble_eq_true rfl⟩ rfl hl.1 rfl (Nat.le_of_ble_eq_true rfl) dX10_back_37 ⟨Nat.le_of_ble_eq_true rfl, Nat.le_of_ble_eq_true rfl⟩) hS (fun G_9 H locs hF_9 hr_9 hT hS => ?_)
      have hF := hF.tr hF_9 rfl
      obtain ⟨hr_9_p0, hr_9_p1⟩ := hr_9
      have hr_9_p0 : ∀ j : Nat, G_9.1 tha j = if 1 * (0 : Int).toNat ≤ j ∧ j < 1 * (0 : Int).toNat + 1 then G_1.1 tha (1 * z_8.toInt.toNat + (j - 1 * (0 : Int).toNat)) else G_1.1 tha j := hr_9_p0
      have hr_9_p1 : ∀ j : Nat, G_9.1 sa j = if 6 * (0 : Int).toNat ≤ j ∧ j < 6 * (0 : Int).toNat + 6 then G_1.1 sa (6 * z_8.toInt.toNat + (j - 6 * (0 : Int).toNat)) else G_1.1 sa j := hr_9_p1
      refine lv_iconst (v := 0) hx hb dX10_back_40 (by decide) ?_
      exact ret_i hx hb hr hlocks ⟨⟨hS.1, hS.2.1⟩, G_9, hF, ⟨_, rfl, (INV.cp (INV.same hI (fun j => by rw [eG_1]; exact wI_ne (Or.inl (tag_ne h_a h_tha (by decide)))) (fun j => by rw [eG_1]; exact wI_ne (Or.inl (tag_ne h_a h_sa (by decide))))) (by omega) hr_9_p0 hr_9_p1)⟩, hT⟩ hS.2.2 (Nat.le_of_ble_eq_true rfl) (Nat.le_of_ble_eq_true rfl) dX10_back_41
    · skip
      have tc_7 : z_6.toInt = 0 := (fa_eq _ _).mp c_7
      refine lv_bipush (v := (-6)) hx hb dX10_back_29 (by decide) ?_
      exact ret_i hx hb hr hlocks ⟨⟨hS.1, hS.2.1⟩, G_1, hF, ⟨_, rfl, (INV.same hI (fun j => by rw [eG_1]; exact wI_ne (Or.inl (tag_ne h_a h_tha (by decide)))) (fun j => by rw [eG_1]; exact wI_ne (Or.inl (tag_ne h_a h_sa (by decide)))))⟩, hT⟩ hS.2.2 (Nat.le_of_ble_eq_true rfl) (Nat.le_of_ble_eq_true rfl) dX10_back_31
  · skip
    have er_3 := hr_3_1
    subst er_3
    refine W.eq (g2 := F0 m 14 ls [.int 0]) rfl ?_
    refine lv_if_ne (tgt := 20) hx hb dX10_back_14 (by decide) (fun c_10 => absurd rfl c_10) (fun _ => ?_)
    refine lv_bipush (v := (-2)) hx hb dX10_back_17 (by decide) ?_
    exact ret_i hx hb hr hlocks ⟨⟨hS.1, hS.2.1⟩, G_1, hF, ⟨_, rfl, (INV.same hI (fun j => by rw [eG_1]; exact wI_ne (Or.inl (tag_ne h_a h_tha (by decide)))) (fun j => by rw [eG_1]; exact wI_ne (Or.inl (tag_ne h_a h_sa (by decide)))))⟩, hT⟩ hS.2.2 (Nat.le_of_ble_eq_true rfl) (Nat.le_of_ble_eq_true rfl) dX10_back_19
set_option maxHeartbeats 4000000 in
set_option maxRecDepth 100000 in
theorem t_X10_land (l : Launch) (D : va_G) (cy : Nat → ClassId) (base : Nat) (τ : Nat → Nat) (G : Gh) (a : Nat) (h_a : τ a = 11) (tha : Nat) (h_tha : τ tha = 68) (e_tha : G.2.2.1 a 18 = some tha) (sa : Nat) (h_sa : τ sa = 74) (e_sa : G.2.2.1 a 24 = some sa) (tp : Int32) (e_tp : tp = G.1 a 6) (r_tp : 0 ≤ tp.toInt ∧ tp.toInt ≤ 1600) (hI : INV G tha sa) : MM l yX10_land cX10_land 1 (some .int) 7 0 0 D cy [.ref a] (PT D cy base τ G) (QT D cy base τ G [11, 66, 67, 68, 69, 70, 71, 72, 73, 74, 75, 76] (fun v g => ∃ r : Int32, v = some (.int r) ∧ ((INV g tha sa)))) (RA base) := by
  refine MM.of (by decide) (Nat.le_of_ble_eq_true rfl) ?_
  intro p e s m below meth c C hPT ls hl
  obtain ⟨hx, hb, hr, hml, hown, hts, hlocks, hK, hnm⟩ := C
  obtain ⟨hZ, hT⟩ := hPT
  have hS : va_S (RA base) s.heap s.heap [] := va_S.rf
  have hF : Fr τ [11, 66, 67, 68, 69, 70, 71, 72, 73, 74, 75, 76] G G := Fr.rf
  have kx0 : ∀ j : Nat, j ≠ 4 → G.1 tha j = G.1 tha j := fun _ _ => rfl
  have kx1 : ∀ j : Nat, j < 24 → G.1 sa j = G.1 sa j := fun _ _ => rfl
  have hl : lv_has ls 1 [(0, .ref a)] := hl
  refine lv_aload_n hx hb dX10_land_0 rfl (lv_at hl 0 rfl) ?_
  refine lv_iconst (v := 0) hx hb dX10_land_1 (by decide) ?_
  refine t_puti (x := 0) cf_11 hx hb hts hown hK hT hS h_a (k := 0) rfl trivial fl_X10_111 (fun _ h9 => h9) rfl rfl rfl dX10_land_2 (fun H locs G_1 eG_1 hT hS => ?_)
  have hF := hF.wI eG_1 h_a rfl
  have kx0 : ∀ j : Nat, j ≠ 4 → G_1.1 tha j = G.1 tha j := fun j hj => (by rw [eG_1]; exact (wI_ne (Or.inl (tag_ne h_a h_tha (by decide)))).trans (kx0 j hj))
  have kx1 : ∀ j : Nat, j < 24 → G_1.1 sa j = G.1 sa j := fun j hj => (by rw [eG_1]; exact (wI_ne (Or.inl (tag_ne h_a h_sa (by decide)))).trans (kx1 j hj))
  have k_2 : tp = G_1.1 a 6 := by rw [eG_1, wI_ne (Or.inr (by decide))]; exact e_tp
  refine lv_aload_n hx hb dX10_land_5 rfl (lv_at hl 0 rfl) ?_
  refine t_callv (runV (As := []) (rest := []) ⟨hx, hb, hml, hown, hts⟩ (t_X10_clears l D cy base τ G_1 a h_a tha h_tha ((hF.r h_a (by decide) rfl _).trans e_tha) sa h_sa ((hF.r h_a (by decide) rfl _).trans e_sa)) sV_X10_248 hK (t_recv cf_11 hK hT h_a) ⟨Nat.le_trans hZ hS.1, hT⟩ ⟨Nat.le_of_ble_eq_true rfl, Nat.le_of_ble_eq_true rfl⟩ rfl hl.1 rfl (Nat.le_of_ble_eq_true rfl) dX10_land_6 ⟨Nat.le_of_ble_eq_true rfl, Nat.le_of_ble_eq_true rfl⟩) hS (fun G_3 H locs hF_3 hr_3 hT hS => ?_)
  have hF := hF.tr hF_3 rfl
  have k_4 : tp = G_3.1 a 6 := k_2.trans (hF_3.i h_a (by decide) rfl _).symm
  obtain ⟨hr_3_p0, hr_3_x0, hr_3_x1⟩ := hr_3
  have kx0 : ∀ j : Nat, j ≠ 4 → G_3.1 tha j = G.1 tha j := fun j hj => (hr_3_x0 j hj).trans (kx0 j hj)
  have kx1 : ∀ j : Nat, j < 24 → G_3.1 sa j = G.1 sa j := fun j hj => (hr_3_x1 j hj).trans (kx1 j hj)
  obtain ⟨z_5, ez_5, hr_3_p0⟩ : ∃ z_5 : Int32, z_5 = G_3.1 sa 25 ∧ (1 ≤ z_5.toInt) := ⟨_, rfl, hr_3_p0⟩
  have qz_5 : (25 % 6 = 0 → 0 ≤ z_5.toInt ∧ z_5.toInt ≤ 9) ∧ (25 % 6 = 1 → 0 ≤ z_5.toInt ∧ z_5.toInt ≤ 50) ∧ (25 % 6 = 3 → 0 ≤ z_5.toInt ∧ z_5.toInt ≤ 50) := by rw [ez_5]; exact hT.rgi h_sa (by decide) 25
  have rz_5 : 0 ≤ z_5.toInt ∧ z_5.toInt ≤ 50 := by omega
  refine lv_aload_n hx hb dX10_land_9 rfl (lv_at hl 0 rfl) ?_
  refine t_callv (runV (As := []) (rest := []) ⟨hx, hb, hml, hown, hts⟩ (t_X10_begins l D cy base τ G_3 a h_a tp k_4 ⟨by omega, by omega⟩) sV_X10_251 hK (t_recv cf_11 hK hT h_a) ⟨Nat.le_trans hZ hS.1, hT⟩ ⟨Nat.le_of_ble_eq_true rfl, Nat.le_of_ble_eq_true rfl⟩ rfl hl.1 rfl (Nat.le_of_ble_eq_true rfl) dX10_land_10 ⟨Nat.le_of_ble_eq_true rfl, Nat.le_of_ble_eq_true rfl⟩) hS (fun G_6 H locs hF_6 hr_6 hT hS => ?_)
  have hF := hF.tr hF_6 rfl
  have kx0 : ∀ j : Nat, j ≠ 4 → G_6.1 tha j = G.1 tha j := fun j hj => (hF_6.i h_tha (by decide) rfl j).trans (kx0 j hj)
  have kx1 : ∀ j : Nat, j < 24 → G_6.1 sa j = G.1 sa j := fun j hj => (hF_6.i h_sa (by decide) rfl j).trans (kx1 j hj)
  have k_8 : z_5 = G_6.1 sa 25 := ez_5.trans (hF_6.i h_sa (by decide) rfl _).symm
  obtain ⟨hr_6_p0, hr_6_s0⟩ := hr_6
  have k_9 : tp = G_6.1 a 6 := k_4.trans hr_6_s0.symm
  obtain ⟨z_10, ez_10, hr_6_p0⟩ : ∃ z_10 : Int32, z_10 = G_6.1 a 7 ∧ (z_10.toInt ≤ tp.toInt) := ⟨_, rfl, hr_6_p0⟩
  have rz_10 : 0 ≤ z_10.toInt ∧ z_10.toInt ≤ 1600 := by rw [ez_10]; exact hT.rgi h_a (by decide) 7
  obtain ⟨z_12, ez_12⟩ : ∃ y : Int32, y = G_6.1 a 8 := ⟨_, rfl⟩
  obtain ⟨z_13, ez_13⟩ : ∃ y : Int32, y = G_6.1 a 12 := ⟨_, rfl⟩
  refine W.loop (σ := Int32 × Int32 × Int32 × Int32 × Gh) (fun w11 H locs ls => 0 ≤ w11.1.toInt ∧ w11.1.toInt ≤ 1600 ∧ 1 ≤ w11.2.2.2.1.toInt ∧ w11.2.2.2.1.toInt ≤ 50 ∧ (w11.1.toInt ≤ tp.toInt) ∧ tp = w11.2.2.2.2.1 a 6 ∧ w11.1 = w11.2.2.2.2.1 a 7 ∧ w11.2.1 = w11.2.2.2.2.1 a 8 ∧ w11.2.2.1 = w11.2.2.2.2.1 a 12 ∧ w11.2.2.2.1 = w11.2.2.2.2.1 sa 25 ∧ (∀ j : Nat, j ≠ 4 → w11.2.2.2.2.1 tha j = G.1 tha j) ∧ (∀ j : Nat, j < 24 → w11.2.2.2.2.1 sa j = G.1 sa j) ∧ Fr τ [11, 66, 67, 68, 69, 70, 71, 72, 73, 74, 75, 76] G w11.2.2.2.2 ∧ TY D cy base τ w11.2.2.2.2 H ∧ va_S (RA base) s.heap H locs ∧ lv_has ls 1 [(0, .ref a)]) (fun w11 => (if w11.2.2.1.toInt = 0 then 1 + 2 * (tp.toInt - w11.1.toInt).toNat + (if w11.2.1.toInt = 0 then 0 else 1) else 0)) ?_ (z_10, z_12, z_13, z_5, G_6) _ _ _ ⟨(by show 0 ≤ z_10.toInt; omega), (by show z_10.toInt ≤ 1600; omega), (by show 1 ≤ z_5.toInt; omega), (by show z_5.toInt ≤ 50; omega), (by show z_10.toInt ≤ tp.toInt; first | omega | assumption | exact rfl), (by show tp = G_6.1 a 6; exact k_9), ez_10, ez_12, ez_13, k_8, kx0, kx1, hF, hT, hS, lv_sub hl [0] rfl⟩
  intro w11 H locs ls hI ih11
  obtain ⟨x11_at, x11_tk, x11_bd, x11_sc, G_11⟩ := w11
  obtain ⟨i11_0, i11_1, i11_2, i11_3, i11_4, i11_5, i11_6, i11_7, i11_8, i11_9, kx0, kx1, hF, hT, hS, hl⟩ := hI
  have i11_0 : 0 ≤ x11_at.toInt := i11_0
  have i11_1 : x11_at.toInt ≤ 1600 := i11_1
  have i11_2 : 1 ≤ x11_sc.toInt := i11_2
  have i11_3 : x11_sc.toInt ≤ 50 := i11_3
  have i11_4 : (x11_at.toInt ≤ tp.toInt) := i11_4
  have i11_5 : tp = G_11.1 a 6 := i11_5
  have i11_6 : x11_at = G_11.1 a 7 := i11_6
  have i11_7 : x11_tk = G_11.1 a 8 := i11_7
  have i11_8 : x11_bd = G_11.1 a 12 := i11_8
  have i11_9 : x11_sc = G_11.1 sa 25 := i11_9
  have kx0 : (∀ j : Nat, j ≠ 4 → G_11.1 tha j = G.1 tha j) := kx0
  have kx1 : (∀ j : Nat, j < 24 → G_11.1 sa j = G.1 sa j) := kx1
  have hF : Fr τ [11, 66, 67, 68, 69, 70, 71, 72, 73, 74, 75, 76] G G_11 := hF
  have hT : TY D cy base τ G_11 H := hT
  have hS : va_S (RA base) s.heap H locs := hS
  have hl : lv_has ls 1 [(0, .ref a)] := hl
  refine lv_aload_n hx hb dX10_land_13 rfl (lv_at hl 0 rfl) ?_
  refine pu_calli (runV (As := []) (rest := []) ⟨hx, hb, hml, hown, hts⟩ (t_X10_isGood l D cy base τ G_11 a h_a x11_bd i11_8) sV_X10_254 hK (t_recv cf_11 hK hT h_a) ⟨Nat.le_trans hZ hS.1, hT⟩ ⟨Nat.le_of_ble_eq_true rfl, Nat.le_of_ble_eq_true rfl⟩ rfl hl.1 rfl (Nat.le_of_ble_eq_true rfl) dX10_land_14 ⟨Nat.le_of_ble_eq_true rfl, Nat.le_of_ble_eq_true rfl⟩) (fun r_14 hr_14 => ?_)
  have hr_14_c := hr_14
  rcases hr_14_c with hr_14_0 | hr_14_1
  · skip
    obtain ⟨er_14, hr_14_0_f0⟩ := hr_14_0
    have hr_14_0_f0 : x11_bd.toInt = 0 := hr_14_0_f0
    subst er_14
    refine W.eq (g2 := F0 m 17 ls [.int 1]) rfl ?_
    refine lv_if_eq (tgt := 71) hx hb dX10_land_17 (by decide) (fun c_15 => absurd c_15 (by decide)) (fun _ => ?_)
    refine lv_aload_n hx hb dX10_land_20 rfl (lv_at hl 0 rfl) ?_
    refine t_geti cf_11 hx hb hts hown hK hT h_a (k := 8) rfl fl_X10_152 (fun _ h9 => h9) dX10_land_21 (fun z_16 ez_16 rz_16 => ?_)
    have w_17 : x11_tk = z_16 := i11_7.trans ez_16.symm
    subst w_17
    refine lv_if_eq (tgt := 71) hx hb dX10_land_24 (by decide) (fun c_18 => ?_) (fun c_18 => ?_)
    · skip
      have tc_18 : x11_tk.toInt = 0 := (fa_eq _ _).mp c_18
      refine lv_aload_n hx hb dX10_land_71 rfl (lv_at hl 0 rfl) ?_
      refine t_callv (runV (As := []) (rest := []) ⟨hx, hb, hml, hown, hts⟩ (t_X10_isOver l D cy base τ G_11 a h_a) sV_X10_267 hK (t_recv cf_11 hK hT h_a) ⟨Nat.le_trans hZ hS.1, hT⟩ ⟨Nat.le_of_ble_eq_true rfl, Nat.le_of_ble_eq_true rfl⟩ rfl hl.1 rfl (Nat.le_of_ble_eq_true rfl) dX10_land_72 ⟨Nat.le_of_ble_eq_true rfl, Nat.le_of_ble_eq_true rfl⟩) hS (fun G_19 H locs hF_19 hr_19 hT hS => ?_)
      have hF := hF.tr hF_19 rfl
      have kx0 : ∀ j : Nat, j ≠ 4 → G_19.1 tha j = G.1 tha j := fun j hj => (hF_19.i h_tha (by decide) rfl j).trans (kx0 j hj)
      have kx1 : ∀ j : Nat, j < 24 → G_19.1 sa j = G.1 sa j := fun j hj => (hF_19.i h_sa (by decide) rfl j).trans (kx1 j hj)
      have k_24 : x11_sc = G_19.1 sa 25 := i11_9.trans (hF_19.i h_sa (by decide) rfl _).symm
      refine lv_aload_n hx hb dX10_land_75 rfl (lv_at hl 0 rfl) ?_
      refine t_geti cf_11 hx hb hts hown hK hT h_a (k := 12) rfl fl_X10_163 (fun _ h9 => h9) dX10_land_76 (fun z_25 ez_25 rz_25 => ?_)
      have ez_25 : z_25 = G_19.1 a 12 := ez_25
      refine lv_if_eq (tgt := 85) hx hb dX10_land_79 (by decide) (fun c_26 => ?_) (fun c_26 => ?_)
      · skip
        have tc_26 : z_25.toInt = 0 := (fa_eq _ _).mp c_26
        refine lv_aload_n hx hb dX10_land_85 rfl (lv_at hl 0 rfl) ?_
        refine lv_iconst (v := 4) hx hb dX10_land_86 (by decide) ?_
        refine lv_iconst (v := 0) hx hb dX10_land_87 (by decide) ?_
        have hI4 : INV G_19 tha sa := (hI.rd kx0 kx1 (by rw [← k_24]; omega))
        refine t_callv (runV (As := [.int 4, .int 0]) (rest := []) ⟨hx, hb, hml, hown, hts⟩ (t_X10_copyLand l D cy base τ G_19 a h_a 4 (by decide) 0 (by decide) tha h_tha ((hF.r h_a (by decide) rfl _).trans e_tha) sa h_sa ((hF.r h_a (by decide) rfl _).trans e_sa)) sV_X10_270 hK (t_recv cf_11 hK hT h_a) ⟨Nat.le_trans hZ hS.1, hT⟩ ⟨Nat.le_of_ble_eq_true rfl, Nat.le_of_ble_eq_true rfl⟩ rfl hl.1 rfl (Nat.le_of_ble_eq_true rfl) dX10_land_88 ⟨Nat.le_of_ble_eq_true rfl, Nat.le_of_ble_eq_true rfl⟩) hS (fun G_27 H locs hF_27 hr_27 hT hS => ?_)
        have hF := hF.tr hF_27 rfl
        have k_29 : z_25 = G_27.1 a 12 := ez_25.trans (hF_27.i h_a (by decide) rfl _).symm
        obtain ⟨hr_27_p0, hr_27_p1⟩ := hr_27
        have hr_27_p0 : ∀ j : Nat, G_27.1 tha j = if 1 * (0 : Int).toNat ≤ j ∧ j < 1 * (0 : Int).toNat + 1 then G_19.1 tha (1 * (4 : Int).toNat + (j - 1 * (0 : Int).toNat)) else G_19.1 tha j := hr_27_p0
        have hr_27_p1 : ∀ j : Nat, G_27.1 sa j = if 6 * (0 : Int).toNat ≤ j ∧ j < 6 * (0 : Int).toNat + 6 then G_19.1 sa (6 * (4 : Int).toNat + (j - 6 * (0 : Int).toNat)) else G_19.1 sa j := hr_27_p1
        refine lv_aload_n hx hb dX10_land_91 rfl (lv_at hl 0 rfl) ?_
        refine t_getr cf_11 hx hb hts hown hK hT h_a (k := 26) (P := fun q => τ q = 76) rfl (fun _ h9 => h9) fl_X10_62 (fun _ h9 => h9) dX10_land_92 (fun q_30 eq_30 hq_30 => ?_)
        have eq_30 := (hF.r h_a (by decide) rfl _).symm.trans eq_30
        refine lv_iconst (v := 0) hx hb dX10_land_95 (by decide) ?_
        refine lv_iconst (v := 0) hx hb dX10_land_96 (by decide) ?_
        refine t_iast (n := 5) (i := 0) (x := 0) rfl (by decide) hx hb hK hT hS hq_30 (hT.len hq_30 (by decide)) ⟨by decide, by decide⟩ trivial dX10_land_97 (fun H locs G_31 eG_31 hT hS => ?_)
        have hF := hF.wI eG_31 hq_30 rfl
        have k_32 : z_25 = G_31.1 a 12 := by rw [eG_31, wI_ne (Or.inl (tag_ne hq_30 h_a (by decide)))]; exact k_29
        refine lv_aload_n hx hb dX10_land_98 rfl (lv_at hl 0 rfl) ?_
        refine t_getr cf_11 hx hb hts hown hK hT h_a (k := 16) (P := fun q => τ q = 66) rfl (fun _ h9 => h9) fl_X10_31 (fun _ h9 => h9) dX10_land_99 (fun q_33 eq_33 hq_33 => ?_)
        have eq_33 := (hF.r h_a (by decide) rfl _).symm.trans eq_33
        refine lv_iconst (v := 0) hx hb dX10_land_102 (by decide) ?_
        refine t_iald (n := 5) (i := 0) rfl (by decide) hx hb hK hT hq_33 (hT.len hq_33 (by decide)) ⟨by decide, by decide⟩ dX10_land_103 (fun z_34 ez_34 rz_34 => ?_)
        have ez_34 : z_34 = G_31.1 q_33 0 := ez_34
        exact ret_i hx hb hr hlocks ⟨⟨hS.1, hS.2.1⟩, G_31, hF, ⟨_, rfl, (INV.same (INV.cp hI4 (by omega) hr_27_p0 hr_27_p1) (fun j => by rw [eG_31]; exact wI_ne (Or.inl (tag_ne hq_30 h_tha (by decide)))) (fun j => by rw [eG_31]; exact wI_ne (Or.inl (tag_ne hq_30 h_sa (by decide)))))⟩, hT⟩ hS.2.2 (Nat.le_of_ble_eq_true rfl) (Nat.le_of_ble_eq_true rfl) dX10_land_104
      · skip
        have tc_26 : ¬ z_25.toInt = 0 := fun h => c_26 ((fa_eq _ _).mpr h)
        refine lv_bipush (v := (-4)) hx hb dX10_land_82 (by decide) ?_
        exact ret_i hx hb hr hlocks ⟨⟨hS.1, hS.2.1⟩, G_19, hF, ⟨_, rfl, (hI.rd kx0 kx1 (by rw [← k_24]; omega))⟩, hT⟩ hS.2.2 (Nat.le_of_ble_eq_true rfl) (Nat.le_of_ble_eq_true rfl) dX10_land_84
    · skip
      have tc_18 : ¬ x11_tk.toInt = 0 := fun h => c_18 ((fa_eq _ _).mpr h)
      refine lv_aload_n hx hb dX10_land_27 rfl (lv_at hl 0 rfl) ?_
      refine t_getr cf_11 hx hb hts hown hK hT h_a (k := 16) (P := fun q => τ q = 66) rfl (fun _ h9 => h9) fl_X10_31 (fun _ h9 => h9) dX10_land_28 (fun q_35 eq_35 hq_35 => ?_)
      have eq_35 := (hF.r h_a (by decide) rfl _).symm.trans eq_35
      refine lv_iconst (v := 4) hx hb dX10_land_31 (by decide) ?_
      refine t_iald (n := 5) (i := 4) rfl (by decide) hx hb hK hT hq_35 (hT.len hq_35 (by decide)) ⟨by decide, by decide⟩ dX10_land_32 (fun z_36 ez_36 rz_36 => ?_)
      have ez_36 : z_36 = G_11.1 q_35 4 := ez_36
      refine lv_if_ne (tgt := 43) hx hb dX10_land_33 (by decide) (fun c_37 => ?_) (fun c_37 => ?_)
      · skip
        have tc_37 : ¬ z_36.toInt = 0 := fun h => c_37 ((fa_eq _ _).mpr h)
        refine lv_aload_n hx hb dX10_land_43 rfl (lv_at hl 0 rfl) ?_
        refine t_callv (runV (As := []) (rest := []) ⟨hx, hb, hml, hown, hts⟩ (t_X10_line l D cy base τ G_11 a h_a tha h_tha ((hF.r h_a (by decide) rfl _).trans e_tha) sa h_sa ((hF.r h_a (by decide) rfl _).trans e_sa) tp i11_5 ⟨by omega, by omega⟩ x11_at i11_6 ⟨by omega, by omega⟩ x11_sc i11_9 ⟨by omega, by omega⟩ (by show x11_at.toInt ≤ tp.toInt; first | assumption | omega | decide)) sV_X10_261 hK (t_recv cf_11 hK hT h_a) ⟨Nat.le_trans hZ hS.1, hT⟩ ⟨Nat.le_of_ble_eq_true rfl, Nat.le_of_ble_eq_true rfl⟩ rfl hl.1 rfl (Nat.le_of_ble_eq_true rfl) dX10_land_44 ⟨Nat.le_of_ble_eq_true rfl, Nat.le_of_ble_eq_true rfl⟩) hS (fun G_38 H locs hF_38 hr_38 hT hS => ?_)
        have hF := hF.tr hF_38 rfl
        obtain ⟨hr_38_p0, hr_38_p1, hr_38_p2, hr_38_s0, hr_38_x0, hr_38_x1⟩ := hr_38
        have kx0 : ∀ j : Nat, j ≠ 4 → G_38.1 tha j = G.1 tha j := fun j hj => (hr_38_x0 j hj).trans (kx0 j hj)
        have kx1 : ∀ j : Nat, j < 24 → G_38.1 sa j = G.1 sa j := fun j hj => (hr_38_x1 j hj).trans (kx1 j hj)
        have k_44 : tp = G_38.1 a 6 := i11_5.trans hr_38_s0.symm
        obtain ⟨z_45, z_46, ez_45, ez_46, hr_38_p0, hr_38_p1, hr_38_p2⟩ : ∃ z_45 z_46 : Int32, z_45 = G_38.1 a 7 ∧ z_46 = G_38.1 sa 25 ∧ (x11_at.toInt ≤ z_45.toInt) ∧ (z_45.toInt ≤ tp.toInt) ∧ (1 ≤ z_46.toInt) := ⟨_, _, rfl, rfl, hr_38_p0, hr_38_p1, hr_38_p2⟩
        have rz_45 : 0 ≤ z_45.toInt ∧ z_45.toInt ≤ 1600 := by rw [ez_45]; exact hT.rgi h_a (by decide) 7
        have qz_46 : (25 % 6 = 0 → 0 ≤ z_46.toInt ∧ z_46.toInt ≤ 9) ∧ (25 % 6 = 1 → 0 ≤ z_46.toInt ∧ z_46.toInt ≤ 50) ∧ (25 % 6 = 3 → 0 ≤ z_46.toInt ∧ z_46.toInt ≤ 50) := by rw [ez_46]; exact hT.rgi h_sa (by decide) 25
        have rz_46 : 0 ≤ z_46.toInt ∧ z_46.toInt ≤ 50 := by omega
        refine lv_aload_n hx hb dX10_land_47 rfl (lv_at hl 0 rfl) ?_
        obtain ⟨z_47, ez_47⟩ : ∃ y : Int32, y = G_38.1 a 12 := ⟨_, rfl⟩
        refine pu_calli (runV (As := []) (rest := []) ⟨hx, hb, hml, hown, hts⟩ (t_X10_isGood l D cy base τ G_38 a h_a z_47 ez_47) sV_X10_254 hK (t_recv cf_11 hK hT h_a) ⟨Nat.le_trans hZ hS.1, hT⟩ ⟨Nat.le_of_ble_eq_true rfl, Nat.le_of_ble_eq_true rfl⟩ rfl hl.1 rfl (Nat.le_of_ble_eq_true rfl) dX10_land_48 ⟨Nat.le_of_ble_eq_true rfl, Nat.le_of_ble_eq_true rfl⟩) (fun r_48 hr_48 => ?_)
        have hr_48_c := hr_48
        rcases hr_48_c with hr_48_0 | hr_48_1
        · skip
          obtain ⟨er_48, hr_48_0_f0⟩ := hr_48_0
          have hr_48_0_f0 : z_47.toInt = 0 := hr_48_0_f0
          subst er_48
          refine W.eq (g2 := F0 m 51 ls [.int 1]) rfl ?_
          refine lv_if_eq (tgt := 58) hx hb dX10_land_51 (by decide) (fun c_49 => absurd c_49 (by decide)) (fun _ => ?_)
          refine lv_aload_n hx hb dX10_land_54 rfl (lv_at hl 0 rfl) ?_
          refine t_callv (runV (As := []) (rest := []) ⟨hx, hb, hml, hown, hts⟩ (t_X10_ends l D cy base τ G_38 a h_a tp k_44 ⟨by omega, by omega⟩ z_45 ez_45 ⟨by omega, by omega⟩ (by show z_45.toInt ≤ tp.toInt; first | assumption | omega | decide)) sV_X10_264 hK (t_recv cf_11 hK hT h_a) ⟨Nat.le_trans hZ hS.1, hT⟩ ⟨Nat.le_of_ble_eq_true rfl, Nat.le_of_ble_eq_true rfl⟩ rfl hl.1 rfl (Nat.le_of_ble_eq_true rfl) dX10_land_55 ⟨Nat.le_of_ble_eq_true rfl, Nat.le_of_ble_eq_true rfl⟩) hS (fun G_50 H locs hF_50 hr_50 hT hS => ?_)
          have hF := hF.tr hF_50 rfl
          have kx0 : ∀ j : Nat, j ≠ 4 → G_50.1 tha j = G.1 tha j := fun j hj => (hF_50.i h_tha (by decide) rfl j).trans (kx0 j hj)
          have kx1 : ∀ j : Nat, j < 24 → G_50.1 sa j = G.1 sa j := fun j hj => (hF_50.i h_sa (by decide) rfl j).trans (kx1 j hj)
          have k_53 : z_46 = G_50.1 sa 25 := ez_46.trans (hF_50.i h_sa (by decide) rfl _).symm
          obtain ⟨hr_50_p0, hr_50_p1, hr_50_p2, hr_50_s0⟩ := hr_50
          have k_55 : tp = G_50.1 a 6 := k_44.trans hr_50_s0.symm
          obtain ⟨z_56, z_57, z_58, ez_56, ez_57, ez_58, hr_50_p0, hr_50_p1, hr_50_p2⟩ : ∃ z_56 z_57 z_58 : Int32, z_56 = G_50.1 a 7 ∧ z_57 = G_50.1 a 8 ∧ z_58 = G_50.1 a 12 ∧ (z_45.toInt ≤ z_56.toInt) ∧ (z_56.toInt ≤ tp.toInt) ∧ (z_58.toInt ≠ 0 ∨ z_57.toInt = 0 ∨ z_45.toInt < z_56.toInt) := ⟨_, _, _, rfl, rfl, rfl, hr_50_p0, hr_50_p1, hr_50_p2⟩
          have rz_56 : 0 ≤ z_56.toInt ∧ z_56.toInt ≤ 1600 := by rw [ez_56]; exact hT.rgi h_a (by decide) 7
          refine lv_aload_n hx hb dX10_land_58 rfl (lv_at hl 0 rfl) ?_
          refine t_getr cf_11 hx hb hts hown hK hT h_a (k := 16) (P := fun q => τ q = 66) rfl (fun _ h9 => h9) fl_X10_31 (fun _ h9 => h9) dX10_land_59 (fun q_59 eq_59 hq_59 => ?_)
          have w_60 : q_35 = q_59 := Option.some.inj (eq_35.symm.trans ((hF.r h_a (by decide) rfl _).symm.trans eq_59))
          subst w_60
          refine lv_iconst (v := 4) hx hb dX10_land_62 (by decide) ?_
          refine lv_dup2_11 hx hb dX10_land_63 rfl rfl ?_
          refine t_iald (n := 5) (i := 4) rfl (by decide) hx hb hK hT hq_35 (hT.len hq_35 (by decide)) ⟨by decide, by decide⟩ dX10_land_64 (fun z_61 ez_61 rz_61 => ?_)
          have ez_61 : z_61 = G_50.1 q_35 4 := ez_61
          refine lv_iconst (v := 1) hx hb dX10_land_65 (by decide) ?_
          refine lv_iadd hx hb dX10_land_66 ?_
          refine lv_topi (fun z_62 ez_62 => ?_)
          refine t_iast (n := 5) (i := 4) (x := z_62) rfl (by decide) hx hb hK hT hS hq_35 (hT.len hq_35 (by decide)) ⟨by decide, by decide⟩ trivial dX10_land_67 (fun H locs G_63 eG_63 hT hS => ?_)
          have hF := hF.wI eG_63 hq_35 rfl
          have kx0 : ∀ j : Nat, j ≠ 4 → G_63.1 tha j = G.1 tha j := fun j hj => (by rw [eG_63]; exact (wI_ne (Or.inl (tag_ne hq_35 h_tha (by decide)))).trans (kx0 j hj))
          have kx1 : ∀ j : Nat, j < 24 → G_63.1 sa j = G.1 sa j := fun j hj => (by rw [eG_63]; exact (wI_ne (Or.inl (tag_ne hq_35 h_sa (by decide)))).trans (kx1 j hj))
          have k_64 : z_46 = G_63.1 sa 25 := by rw [eG_63, wI_ne (Or.inl (tag_ne hq_35 h_sa (by decide)))]; exact k_53
          have k_65 : tp = G_63.1 a 6 := by rw [eG_63, wI_ne (Or.inl (tag_ne hq_35 h_a (by decide)))]; exact k_55
          have k_66 : z_56 = G_63.1 a 7 := by rw [eG_63, wI_ne (Or.inl (tag_ne hq_35 h_a (by decide)))]; exact ez_56
          have k_67 : z_57 = G_63.1 a 8 := by rw [eG_63, wI_ne (Or.inl (tag_ne hq_35 h_a (by decide)))]; exact ez_57
          have k_68 : z_58 = G_63.1 a 12 := by rw [eG_63, wI_ne (Or.inl (tag_ne hq_35 h_a (by decide)))]; exact ez_58
          refine lv_goto (tgt := 13) hx hb dX10_land_68 (by decide) ?_
          exact ih11 (z_56, z_57, z_58, z_46, G_63) _ _ _ (by show (if z_58.toInt = 0 then 1 + 2 * (tp.toInt - z_56.toInt).toNat + (if z_57.toInt = 0 then 0 else 1) else 0) < (if x11_bd.toInt = 0 then 1 + 2 * (tp.toInt - x11_at.toInt).toNat + (if x11_tk.toInt = 0 then 0 else 1) else 0); (repeat' split) <;> omega) ⟨(by show 0 ≤ z_56.toInt; omega), (by show z_56.toInt ≤ 1600; omega), (by show 1 ≤ z_46.toInt; omega), (by show z_46.toInt ≤ 50; omega), by show z_56.toInt ≤ tp.toInt; first | omega | assumption, (show tp = G_63.1 a 6 from by first | exact k_65 | omega), k_66, k_67, k_68, k_64, kx0, kx1, hF, hT, hS, lv_sub hl [0] rfl⟩
        · skip
          obtain ⟨er_48, hr_48_1_f0⟩ := hr_48_1
          have hr_48_1_f0 : z_47.toInt ≠ 0 := hr_48_1_f0
          subst er_48
          refine W.eq (g2 := F0 m 51 ls [.int 0]) rfl ?_
          refine lv_if_eq (tgt := 58) hx hb dX10_land_51 (by decide) (fun _ => ?_) (fun c_69 => absurd (by decide) c_69)
          refine lv_aload_n hx hb dX10_land_58 rfl (lv_at hl 0 rfl) ?_
          refine t_getr cf_11 hx hb hts hown hK hT h_a (k := 16) (P := fun q => τ q = 66) rfl (fun _ h9 => h9) fl_X10_31 (fun _ h9 => h9) dX10_land_59 (fun q_70 eq_70 hq_70 => ?_)
          have w_71 : q_35 = q_70 := Option.some.inj (eq_35.symm.trans ((hF.r h_a (by decide) rfl _).symm.trans eq_70))
          subst w_71
          refine lv_iconst (v := 4) hx hb dX10_land_62 (by decide) ?_
          refine lv_dup2_11 hx hb dX10_land_63 rfl rfl ?_
          refine t_iald (n := 5) (i := 4) rfl (by decide) hx hb hK hT hq_35 (hT.len hq_35 (by decide)) ⟨by decide, by decide⟩ dX10_land_64 (fun z_72 ez_72 rz_72 => ?_)
          have ez_72 : z_72 = G_38.1 q_35 4 := ez_72
          refine lv_iconst (v := 1) hx hb dX10_land_65 (by decide) ?_
          refine lv_iadd hx hb dX10_land_66 ?_
          refine lv_topi (fun z_73 ez_73 => ?_)
          refine t_iast (n := 5) (i := 4) (x := z_73) rfl (by decide) hx hb hK hT hS hq_35 (hT.len hq_35 (by decide)) ⟨by decide, by decide⟩ trivial dX10_land_67 (fun H locs G_74 eG_74 hT hS => ?_)
          have hF := hF.wI eG_74 hq_35 rfl
          have kx0 : ∀ j : Nat, j ≠ 4 → G_74.1 tha j = G.1 tha j := fun j hj => (by rw [eG_74]; exact (wI_ne (Or.inl (tag_ne hq_35 h_tha (by decide)))).trans (kx0 j hj))
          have kx1 : ∀ j : Nat, j < 24 → G_74.1 sa j = G.1 sa j := fun j hj => (by rw [eG_74]; exact (wI_ne (Or.inl (tag_ne hq_35 h_sa (by decide)))).trans (kx1 j hj))
          have k_75 : tp = G_74.1 a 6 := by rw [eG_74, wI_ne (Or.inl (tag_ne hq_35 h_a (by decide)))]; exact k_44
          have k_76 : z_45 = G_74.1 a 7 := by rw [eG_74, wI_ne (Or.inl (tag_ne hq_35 h_a (by decide)))]; exact ez_45
          have k_77 : z_46 = G_74.1 sa 25 := by rw [eG_74, wI_ne (Or.inl (tag_ne hq_35 h_sa (by decide)))]; exact ez_46
          have k_78 : z_47 = G_74.1 a 12 := by rw [eG_74, wI_ne (Or.inl (tag_ne hq_35 h_a (by decide)))]; exact ez_47
          refine lv_goto (tgt := 13) hx hb dX10_land_68 (by decide) ?_
          obtain ⟨z_79, ez_79⟩ : ∃ y : Int32, y = G_74.1 a 8 := ⟨_, rfl⟩
          exact ih11 (z_45, z_79, z_47, z_46, G_74) _ _ _ (by show (if z_47.toInt = 0 then 1 + 2 * (tp.toInt - z_45.toInt).toNat + (if z_79.toInt = 0 then 0 else 1) else 0) < (if x11_bd.toInt = 0 then 1 + 2 * (tp.toInt - x11_at.toInt).toNat + (if x11_tk.toInt = 0 then 0 else 1) else 0); (repeat' split) <;> omega) ⟨(by show 0 ≤ z_45.toInt; omega), (by show z_45.toInt ≤ 1600; omega), (by show 1 ≤ z_46.toInt; omega), (by show z_46.toInt ≤ 50; omega), by show z_45.toInt ≤ tp.toInt; first | omega | assumption, (show tp = G_74.1 a 6 from by first | exact k_75 | omega), k_76, ez_79, k_78, k_77, kx0, kx1, hF, hT, hS, lv_sub hl [0] rfl⟩
      · skip
        have tc_37 : z_36.toInt = 0 := (fa_eq _ _).mp c_37
        refine lv_aload_n hx hb dX10_land_36 rfl (lv_at hl 0 rfl) ?_
        refine t_callv (runV (As := []) (rest := []) ⟨hx, hb, hml, hown, hts⟩ (t_X10_winterLine l D cy base τ G_11 a h_a tp i11_5 ⟨by omega, by omega⟩ x11_at i11_6 ⟨by omega, by omega⟩ (by show x11_at.toInt ≤ tp.toInt; first | assumption | omega | decide)) sV_X10_258 hK (t_recv cf_11 hK hT h_a) ⟨Nat.le_trans hZ hS.1, hT⟩ ⟨Nat.le_of_ble_eq_true rfl, Nat.le_of_ble_eq_true rfl⟩ rfl hl.1 rfl (Nat.le_of_ble_eq_true rfl) dX10_land_37 ⟨Nat.le_of_ble_eq_true rfl, Nat.le_of_ble_eq_true rfl⟩) hS (fun G_80 H locs hF_80 hr_80 hT hS => ?_)
        have hF := hF.tr hF_80 rfl
        have kx0 : ∀ j : Nat, j ≠ 4 → G_80.1 tha j = G.1 tha j := fun j hj => (hF_80.i h_tha (by decide) rfl j).trans (kx0 j hj)
        have kx1 : ∀ j : Nat, j < 24 → G_80.1 sa j = G.1 sa j := fun j hj => (hF_80.i h_sa (by decide) rfl j).trans (kx1 j hj)
        have k_85 : x11_sc = G_80.1 sa 25 := i11_9.trans (hF_80.i h_sa (by decide) rfl _).symm
        obtain ⟨hr_80_p0, hr_80_p1, hr_80_s0⟩ := hr_80
        have k_86 : tp = G_80.1 a 6 := i11_5.trans hr_80_s0.symm
        obtain ⟨z_87, ez_87, hr_80_p0, hr_80_p1⟩ : ∃ z_87 : Int32, z_87 = G_80.1 a 7 ∧ (x11_at.toInt ≤ z_87.toInt) ∧ (z_87.toInt ≤ tp.toInt) := ⟨_, rfl, hr_80_p0, hr_80_p1⟩
        have rz_87 : 0 ≤ z_87.toInt ∧ z_87.toInt ≤ 1600 := by rw [ez_87]; exact hT.rgi h_a (by decide) 7
        refine lv_goto (tgt := 47) hx hb dX10_land_40 (by decide) ?_
        refine lv_aload_n hx hb dX10_land_47 rfl (lv_at hl 0 rfl) ?_
        obtain ⟨z_88, ez_88⟩ : ∃ y : Int32, y = G_80.1 a 12 := ⟨_, rfl⟩
        refine pu_calli (runV (As := []) (rest := []) ⟨hx, hb, hml, hown, hts⟩ (t_X10_isGood l D cy base τ G_80 a h_a z_88 ez_88) sV_X10_254 hK (t_recv cf_11 hK hT h_a) ⟨Nat.le_trans hZ hS.1, hT⟩ ⟨Nat.le_of_ble_eq_true rfl, Nat.le_of_ble_eq_true rfl⟩ rfl hl.1 rfl (Nat.le_of_ble_eq_true rfl) dX10_land_48 ⟨Nat.le_of_ble_eq_true rfl, Nat.le_of_ble_eq_true rfl⟩) (fun r_89 hr_89 => ?_)
        have hr_89_c := hr_89
        rcases hr_89_c with hr_89_0 | hr_89_1
        · skip
          obtain ⟨er_89, hr_89_0_f0⟩ := hr_89_0
          have hr_89_0_f0 : z_88.toInt = 0 := hr_89_0_f0
          subst er_89
          refine W.eq (g2 := F0 m 51 ls [.int 1]) rfl ?_
          refine lv_if_eq (tgt := 58) hx hb dX10_land_51 (by decide) (fun c_90 => absurd c_90 (by decide)) (fun _ => ?_)
          refine lv_aload_n hx hb dX10_land_54 rfl (lv_at hl 0 rfl) ?_
          refine t_callv (runV (As := []) (rest := []) ⟨hx, hb, hml, hown, hts⟩ (t_X10_ends l D cy base τ G_80 a h_a tp k_86 ⟨by omega, by omega⟩ z_87 ez_87 ⟨by omega, by omega⟩ (by show z_87.toInt ≤ tp.toInt; first | assumption | omega | decide)) sV_X10_264 hK (t_recv cf_11 hK hT h_a) ⟨Nat.le_trans hZ hS.1, hT⟩ ⟨Nat.le_of_ble_eq_true rfl, Nat.le_of_ble_eq_true rfl⟩ rfl hl.1 rfl (Nat.le_of_ble_eq_true rfl) dX10_land_55 ⟨Nat.le_of_ble_eq_true rfl, Nat.le_of_ble_eq_true rfl⟩) hS (fun G_91 H locs hF_91 hr_91 hT hS => ?_)
          have hF := hF.tr hF_91 rfl
          have kx0 : ∀ j : Nat, j ≠ 4 → G_91.1 tha j = G.1 tha j := fun j hj => (hF_91.i h_tha (by decide) rfl j).trans (kx0 j hj)
          have kx1 : ∀ j : Nat, j < 24 → G_91.1 sa j = G.1 sa j := fun j hj => (hF_91.i h_sa (by decide) rfl j).trans (kx1 j hj)
          have k_92 : x11_sc = G_91.1 sa 25 := k_85.trans (hF_91.i h_sa (by decide) rfl _).symm
          obtain ⟨hr_91_p0, hr_91_p1, hr_91_p2, hr_91_s0⟩ := hr_91
          have k_96 : tp = G_91.1 a 6 := k_86.trans hr_91_s0.symm
          obtain ⟨z_97, z_98, z_99, ez_97, ez_98, ez_99, hr_91_p0, hr_91_p1, hr_91_p2⟩ : ∃ z_97 z_98 z_99 : Int32, z_97 = G_91.1 a 7 ∧ z_98 = G_91.1 a 8 ∧ z_99 = G_91.1 a 12 ∧ (z_87.toInt ≤ z_97.toInt) ∧ (z_97.toInt ≤ tp.toInt) ∧ (z_99.toInt ≠ 0 ∨ z_98.toInt = 0 ∨ z_87.toInt < z_97.toInt) := ⟨_, _, _, rfl, rfl, rfl, hr_91_p0, hr_91_p1, hr_91_p2⟩
          have rz_97 : 0 ≤ z_97.toInt ∧ z_97.toInt ≤ 1600 := by rw [ez_97]; exact hT.rgi h_a (by decide) 7
          refine lv_aload_n hx hb dX10_land_58 rfl (lv_at hl 0 rfl) ?_
          refine t_getr cf_11 hx hb hts hown hK hT h_a (k := 16) (P := fun q => τ q = 66) rfl (fun _ h9 => h9) fl_X10_31 (fun _ h9 => h9) dX10_land_59 (fun q_100 eq_100 hq_100 => ?_)
          have w_101 : q_35 = q_100 := Option.some.inj (eq_35.symm.trans ((hF.r h_a (by decide) rfl _).symm.trans eq_100))
          subst w_101
          refine lv_iconst (v := 4) hx hb dX10_land_62 (by decide) ?_
          refine lv_dup2_11 hx hb dX10_land_63 rfl rfl ?_
          refine t_iald (n := 5) (i := 4) rfl (by decide) hx hb hK hT hq_35 (hT.len hq_35 (by decide)) ⟨by decide, by decide⟩ dX10_land_64 (fun z_102 ez_102 rz_102 => ?_)
          have ez_102 : z_102 = G_91.1 q_35 4 := ez_102
          refine lv_iconst (v := 1) hx hb dX10_land_65 (by decide) ?_
          refine lv_iadd hx hb dX10_land_66 ?_
          refine lv_topi (fun z_103 ez_103 => ?_)
          refine t_iast (n := 5) (i := 4) (x := z_103) rfl (by decide) hx hb hK hT hS hq_35 (hT.len hq_35 (by decide)) ⟨by decide, by decide⟩ trivial dX10_land_67 (fun H locs G_104 eG_104 hT hS => ?_)
          have hF := hF.wI eG_104 hq_35 rfl
          have kx0 : ∀ j : Nat, j ≠ 4 → G_104.1 tha j = G.1 tha j := fun j hj => (by rw [eG_104]; exact (wI_ne (Or.inl (tag_ne hq_35 h_tha (by decide)))).trans (kx0 j hj))
          have kx1 : ∀ j : Nat, j < 24 → G_104.1 sa j = G.1 sa j := fun j hj => (by rw [eG_104]; exact (wI_ne (Or.inl (tag_ne hq_35 h_sa (by decide)))).trans (kx1 j hj))
          have k_105 : x11_sc = G_104.1 sa 25 := by rw [eG_104, wI_ne (Or.inl (tag_ne hq_35 h_sa (by decide)))]; exact k_92
          have k_106 : tp = G_104.1 a 6 := by rw [eG_104, wI_ne (Or.inl (tag_ne hq_35 h_a (by decide)))]; exact k_96
          have k_107 : z_97 = G_104.1 a 7 := by rw [eG_104, wI_ne (Or.inl (tag_ne hq_35 h_a (by decide)))]; exact ez_97
          have k_108 : z_98 = G_104.1 a 8 := by rw [eG_104, wI_ne (Or.inl (tag_ne hq_35 h_a (by decide)))]; exact ez_98
          have k_109 : z_99 = G_104.1 a 12 := by rw [eG_104, wI_ne (Or.inl (tag_ne hq_35 h_a (by decide)))]; exact ez_99
          refine lv_goto (tgt := 13) hx hb dX10_land_68 (by decide) ?_
          exact ih11 (z_97, z_98, z_99, x11_sc, G_104) _ _ _ (by show (if z_99.toInt = 0 then 1 + 2 * (tp.toInt - z_97.toInt).toNat + (if z_98.toInt = 0 then 0 else 1) else 0) < (if x11_bd.toInt = 0 then 1 + 2 * (tp.toInt - x11_at.toInt).toNat + (if x11_tk.toInt = 0 then 0 else 1) else 0); (repeat' split) <;> omega) ⟨(by show 0 ≤ z_97.toInt; omega), (by show z_97.toInt ≤ 1600; omega), (by show 1 ≤ x11_sc.toInt; omega), (by show x11_sc.toInt ≤ 50; omega), by show z_97.toInt ≤ tp.toInt; first | omega | assumption, (show tp = G_104.1 a 6 from by first | exact k_106 | omega), k_107, k_108, k_109, k_105, kx0, kx1, hF, hT, hS, lv_sub hl [0] rfl⟩
        · skip
          obtain ⟨er_89, hr_89_1_f0⟩ := hr_89_1
          have hr_89_1_f0 : z_88.toInt ≠ 0 := hr_89_1_f0
          subst er_89
          refine W.eq (g2 := F0 m 51 ls [.int 0]) rfl ?_
          refine lv_if_eq (tgt := 58) hx hb dX10_land_51 (by decide) (fun _ => ?_) (fun c_110 => absurd (by decide) c_110)
          refine lv_aload_n hx hb dX10_land_58 rfl (lv_at hl 0 rfl) ?_
          refine t_getr cf_11 hx hb hts hown hK hT h_a (k := 16) (P := fun q => τ q = 66) rfl (fun _ h9 => h9) fl_X10_31 (fun _ h9 => h9) dX10_land_59 (fun q_111 eq_111 hq_111 => ?_)
          have w_112 : q_35 = q_111 := Option.some.inj (eq_35.symm.trans ((hF.r h_a (by decide) rfl _).symm.trans eq_111))
          subst w_112
          refine lv_iconst (v := 4) hx hb dX10_land_62 (by decide) ?_
          refine lv_dup2_11 hx hb dX10_land_63 rfl rfl ?_
          refine t_iald (n := 5) (i := 4) rfl (by decide) hx hb hK hT hq_35 (hT.len hq_35 (by decide)) ⟨by decide, by decide⟩ dX10_land_64 (fun z_113 ez_113 rz_113 => ?_)
          have ez_113 : z_113 = G_80.1 q_35 4 := ez_113
          refine lv_iconst (v := 1) hx hb dX10_land_65 (by decide) ?_
          refine lv_iadd hx hb dX10_land_66 ?_
          refine lv_topi (fun z_114 ez_114 => ?_)
          refine t_iast (n := 5) (i := 4) (x := z_114) rfl (by decide) hx hb hK hT hS hq_35 (hT.len hq_35 (by decide)) ⟨by decide, by decide⟩ trivial dX10_land_67 (fun H locs G_115 eG_115 hT hS => ?_)
          have hF := hF.wI eG_115 hq_35 rfl
          have kx0 : ∀ j : Nat, j ≠ 4 → G_115.1 tha j = G.1 tha j := fun j hj => (by rw [eG_115]; exact (wI_ne (Or.inl (tag_ne hq_35 h_tha (by decide)))).trans (kx0 j hj))
          have kx1 : ∀ j : Nat, j < 24 → G_115.1 sa j = G.1 sa j := fun j hj => (by rw [eG_115]; exact (wI_ne (Or.inl (tag_ne hq_35 h_sa (by decide)))).trans (kx1 j hj))
          have k_116 : x11_sc = G_115.1 sa 25 := by rw [eG_115, wI_ne (Or.inl (tag_ne hq_35 h_sa (by decide)))]; exact k_85
          have k_117 : tp = G_115.1 a 6 := by rw [eG_115, wI_ne (Or.inl (tag_ne hq_35 h_a (by decide)))]; exact k_86
          have k_118 : z_87 = G_115.1 a 7 := by rw [eG_115, wI_ne (Or.inl (tag_ne hq_35 h_a (by decide)))]; exact ez_87
          have k_119 : z_88 = G_115.1 a 12 := by rw [eG_115, wI_ne (Or.inl (tag_ne hq_35 h_a (by decide)))]; exact ez_88
          refine lv_goto (tgt := 13) hx hb dX10_land_68 (by decide) ?_
          obtain ⟨z_120, ez_120⟩ : ∃ y : Int32, y = G_115.1 a 8 := ⟨_, rfl⟩
          exact ih11 (z_87, z_120, z_88, x11_sc, G_115) _ _ _ (by show (if z_88.toInt = 0 then 1 + 2 * (tp.toInt - z_87.toInt).toNat + (if z_120.toInt = 0 then 0 else 1) else 0) < (if x11_bd.toInt = 0 then 1 + 2 * (tp.toInt - x11_at.toInt).toNat + (if x11_tk.toInt = 0 then 0 else 1) else 0); (repeat' split) <;> omega) ⟨(by show 0 ≤ z_87.toInt; omega), (by show z_87.toInt ≤ 1600; omega), (by show 1 ≤ x11_sc.toInt; omega), (by show x11_sc.toInt ≤ 50; omega), by show z_87.toInt ≤ tp.toInt; first | omega | assumption, (show tp = G_115.1 a 6 from by first | exact k_117 | omega), k_118, ez_120, k_119, k_116, kx0, kx1, hF, hT, hS, lv_sub hl [0] rfl⟩
  · skip
    obtain ⟨er_14, hr_14_1_f0⟩ := hr_14_1
    have hr_14_1_f0 : x11_bd.toInt ≠ 0 := hr_14_1_f0
    subst er_14
    refine W.eq (g2 := F0 m 17 ls [.int 0]) rfl ?_
    refine lv_if_eq (tgt := 71) hx hb dX10_land_17 (by decide) (fun _ => ?_) (fun c_121 => absurd (by decide) c_121)
    refine lv_aload_n hx hb dX10_land_71 rfl (lv_at hl 0 rfl) ?_
    refine t_callv (runV (As := []) (rest := []) ⟨hx, hb, hml, hown, hts⟩ (t_X10_isOver l D cy base τ G_11 a h_a) sV_X10_267 hK (t_recv cf_11 hK hT h_a) ⟨Nat.le_trans hZ hS.1, hT⟩ ⟨Nat.le_of_ble_eq_true rfl, Nat.le_of_ble_eq_true rfl⟩ rfl hl.1 rfl (Nat.le_of_ble_eq_true rfl) dX10_land_72 ⟨Nat.le_of_ble_eq_true rfl, Nat.le_of_ble_eq_true rfl⟩) hS (fun G_122 H locs hF_122 hr_122 hT hS => ?_)
    have hF := hF.tr hF_122 rfl
    have kx0 : ∀ j : Nat, j ≠ 4 → G_122.1 tha j = G.1 tha j := fun j hj => (hF_122.i h_tha (by decide) rfl j).trans (kx0 j hj)
    have kx1 : ∀ j : Nat, j < 24 → G_122.1 sa j = G.1 sa j := fun j hj => (hF_122.i h_sa (by decide) rfl j).trans (kx1 j hj)
    have k_127 : x11_sc = G_122.1 sa 25 := i11_9.trans (hF_122.i h_sa (by decide) rfl _).symm
    refine lv_aload_n hx hb dX10_land_75 rfl (lv_at hl 0 rfl) ?_
    refine t_geti cf_11 hx hb hts hown hK hT h_a (k := 12) rfl fl_X10_163 (fun _ h9 => h9) dX10_land_76 (fun z_128 ez_128 rz_128 => ?_)
    have ez_128 : z_128 = G_122.1 a 12 := ez_128
    refine lv_if_eq (tgt := 85) hx hb dX10_land_79 (by decide) (fun c_129 => ?_) (fun c_129 => ?_)
    · skip
      have tc_129 : z_128.toInt = 0 := (fa_eq _ _).mp c_129
      refine lv_aload_n hx hb dX10_land_85 rfl (lv_at hl 0 rfl) ?_
      refine lv_iconst (v := 4) hx hb dX10_land_86 (by decide) ?_
      refine lv_iconst (v := 0) hx hb dX10_land_87 (by decide) ?_
      have hI4 : INV G_122 tha sa := (hI.rd kx0 kx1 (by rw [← k_127]; omega))
      refine t_callv (runV (As := [.int 4, .int 0]) (rest := []) ⟨hx, hb, hml, hown, hts⟩ (t_X10_copyLand l D cy base τ G_122 a h_a 4 (by decide) 0 (by decide) tha h_tha ((hF.r h_a (by decide) rfl _).trans e_tha) sa h_sa ((hF.r h_a (by decide) rfl _).trans e_sa)) sV_X10_270 hK (t_recv cf_11 hK hT h_a) ⟨Nat.le_trans hZ hS.1, hT⟩ ⟨Nat.le_of_ble_eq_true rfl, Nat.le_of_ble_eq_true rfl⟩ rfl hl.1 rfl (Nat.le_of_ble_eq_true rfl) dX10_land_88 ⟨Nat.le_of_ble_eq_true rfl, Nat.le_of_ble_eq_true rfl⟩) hS (fun G_130 H locs hF_130 hr_130 hT hS => ?_)
      have hF := hF.tr hF_130 rfl
      have k_132 : z_128 = G_130.1 a 12 := ez_128.trans (hF_130.i h_a (by decide) rfl _).symm
      obtain ⟨hr_130_p0, hr_130_p1⟩ := hr_130
      have hr_130_p0 : ∀ j : Nat, G_130.1 tha j = if 1 * (0 : Int).toNat ≤ j ∧ j < 1 * (0 : Int).toNat + 1 then G_122.1 tha (1 * (4 : Int).toNat + (j - 1 * (0 : Int).toNat)) else G_122.1 tha j := hr_130_p0
      have hr_130_p1 : ∀ j : Nat, G_130.1 sa j = if 6 * (0 : Int).toNat ≤ j ∧ j < 6 * (0 : Int).toNat + 6 then G_122.1 sa (6 * (4 : Int).toNat + (j - 6 * (0 : Int).toNat)) else G_122.1 sa j := hr_130_p1
      refine lv_aload_n hx hb dX10_land_91 rfl (lv_at hl 0 rfl) ?_
      refine t_getr cf_11 hx hb hts hown hK hT h_a (k := 26) (P := fun q => τ q = 76) rfl (fun _ h9 => h9) fl_X10_62 (fun _ h9 => h9) dX10_land_92 (fun q_133 eq_133 hq_133 => ?_)
      have eq_133 := (hF.r h_a (by decide) rfl _).symm.trans eq_133
      refine lv_iconst (v := 0) hx hb dX10_land_95 (by decide) ?_
      refine lv_iconst (v := 0) hx hb dX10_land_96 (by decide) ?_
      refine t_iast (n := 5) (i := 0) (x := 0) rfl (by decide) hx hb hK hT hS hq_133 (hT.len hq_133 (by decide)) ⟨by decide, by decide⟩ trivial dX10_land_97 (fun H locs G_134 eG_134 hT hS => ?_)
      have hF := hF.wI eG_134 hq_133 rfl
      have k_135 : z_128 = G_134.1 a 12 := by rw [eG_134, wI_ne (Or.inl (tag_ne hq_133 h_a (by decide)))]; exact k_132
      refine lv_aload_n hx hb dX10_land_98 rfl (lv_at hl 0 rfl) ?_
      refine t_getr cf_11 hx hb hts hown hK hT h_a (k := 16) (P := fun q => τ q = 66) rfl (fun _ h9 => h9) fl_X10_31 (fun _ h9 => h9) dX10_land_99 (fun q_136 eq_136 hq_136 => ?_)
      have eq_136 := (hF.r h_a (by decide) rfl _).symm.trans eq_136
      refine lv_iconst (v := 0) hx hb dX10_land_102 (by decide) ?_
      refine t_iald (n := 5) (i := 0) rfl (by decide) hx hb hK hT hq_136 (hT.len hq_136 (by decide)) ⟨by decide, by decide⟩ dX10_land_103 (fun z_137 ez_137 rz_137 => ?_)
      have ez_137 : z_137 = G_134.1 q_136 0 := ez_137
      exact ret_i hx hb hr hlocks ⟨⟨hS.1, hS.2.1⟩, G_134, hF, ⟨_, rfl, (INV.same (INV.cp hI4 (by omega) hr_130_p0 hr_130_p1) (fun j => by rw [eG_134]; exact wI_ne (Or.inl (tag_ne hq_133 h_tha (by decide)))) (fun j => by rw [eG_134]; exact wI_ne (Or.inl (tag_ne hq_133 h_sa (by decide)))))⟩, hT⟩ hS.2.2 (Nat.le_of_ble_eq_true rfl) (Nat.le_of_ble_eq_true rfl) dX10_land_104
    · skip
      have tc_129 : ¬ z_128.toInt = 0 := fun h => c_129 ((fa_eq _ _).mpr h)
      refine lv_bipush (v := (-4)) hx hb dX10_land_82 (by decide) ?_
      exact ret_i hx hb hr hlocks ⟨⟨hS.1, hS.2.1⟩, G_122, hF, ⟨_, rfl, (hI.rd kx0 kx1 (by rw [← k_127]; omega))⟩, hT⟩ hS.2.2 (Nat.le_of_ble_eq_true rfl) (Nat.le_of_ble_eq_true rfl) dX10_land_84
