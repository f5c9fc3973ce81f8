theorem dX5_splitFrom_0 : decode cX5_splitFrom 0 = .ok (.lload 4, 2) := by decide +kernel
theorem dX5_splitFrom_2 : decode cX5_splitFrom 2 = .ok (.lconst 0, 1) := by decide +kernel
theorem dX5_splitFrom_3 : decode cX5_splitFrom 3 = .ok (.lcmp, 1) := by decide +kernel
theorem dX5_splitFrom_4 : decode cX5_splitFrom 4 = .ok (.ifCond .ne 4, 3) := by decide +kernel
theorem dX5_splitFrom_8 : decode cX5_splitFrom 8 = .ok (.iload_n 3, 1) := by decide +kernel
theorem dX5_splitFrom_9 : decode cX5_splitFrom 9 = .ok (.aload_n 1, 1) := by decide +kernel
theorem dX5_splitFrom_10 : decode cX5_splitFrom 10 = .ok (.getfield 79, 3) := by decide +kernel
theorem dX5_splitFrom_13 : decode cX5_splitFrom 13 = .ok (.if_icmp .ge 9, 3) := by decide +kernel
theorem dX5_splitFrom_22 : decode cX5_splitFrom 22 = .ok (.aload_n 0, 1) := by decide +kernel
theorem dX5_splitFrom_23 : decode cX5_splitFrom 23 = .ok (.getfield 30, 3) := by decide +kernel
theorem dX5_splitFrom_26 : decode cX5_splitFrom 26 = .ok (.iload_n 2, 1) := by decide +kernel
theorem dX5_splitFrom_27 : decode cX5_splitFrom 27 = .ok (.bipush 63, 2) := by decide +kernel
theorem dX5_splitFrom_29 : decode cX5_splitFrom 29 = .ok (.iand, 1) := by decide +kernel
theorem dX5_splitFrom_30 : decode cX5_splitFrom 30 = .ok (.dup2, 1) := by decide +kernel
theorem dX5_splitFrom_31 : decode cX5_splitFrom 31 = .ok (.laload, 1) := by decide +kernel
theorem dX5_splitFrom_32 : decode cX5_splitFrom 32 = .ok (.lload 4, 2) := by decide +kernel
theorem dX5_splitFrom_34 : decode cX5_splitFrom 34 = .ok (.ladd, 1) := by decide +kernel
theorem dX5_splitFrom_35 : decode cX5_splitFrom 35 = .ok (.lastore, 1) := by decide +kernel
theorem dX5_splitFrom_36 : decode cX5_splitFrom 36 = .ok (.return_, 1) := by decide +kernel
theorem dX5_splitFrom_7 : decode cX5_splitFrom 7 = .ok (.return_, 1) := by decide +kernel
theorem dX5_splitFrom_16 : decode cX5_splitFrom 16 = .ok (.iload_n 3, 1) := by decide +kernel
theorem dX5_splitFrom_17 : decode cX5_splitFrom 17 = .ok (.bipush 6, 2) := by decide +kernel
theorem dX5_splitFrom_19 : decode cX5_splitFrom 19 = .ok (.if_icmp .lt 18, 3) := by decide +kernel
theorem dX5_splitFrom_37 : decode cX5_splitFrom 37 = .ok (.iconst 1, 1) := by decide +kernel
theorem dX5_splitFrom_38 : decode cX5_splitFrom 38 = .ok (.iload_n 3, 1) := by decide +kernel
theorem dX5_splitFrom_39 : decode cX5_splitFrom 39 = .ok (.ishl, 1) := by decide +kernel
theorem dX5_splitFrom_40 : decode cX5_splitFrom 40 = .ok (.istore 6, 2) := by decide +kernel
theorem dX5_splitFrom_42 : decode cX5_splitFrom 42 = .ok (.iload_n 2, 1) := by decide +kernel
theorem dX5_splitFrom_43 : decode cX5_splitFrom 43 = .ok (.iload 6, 2) := by decide +kernel
theorem dX5_splitFrom_45 : decode cX5_splitFrom 45 = .ok (.iand, 1) := by decide +kernel
theorem dX5_splitFrom_46 : decode cX5_splitFrom 46 = .ok (.ifCond .ne 17, 3) := by decide +kernel
theorem dX5_splitFrom_63 : decode cX5_splitFrom 63 = .ok (.lconst 0, 1) := by decide +kernel
theorem dX5_splitFrom_64 : decode cX5_splitFrom 64 = .ok (.lstore 7, 2) := by decide +kernel
theorem dX5_splitFrom_66 : decode cX5_splitFrom 66 = .ok (.aload_n 0, 1) := by decide +kernel
theorem dX5_splitFrom_67 : decode cX5_splitFrom 67 = .ok (.aload_n 1, 1) := by decide +kernel
theorem dX5_splitFrom_68 : decode cX5_splitFrom 68 = .ok (.iload_n 2, 1) := by decide +kernel
theorem dX5_splitFrom_69 : decode cX5_splitFrom 69 = .ok (.iload 6, 2) := by decide +kernel
theorem dX5_splitFrom_71 : decode cX5_splitFrom 71 = .ok (.ior, 1) := by decide +kernel
theorem dX5_splitFrom_72 : decode cX5_splitFrom 72 = .ok (.iload_n 3, 1) := by decide +kernel
theorem dX5_splitFrom_73 : decode cX5_splitFrom 73 = .ok (.iconst 1, 1) := by decide +kernel
theorem dX5_splitFrom_74 : decode cX5_splitFrom 74 = .ok (.iadd, 1) := by decide +kernel
theorem dX5_splitFrom_75 : decode cX5_splitFrom 75 = .ok (.lload 7, 2) := by decide +kernel
theorem dX5_splitFrom_77 : decode cX5_splitFrom 77 = .ok (.invokevirtual 82, 3) := by decide +kernel
theorem dX5_splitFrom_80 : decode cX5_splitFrom 80 = .ok (.aload_n 0, 1) := by decide +kernel
theorem dX5_splitFrom_81 : decode cX5_splitFrom 81 = .ok (.aload_n 1, 1) := by decide +kernel
theorem dX5_splitFrom_82 : decode cX5_splitFrom 82 = .ok (.iload_n 2, 1) := by decide +kernel
theorem dX5_splitFrom_83 : decode cX5_splitFrom 83 = .ok (.iload_n 3, 1) := by decide +kernel
theorem dX5_splitFrom_84 : decode cX5_splitFrom 84 = .ok (.iconst 1, 1) := by decide +kernel
theorem dX5_splitFrom_85 : decode cX5_splitFrom 85 = .ok (.iadd, 1) := by decide +kernel
theorem dX5_splitFrom_86 : decode cX5_splitFrom 86 = .ok (.lload 4, 2) := by decide +kernel
theorem dX5_splitFrom_88 : decode cX5_splitFrom 88 = .ok (.lload 7, 2) := by decide +kernel
theorem dX5_splitFrom_90 : decode cX5_splitFrom 90 = .ok (.lsub, 1) := by decide +kernel
theorem dX5_splitFrom_91 : decode cX5_splitFrom 91 = .ok (.invokevirtual 82, 3) := by decide +kernel
theorem dX5_splitFrom_94 : decode cX5_splitFrom 94 = .ok (.return_, 1) := by decide +kernel
theorem dX5_splitFrom_49 : decode cX5_splitFrom 49 = .ok (.lload 4, 2) := by decide +kernel
theorem dX5_splitFrom_51 : decode cX5_splitFrom 51 = .ok (.aload_n 1, 1) := by decide +kernel
theorem dX5_splitFrom_52 : decode cX5_splitFrom 52 = .ok (.getfield 55, 3) := by decide +kernel
theorem dX5_splitFrom_55 : decode cX5_splitFrom 55 = .ok (.iload_n 3, 1) := by decide +kernel
theorem dX5_splitFrom_56 : decode cX5_splitFrom 56 = .ok (.iaload, 1) := by decide +kernel
theorem dX5_splitFrom_57 : decode cX5_splitFrom 57 = .ok (.invokestatic 59, 3) := by decide +kernel
theorem dX5_splitFrom_60 : decode cX5_splitFrom 60 = .ok (.goto 4, 3) := by decide +kernel
theorem dX5_followAll_0 : decode cX5_followAll 0 = .ok (.aload_n 0, 1) := by decide +kernel
theorem dX5_followAll_1 : decode cX5_followAll 1 = .ok (.getfield 24, 3) := by decide +kernel
theorem dX5_followAll_4 : decode cX5_followAll 4 = .ok (.lconst 0, 1) := by decide +kernel
theorem dX5_followAll_5 : decode cX5_followAll 5 = .ok (.invokestatic 33, 3) := by decide +kernel
theorem dX5_followAll_8 : decode cX5_followAll 8 = .ok (.aload_n 0, 1) := by decide +kernel
theorem dX5_followAll_9 : decode cX5_followAll 9 = .ok (.getfield 27, 3) := by decide +kernel
theorem dX5_followAll_12 : decode cX5_followAll 12 = .ok (.lconst 0, 1) := by decide +kernel
theorem dX5_followAll_13 : decode cX5_followAll 13 = .ok (.invokestatic 33, 3) := by decide +kernel
theorem dX5_followAll_16 : decode cX5_followAll 16 = .ok (.aload_n 0, 1) := by decide +kernel
theorem dX5_followAll_17 : decode cX5_followAll 17 = .ok (.getfield 27, 3) := by decide +kernel
theorem dX5_followAll_20 : decode cX5_followAll 20 = .ok (.iconst 0, 1) := by decide +kernel
theorem dX5_followAll_21 : decode cX5_followAll 21 = .ok (.ldc2_w 45, 3) := by decide +kernel
theorem dX5_followAll_24 : decode cX5_followAll 24 = .ok (.lastore, 1) := by decide +kernel
theorem dX5_followAll_25 : decode cX5_followAll 25 = .ok (.iconst 1, 1) := by decide +kernel
theorem dX5_followAll_26 : decode cX5_followAll 26 = .ok (.istore_n 3, 1) := by decide +kernel
theorem dX5_followAll_27 : decode cX5_followAll 27 = .ok (.iload_n 3, 1) := by decide +kernel
theorem dX5_followAll_28 : decode cX5_followAll 28 = .ok (.iload_n 2, 1) := by decide +kernel
theorem dX5_followAll_29 : decode cX5_followAll 29 = .ok (.if_icmp .gt 123, 3) := by decide +kernel
theorem dX5_followAll_152 : decode cX5_followAll 152 = .ok (.return_, 1) := by decide +kernel
theorem dX5_followAll_32 : decode cX5_followAll 32 = .ok (.iload_n 3, 1) := by decide +kernel
theorem dX5_followAll_33 : decode cX5_followAll 33 = .ok (.aload_n 1, 1) := by decide +kernel
theorem dX5_followAll_34 : decode cX5_followAll 34 = .ok (.getfield 47, 3) := by decide +kernel
theorem dX5_followAll_37 : decode cX5_followAll 37 = .ok (.if_icmp .gt 115, 3) := by decide +kernel
theorem dX5_followAll_40 : decode cX5_followAll 40 = .ok (.aload_n 0, 1) := by decide +kernel
theorem dX5_followAll_41 : decode cX5_followAll 41 = .ok (.getfield 30, 3) := by decide +kernel
theorem dX5_followAll_44 : decode cX5_followAll 44 = .ok (.lconst 0, 1) := by decide +kernel
theorem dX5_followAll_45 : decode cX5_followAll 45 = .ok (.invokestatic 33, 3) := by decide +kernel
theorem dX5_followAll_48 : decode cX5_followAll 48 = .ok (.iconst 0, 1) := by decide +kernel
theorem dX5_followAll_49 : decode cX5_followAll 49 = .ok (.istore 4, 2) := by decide +kernel
theorem dX5_followAll_51 : decode cX5_followAll 51 = .ok (.iload 4, 2) := by decide +kernel
theorem dX5_followAll_53 : decode cX5_followAll 53 = .ok (.bipush 64, 2) := by decide +kernel
theorem dX5_followAll_55 : decode cX5_followAll 55 = .ok (.if_icmp .ge 76, 3) := by decide +kernel
theorem dX5_followAll_131 : decode cX5_followAll 131 = .ok (.aload_n 0, 1) := by decide +kernel
theorem dX5_followAll_132 : decode cX5_followAll 132 = .ok (.getfield 30, 3) := by decide +kernel
theorem dX5_followAll_135 : decode cX5_followAll 135 = .ok (.iconst 0, 1) := by decide +kernel
theorem dX5_followAll_136 : decode cX5_followAll 136 = .ok (.aload_n 0, 1) := by decide +kernel
theorem dX5_followAll_137 : decode cX5_followAll 137 = .ok (.getfield 24, 3) := by decide +kernel
theorem dX5_followAll_140 : decode cX5_followAll 140 = .ok (.iconst 0, 1) := by decide +kernel
theorem dX5_followAll_141 : decode cX5_followAll 141 = .ok (.bipush 64, 2) := by decide +kernel
theorem dX5_followAll_143 : decode cX5_followAll 143 = .ok (.invokestatic 86, 3) := by decide +kernel
theorem dX5_followAll_146 : decode cX5_followAll 146 = .ok (.iinc 3 1, 3) := by decide +kernel
theorem dX5_followAll_149 : decode cX5_followAll 149 = .ok (.goto (-122), 3) := by decide +kernel
theorem dX5_followAll_58 : decode cX5_followAll 58 = .ok (.iload 4, 2) := by decide +kernel
theorem dX5_followAll_60 : decode cX5_followAll 60 = .ok (.iconst 1, 1) := by decide +kernel
theorem dX5_followAll_61 : decode cX5_followAll 61 = .ok (.aload_n 1, 1) := by decide +kernel
theorem dX5_followAll_62 : decode cX5_followAll 62 = .ok (.getfield 79, 3) := by decide +kernel
theorem dX5_followAll_65 : decode cX5_followAll 65 = .ok (.ishl, 1) := by decide +kernel
theorem dX5_followAll_66 : decode cX5_followAll 66 = .ok (.if_icmp .ge 65, 3) := by decide +kernel
theorem dX5_followAll_69 : decode cX5_followAll 69 = .ok (.aload_n 1, 1) := by decide +kernel
theorem dX5_followAll_70 : decode cX5_followAll 70 = .ok (.iload_n 3, 1) := by decide +kernel
theorem dX5_followAll_71 : decode cX5_followAll 71 = .ok (.aload_n 0, 1) := by decide +kernel
theorem dX5_followAll_72 : decode cX5_followAll 72 = .ok (.getfield 24, 3) := by decide +kernel
theorem dX5_followAll_75 : decode cX5_followAll 75 = .ok (.iload 4, 2) := by decide +kernel
theorem dX5_followAll_77 : decode cX5_followAll 77 = .ok (.laload, 1) := by decide +kernel
theorem dX5_followAll_78 : decode cX5_followAll 78 = .ok (.aload_n 0, 1) := by decide +kernel
theorem dX5_followAll_79 : decode cX5_followAll 79 = .ok (.getfield 27, 3) := by decide +kernel
theorem dX5_followAll_82 : decode cX5_followAll 82 = .ok (.iload 4, 2) := by decide +kernel
theorem dX5_followAll_84 : decode cX5_followAll 84 = .ok (.laload, 1) := by decide +kernel
theorem dX5_followAll_85 : decode cX5_followAll 85 = .ok (.invokestatic 51, 3) := by decide +kernel
theorem dX5_followAll_88 : decode cX5_followAll 88 = .ok (.lstore 5, 2) := by decide +kernel
theorem dX5_followAll_90 : decode cX5_followAll 90 = .ok (.aload_n 0, 1) := by decide +kernel
theorem dX5_followAll_91 : decode cX5_followAll 91 = .ok (.getfield 27, 3) := by decide +kernel
theorem dX5_followAll_94 : decode cX5_followAll 94 = .ok (.iload 4, 2) := by decide +kernel
theorem dX5_followAll_96 : decode cX5_followAll 96 = .ok (.aload_n 0, 1) := by decide +kernel
theorem dX5_followAll_97 : decode cX5_followAll 97 = .ok (.getfield 24, 3) := by decide +kernel
theorem dX5_followAll_100 : decode cX5_followAll 100 = .ok (.iload 4, 2) := by decide +kernel
theorem dX5_followAll_102 : decode cX5_followAll 102 = .ok (.laload, 1) := by decide +kernel
theorem dX5_followAll_103 : decode cX5_followAll 103 = .ok (.aload_n 0, 1) := by decide +kernel
theorem dX5_followAll_104 : decode cX5_followAll 104 = .ok (.getfield 27, 3) := by decide +kernel
theorem dX5_followAll_107 : decode cX5_followAll 107 = .ok (.iload 4, 2) := by decide +kernel
theorem dX5_followAll_109 : decode cX5_followAll 109 = .ok (.laload, 1) := by decide +kernel
theorem dX5_followAll_110 : decode cX5_followAll 110 = .ok (.ladd, 1) := by decide +kernel
theorem dX5_followAll_111 : decode cX5_followAll 111 = .ok (.lload 5, 2) := by decide +kernel
theorem dX5_followAll_113 : decode cX5_followAll 113 = .ok (.lsub, 1) := by decide +kernel
theorem dX5_followAll_114 : decode cX5_followAll 114 = .ok (.lastore, 1) := by decide +kernel
theorem dX5_followAll_115 : decode cX5_followAll 115 = .ok (.aload_n 0, 1) := by decide +kernel
theorem dX5_followAll_116 : decode cX5_followAll 116 = .ok (.aload_n 1, 1) := by decide +kernel
theorem dX5_followAll_117 : decode cX5_followAll 117 = .ok (.iload 4, 2) := by decide +kernel
theorem dX5_followAll_119 : decode cX5_followAll 119 = .ok (.iconst 0, 1) := by decide +kernel
theorem dX5_followAll_120 : decode cX5_followAll 120 = .ok (.lload 5, 2) := by decide +kernel
theorem dX5_followAll_122 : decode cX5_followAll 122 = .ok (.invokevirtual 82, 3) := by decide +kernel
theorem dX5_followAll_125 : decode cX5_followAll 125 = .ok (.iinc 4 1, 3) := by decide +kernel
theorem dX5_followAll_128 : decode cX5_followAll 128 = .ok (.goto (-77), 3) := by decide +kernel
theorem sV_X5_82 : SiteV RX5 82 yX5_splitFrom cX5_splitFrom 9 none 4 := ⟨ml_X5_82, im_X5_splitFrom, se_X5_splitFrom, ini_X5, co_X5_splitFrom, by decide +kernel⟩
set_option maxHeartbeats 4000000 in
set_option maxRecDepth 100000 in
theorem t_X5_splitFrom_6 (l : Launch) (D : va_G) (cy : Nat → ClassId) (base : Nat) (τ : Nat → Nat) (G : Gh) (a : Nat) (h_a : τ a = 8) (b : Nat) (h_b : τ b = 7) (v : Int32) (x : Int64) : MM l yX5_splitFrom cX5_splitFrom 9 none 0 0 0 D cy [.ref a, .ref b, .int v, .int 6, .long x] (PT D cy base τ G) (QT D cy base τ G [35] (fun v g => v = none ∧ (True))) (RA base) := by
  refine MM.of (by decide) (Nat.le_of_ble_eq_true rfl) ?_
  intro p e s m below meth c C hPT ls hl
  obtain ⟨hx, hb, hr, hml, hown, hts, hlocks, hK, hnm⟩ := C
  obtain ⟨hZ, hT⟩ := hPT
  have hS : va_S (RA base) s.heap s.heap [] := va_S.rf
  have hF : Fr τ [35] G G := Fr.rf
  have hl : lv_has ls 9 [(0, .ref a), (1, .ref b), (2, .int v), (3, .int 6), (4, .long x)] := hl
  refine lv_lload hx hb dX5_splitFrom_0 (lv_at hl 4 rfl) ?_
  refine lv_lconst (v := 0) hx hb dX5_splitFrom_2 (by decide) ?_
  refine W.lcmp hx hb dX5_splitFrom_3 ?_
  refine lv_topi (fun z_1 ez_1 => ?_)
  have tz_1 : (z_1.toInt < 0 ↔ x.toInt < 0) ∧ (0 < z_1.toInt ↔ 0 < x.toInt) ∧ -1 ≤ z_1.toInt ∧ z_1.toInt ≤ 1 := cmp_t ez_1
  refine lv_if_ne (tgt := 8) hx hb dX5_splitFrom_4 (by decide) (fun c_2 => ?_) (fun c_2 => ?_)
  · skip
    have tc_2 : ¬ z_1.toInt = 0 := fun h => c_2 ((fa_eq _ _).mpr h)
    refine lv_iload_n hx hb dX5_splitFrom_8 rfl (lv_at hl 3 rfl) ?_
    refine lv_aload_n hx hb dX5_splitFrom_9 rfl (lv_at hl 1 rfl) ?_
    refine t_geti cf_7 hx hb hts hown hK hT h_b (k := 6) rfl fl_X5_79 (fun _ h9 => h9) dX5_splitFrom_10 (fun z_3 ez_3 rz_3 => ?_)
    have ez_3 : z_3 = G.1 b 6 := ez_3
    have rz_3 : 0 ≤ z_3.toInt ∧ z_3.toInt ≤ 6 := rz_3
    refine lv_icmp_ge (tgt := 22) hx hb dX5_splitFrom_13 (by decide) (fun c_4 => ?_) (fun c_4 => ?_)
    · skip
      have tc_4 : z_3.toInt ≤ 6 := (fa_le _ _).mp c_4
      refine lv_aload_n hx hb dX5_splitFrom_22 rfl (lv_at hl 0 rfl) ?_
      refine t_getr cf_8 hx hb hts hown hK hT h_a (k := 6) (P := fun q => τ q = 35) rfl (fun _ h9 => h9) fl_X5_30 (fun _ h9 => h9) dX5_splitFrom_23 (fun q_5 eq_5 hq_5 => ?_)
      refine lv_iload_n hx hb dX5_splitFrom_26 rfl (lv_at hl 2 rfl) ?_
      refine lv_bipush (v := 63) hx hb dX5_splitFrom_27 (by decide) ?_
      refine lv_iand hx hb dX5_splitFrom_29 ?_
      refine lv_topi (fun z_6 ez_6 => ?_)
      have tz_6 : 0 ≤ z_6.toInt ∧ z_6.toInt ≤ 63 := and_t ez_6 (by decide)
      refine lv_dup2_11 hx hb dX5_splitFrom_30 rfl rfl ?_
      refine t_lald (n := 64) (i := z_6) rfl (by decide) hx hb hK hT hq_5 (hT.len hq_5 (by decide)) ⟨by omega, by omega⟩ dX5_splitFrom_31 (fun z_7 ez_7 => ?_)
      refine lv_lload hx hb dX5_splitFrom_32 (lv_at hl 4 rfl) ?_
      refine lv_ladd hx hb dX5_splitFrom_34 ?_
      refine lv_topl (fun z_8 ez_8 => ?_)
      refine t_last (n := 64) (i := z_6) (x := z_8) rfl (by decide) hx hb hK hT hS hq_5 (hT.len hq_5 (by decide)) ⟨by omega, by omega⟩ dX5_splitFrom_35 (fun H locs G_9 eG_9 hT hS => ?_)
      have hF := hF.wL eG_9 hq_5 rfl
      exact ret_v hx hb hr hlocks ⟨⟨hS.1, hS.2.1⟩, G_9, hF, ⟨rfl, trivial⟩, hT⟩ hS.2.2 (Nat.le_of_ble_eq_true rfl) (Nat.le_of_ble_eq_true rfl) dX5_splitFrom_36
    · skip
      have tc_4 : ¬ z_3.toInt ≤ 6 := fun h => c_4 ((fa_le _ _).mpr h)
      exfalso; omega
  · skip
    have tc_2 : z_1.toInt = 0 := (fa_eq _ _).mp c_2
    exact ret_v hx hb hr hlocks ⟨⟨hS.1, hS.2.1⟩, G, hF, ⟨rfl, trivial⟩, hT⟩ hS.2.2 (Nat.le_of_ble_eq_true rfl) (Nat.le_of_ble_eq_true rfl) dX5_splitFrom_7
set_option maxHeartbeats 4000000 in
set_option maxRecDepth 100000 in
theorem t_X5_splitFrom_5 (l : Launch) (D : va_G) (cy : Nat → ClassId) (base : Nat) (τ : Nat → Nat) (G : Gh) (a : Nat) (h_a : τ a = 8) (b : Nat) (h_b : τ b = 7) (v : Int32) (x : Int64) : MM l yX5_splitFrom cX5_splitFrom 9 none 1 0 0 D cy [.ref a, .ref b, .int v, .int 5, .long x] (PT D cy base τ G) (QT D cy base τ G [35] (fun v g => v = none ∧ (True))) (RA base) := by
  refine MM.of (by decide) (Nat.le_of_ble_eq_true rfl) ?_
  intro p e s m below meth c C hPT ls hl
  obtain ⟨hx, hb, hr, hml, hown, hts, hlocks, hK, hnm⟩ := C
  obtain ⟨hZ, hT⟩ := hPT
  have hS : va_S (RA base) s.heap s.heap [] := va_S.rf
  have hF : Fr τ [35] G G := Fr.rf
  have hl : lv_has ls 9 [(0, .ref a), (1, .ref b), (2, .int v), (3, .int 5), (4, .long x)] := hl
  refine lv_lload hx hb dX5_splitFrom_0 (lv_at hl 4 rfl) ?_
  refine lv_lconst (v := 0) hx hb dX5_splitFrom_2 (by decide) ?_
  refine W.lcmp hx hb dX5_splitFrom_3 ?_
  refine lv_topi (fun z_1 ez_1 => ?_)
  have tz_1 : (z_1.toInt < 0 ↔ x.toInt < 0) ∧ (0 < z_1.toInt ↔ 0 < x.toInt) ∧ -1 ≤ z_1.toInt ∧ z_1.toInt ≤ 1 := cmp_t ez_1
  refine lv_if_ne (tgt := 8) hx hb dX5_splitFrom_4 (by decide) (fun c_2 => ?_) (fun c_2 => ?_)
  · skip
    have tc_2 : ¬ z_1.toInt = 0 := fun h => c_2 ((fa_eq _ _).mpr h)
    refine lv_iload_n hx hb dX5_splitFrom_8 rfl (lv_at hl 3 rfl) ?_
    refine lv_aload_n hx hb dX5_splitFrom_9 rfl (lv_at hl 1 rfl) ?_
    refine t_geti cf_7 hx hb hts hown hK hT h_b (k := 6) rfl fl_X5_79 (fun _ h9 => h9) dX5_splitFrom_10 (fun z_3 ez_3 rz_3 => ?_)
    have ez_3 : z_3 = G.1 b 6 := ez_3
    have rz_3 : 0 ≤ z_3.toInt ∧ z_3.toInt ≤ 6 := rz_3
    refine lv_icmp_ge (tgt := 22) hx hb dX5_splitFrom_13 (by decide) (fun c_4 => ?_) (fun c_4 => ?_)
    · skip
      have tc_4 : z_3.toInt ≤ 5 := (fa_le _ _).mp c_4
      refine lv_aload_n hx hb dX5_splitFrom_22 rfl (lv_at hl 0 rfl) ?_
      refine t_getr cf_8 hx hb hts hown hK hT h_a (k := 6) (P := fun q => τ q = 35) rfl (fun _ h9 => h9) fl_X5_30 (fun _ h9 => h9) dX5_splitFrom_23 (fun q_5 eq_5 hq_5 => ?_)
      refine lv_iload_n hx hb dX5_splitFrom_26 rfl (lv_at hl 2 rfl) ?_
      refine lv_bipush (v := 63) hx hb dX5_splitFrom_27 (by decide) ?_
      refine lv_iand hx hb dX5_splitFrom_29 ?_
      refine lv_topi (fun z_6 ez_6 => ?_)
      have tz_6 : 0 ≤ z_6.toInt ∧ z_6.toInt ≤ 63 := and_t ez_6 (by decide)
      refine lv_dup2_11 hx hb dX5_splitFrom_30 rfl rfl ?_
      refine t_lald (n := 64) (i := z_6) rfl (by decide) hx hb hK hT hq_5 (hT.len hq_5 (by decide)) ⟨by omega, by omega⟩ dX5_splitFrom_31 (fun z_7 ez_7 => ?_)
      refine lv_lload hx hb dX5_splitFrom_32 (lv_at hl 4 rfl) ?_
      refine lv_ladd hx hb dX5_splitFrom_34 ?_
      refine lv_topl (fun z_8 ez_8 => ?_)
      refine t_last (n := 64) (i := z_6) (x := z_8) rfl (by decide) hx hb hK hT hS hq_5 (hT.len hq_5 (by decide)) ⟨by omega, by omega⟩ dX5_splitFrom_35 (fun H locs G_9 eG_9 hT hS => ?_)
      have hF := hF.wL eG_9 hq_5 rfl
      exact ret_v hx hb hr hlocks ⟨⟨hS.1, hS.2.1⟩, G_9, hF, ⟨rfl, trivial⟩, hT⟩ hS.2.2 (Nat.le_of_ble_eq_true rfl) (Nat.le_of_ble_eq_true rfl) dX5_splitFrom_36
    · skip
      have tc_4 : ¬ z_3.toInt ≤ 5 := fun h => c_4 ((fa_le _ _).mpr h)
      refine lv_iload_n hx hb dX5_splitFrom_16 rfl (lv_at hl 3 rfl) ?_
      refine lv_bipush (v := 6) hx hb dX5_splitFrom_17 (by decide) ?_
      refine lv_icmp_lt (tgt := 37) hx hb dX5_splitFrom_19 (by decide) (fun _ => ?_) (fun c_10 => absurd (by decide) c_10)
      refine lv_iconst (v := 1) hx hb dX5_splitFrom_37 (by decide) ?_
      refine lv_iload_n hx hb dX5_splitFrom_38 rfl (lv_at hl 3 rfl) ?_
      refine lv_ishl hx hb dX5_splitFrom_39 ?_
      refine lv_topi (fun z_11 ez_11 => ?_)
      have ez_11 : z_11 = 32 := ez_11.trans (by decide)
      subst ez_11
      refine lv_istore (lv' := [(6, .int 32), (0, .ref a), (1, .ref b), (2, .int v), (3, .int 5), (4, .long x)]) hx hb dX5_splitFrom_40 hl (by decide) rfl (fun ls hl => ?_)
      refine lv_iload_n hx hb dX5_splitFrom_42 rfl (lv_at hl 3 rfl) ?_
      refine lv_iload hx hb dX5_splitFrom_43 (lv_at hl 0 rfl) ?_
      refine lv_iand hx hb dX5_splitFrom_45 ?_
      refine lv_topi (fun z_12 ez_12 => ?_)
      have tz_12 : 0 ≤ z_12.toInt ∧ z_12.toInt ≤ 32 := and_t ez_12 (by decide)
      refine lv_if_ne (tgt := 63) hx hb dX5_splitFrom_46 (by decide) (fun c_13 => ?_) (fun c_13 => ?_)
      · skip
        have tc_13 : ¬ z_12.toInt = 0 := fun h => c_13 ((fa_eq _ _).mpr h)
        refine lv_lconst (v := 0) hx hb dX5_splitFrom_63 (by decide) ?_
        refine lv_lstore (lv' := [(7, .long 0), (6, .int 32), (0, .ref a), (1, .ref b), (2, .int v), (3, .int 5), (4, .long x)]) hx hb dX5_splitFrom_64 hl (by decide) rfl (fun ls hl => ?_)
        refine lv_aload_n hx hb dX5_splitFrom_66 rfl (lv_at hl 2 rfl) ?_
        refine lv_aload_n hx hb dX5_splitFrom_67 rfl (lv_at hl 3 rfl) ?_
        refine lv_iload_n hx hb dX5_splitFrom_68 rfl (lv_at hl 4 rfl) ?_
        refine lv_iload hx hb dX5_splitFrom_69 (lv_at hl 1 rfl) ?_
        refine lv_ior hx hb dX5_splitFrom_71 ?_
        refine lv_topi (fun z_14 ez_14 => ?_)
        refine lv_iload_n hx hb dX5_splitFrom_72 rfl (lv_at hl 5 rfl) ?_
        refine lv_iconst (v := 1) hx hb dX5_splitFrom_73 (by decide) ?_
        refine lv_iadd hx hb dX5_splitFrom_74 ?_
        refine lv_topi (fun z_15 ez_15 => ?_)
        have ez_15 : z_15 = 6 := ez_15.trans (by decide)
        subst ez_15
        refine lv_lload hx hb dX5_splitFrom_75 (lv_at hl 0 rfl) ?_
        refine t_callv (runV (As := [.ref b, .int z_14, .int 6, .long 0]) (rest := []) ⟨hx, hb, hml, hown, hts⟩ (t_X5_splitFrom_6 l D cy base τ G a h_a b h_b z_14 0) sV_X5_82 hK (t_recv cf_8 hK hT h_a) ⟨Nat.le_trans hZ hS.1, hT⟩ ⟨Nat.le_of_ble_eq_true rfl, Nat.le_of_ble_eq_true rfl⟩ rfl hl.1 rfl (Nat.le_of_ble_eq_true rfl) dX5_splitFrom_77 ⟨Nat.le_of_ble_eq_true rfl, Nat.le_of_ble_eq_true rfl⟩) hS (fun G_16 H locs hF_16 hr_16 hT hS => ?_)
        have hF := hF.tr hF_16 rfl
        refine lv_aload_n hx hb dX5_splitFrom_80 rfl (lv_at hl 2 rfl) ?_
        refine lv_aload_n hx hb dX5_splitFrom_81 rfl (lv_at hl 3 rfl) ?_
        refine lv_iload_n hx hb dX5_splitFrom_82 rfl (lv_at hl 4 rfl) ?_
        refine lv_iload_n hx hb dX5_splitFrom_83 rfl (lv_at hl 5 rfl) ?_
        refine lv_iconst (v := 1) hx hb dX5_splitFrom_84 (by decide) ?_
        refine lv_iadd hx hb dX5_splitFrom_85 ?_
        refine lv_topi (fun z_17 ez_17 => ?_)
        have ez_17 : z_17 = 6 := ez_17.trans (by decide)
        subst ez_17
        refine lv_lload hx hb dX5_splitFrom_86 (lv_at hl 6 rfl) ?_
        refine lv_lload hx hb dX5_splitFrom_88 (lv_at hl 0 rfl) ?_
        refine lv_lsub hx hb dX5_splitFrom_90 ?_
        refine lv_topl (fun z_18 ez_18 => ?_)
        refine t_callv (runV (As := [.ref b, .int v, .int 6, .long z_18]) (rest := []) ⟨hx, hb, hml, hown, hts⟩ (t_X5_splitFrom_6 l D cy base τ G_16 a h_a b h_b v z_18) sV_X5_82 hK (t_recv cf_8 hK hT h_a) ⟨Nat.le_trans hZ hS.1, hT⟩ ⟨Nat.le_of_ble_eq_true rfl, Nat.le_of_ble_eq_true rfl⟩ rfl hl.1 rfl (Nat.le_of_ble_eq_true rfl) dX5_splitFrom_91 ⟨Nat.le_of_ble_eq_true rfl, Nat.le_of_ble_eq_true rfl⟩) hS (fun G_19 H locs hF_19 hr_19 hT hS => ?_)
        have hF := hF.tr hF_19 rfl
        exact ret_v hx hb hr hlocks ⟨⟨hS.1, hS.2.1⟩, G_19, hF, ⟨rfl, trivial⟩, hT⟩ hS.2.2 (Nat.le_of_ble_eq_true rfl) (Nat.le_of_ble_eq_true rfl) dX5_splitFrom_94
      · skip
        have tc_13 : z_12.toInt = 0 := (fa_eq _ _).mp c_13
        refine lv_lload hx hb dX5_splitFrom_49 (lv_at hl 5 rfl) ?_
        refine lv_aload_n hx hb dX5_splitFrom_51 rfl (lv_at hl 2 rfl) ?_
        refine t_getr cf_7 hx hb hts hown hK hT h_b (k := 17) (P := fun q => τ q = 27) rfl (fun _ h9 => h9) fl_X5_55 (fun _ h9 => h9) dX5_splitFrom_52 (fun q_20 eq_20 hq_20 => ?_)
        refine lv_iload_n hx hb dX5_splitFrom_55 rfl (lv_at hl 4 rfl) ?_
        refine t_iald (n := 6) (i := 5) rfl (by decide) hx hb hK hT hq_20 (hT.len hq_20 (by decide)) ⟨by decide, by decide⟩ dX5_splitFrom_56 (fun z_21 ez_21 rz_21 => ?_)
        have ez_21 : z_21 = G.1 q_20 5 := ez_21
        refine pu_calll (runS (As := [.long x, .int z_21]) (rest := []) ⟨hx, hb, hml, hown, hts⟩ (t_X5_hundredths l D cy base τ G x z_21) sS_X5_59 hK ⟨Nat.le_trans hZ hS.1, hT⟩ ⟨Nat.le_of_ble_eq_true rfl, Nat.le_of_ble_eq_true rfl⟩ rfl hl.1 rfl (Nat.le_of_ble_eq_true rfl) dX5_splitFrom_57 ⟨Nat.le_of_ble_eq_true rfl, Nat.le_of_ble_eq_true rfl⟩) (fun r_22 hr_22 => ?_)
        refine lv_goto (tgt := 64) hx hb dX5_splitFrom_60 (by decide) ?_
        refine lv_lstore (lv' := [(7, .long r_22), (6, .int 32), (0, .ref a), (1, .ref b), (2, .int v), (3, .int 5), (4, .long x)]) hx hb dX5_splitFrom_64 hl (by decide) rfl (fun ls hl => ?_)
        refine lv_aload_n hx hb dX5_splitFrom_66 rfl (lv_at hl 2 rfl) ?_
        refine lv_aload_n hx hb dX5_splitFrom_67 rfl (lv_at hl 3 rfl) ?_
        refine lv_iload_n hx hb dX5_splitFrom_68 rfl (lv_at hl 4 rfl) ?_
        refine lv_iload hx hb dX5_splitFrom_69 (lv_at hl 1 rfl) ?_
        refine lv_ior hx hb dX5_splitFrom_71 ?_
        refine lv_topi (fun z_23 ez_23 => ?_)
        refine lv_iload_n hx hb dX5_splitFrom_72 rfl (lv_at hl 5 rfl) ?_
        refine lv_iconst (v := 1) hx hb dX5_splitFrom_73 (by decide) ?_
        refine lv_iadd hx hb dX5_splitFrom_74 ?_
        refine lv_topi (fun z_24 ez_24 => ?_)
        have ez_24 : z_24 = 6 := ez_24.trans (by decide)
        subst ez_24
        refine lv_lload hx hb dX5_splitFrom_75 (lv_at hl 0 rfl) ?_
        refine t_callv (runV (As := [.ref b, .int z_23, .int 6, .long r_22]) (rest := []) ⟨hx, hb, hml, hown, hts⟩ (t_X5_splitFrom_6 l D cy base τ G a h_a b h_b z_23 r_22) sV_X5_82 hK (t_recv cf_8 hK hT h_a) ⟨Nat.le_trans hZ hS.1, hT⟩ ⟨Nat.le_of_ble_eq_true rfl, Nat.le_of_ble_eq_true rfl⟩ rfl hl.1 rfl (Nat.le_of_ble_eq_true rfl) dX5_splitFrom_77 ⟨Nat.le_of_ble_eq_true rfl, Nat.le_of_ble_eq_true rfl⟩) hS (fun G_25 H locs hF_25 hr_25 hT hS => ?_)
        have hF := hF.tr hF_25 rfl
        refine lv_aload_n hx hb dX5_splitFrom_80 rfl (lv_at hl 2 rfl) ?_
        refine lv_aload_n hx hb dX5_splitFrom_81 rfl (lv_at hl 3 rfl) ?_
        refine lv_iload_n hx hb dX5_splitFrom_82 rfl (lv_at hl 4 rfl) ?_
        refine lv_iload_n hx hb dX5_splitFrom_83 rfl (lv_at hl 5 rfl) ?_
        refine lv_iconst (v := 1) hx hb dX5_splitFrom_84 (by decide) ?_
        refine lv_iadd hx hb dX5_splitFrom_85 ?_
        refine lv_topi (fun z_26 ez_26 => ?_)
        have ez_26 : z_26 = 6 := ez_26.trans (by decide)
        subst ez_26
        refine lv_lload hx hb dX5_splitFrom_86 (lv_at hl 6 rfl) ?_
        refine lv_lload hx hb dX5_splitFrom_88 (lv_at hl 0 rfl) ?_
        refine lv_lsub hx hb dX5_splitFrom_90 ?_
        refine lv_topl (fun z_27 ez_27 => ?_)
        refine t_callv (runV (As := [.ref b, .int v, .int 6, .long z_27]) (rest := []) ⟨hx, hb, hml, hown, hts⟩ (t_X5_splitFrom_6 l D cy base τ G_25 a h_a b h_b v z_27) sV_X5_82 hK (t_recv cf_8 hK hT h_a) ⟨Nat.le_trans hZ hS.1, hT⟩ ⟨Nat.le_of_ble_eq_true rfl, Nat.le_of_ble_eq_true rfl⟩ rfl hl.1 rfl (Nat.le_of_ble_eq_true rfl) dX5_splitFrom_91 ⟨Nat.le_of_ble_eq_true rfl, Nat.le_of_ble_eq_true rfl⟩) hS (fun G_28 H locs hF_28 hr_28 hT hS => ?_)
        have hF := hF.tr hF_28 rfl
        exact ret_v hx hb hr hlocks ⟨⟨hS.1, hS.2.1⟩, G_28, hF, ⟨rfl, trivial⟩, hT⟩ hS.2.2 (Nat.le_of_ble_eq_true rfl) (Nat.le_of_ble_eq_true rfl) dX5_splitFrom_94
  · skip
    have tc_2 : z_1.toInt = 0 := (fa_eq _ _).mp c_2
    exact ret_v hx hb hr hlocks ⟨⟨hS.1, hS.2.1⟩, G, hF, ⟨rfl, trivial⟩, hT⟩ hS.2.2 (Nat.le_of_ble_eq_true rfl) (Nat.le_of_ble_eq_true rfl) dX5_splitFrom_7
set_option maxHeartbeats 4000000 in
set_option maxRecDepth 100000 in
theorem t_X5_splitFrom_4 (l : Launch) (D : va_G) (cy : Nat → ClassId) (base : Nat) (τ : Nat → Nat) (G : Gh) (a : Nat) (h_a : τ a = 8) (b : Nat) (h_b : τ b = 7) (v : Int32) (x : Int64) : MM l yX5_splitFrom cX5_splitFrom 9 none 2 0 0 D cy [.ref a, .ref b, .int v, .int 4, .long x] (PT D cy base τ G) (QT D cy base τ G [35] (fun v g => v = none ∧ (True))) (RA base) := by
  refine MM.of (by decide) (Nat.le_of_ble_eq_true rfl) ?_
  intro p e s m below meth c C hPT ls hl
  obtain ⟨hx, hb, hr, hml, hown, hts, hlocks, hK, hnm⟩ := C
  obtain ⟨hZ, hT⟩ := hPT
  have hS : va_S (RA base) s.heap s.heap [] := va_S.rf
  have hF : Fr τ [35] G G := Fr.rf
  have hl : lv_has ls 9 [(0, .ref a), (1, .ref b), (2, .int v), (3, .int 4), (4, .long x)] := hl
  refine lv_lload hx hb dX5_splitFrom_0 (lv_at hl 4 rfl) ?_
  refine lv_lconst (v := 0) hx hb dX5_splitFrom_2 (by decide) ?_
  refine W.lcmp hx hb dX5_splitFrom_3 ?_
  refine lv_topi (fun z_1 ez_1 => ?_)
  have tz_1 : (z_1.toInt < 0 ↔ x.toInt < 0) ∧ (0 < z_1.toInt ↔ 0 < x.toInt) ∧ -1 ≤ z_1.toInt ∧ z_1.toInt ≤ 1 := cmp_t ez_1
  refine lv_if_ne (tgt := 8) hx hb dX5_splitFrom_4 (by decide) (fun c_2 => ?_) (fun c_2 => ?_)
  · skip
    have tc_2 : ¬ z_1.toInt = 0 := fun h => c_2 ((fa_eq _ _).mpr h)
    refine lv_iload_n hx hb dX5_splitFrom_8 rfl (lv_at hl 3 rfl) ?_
    refine lv_aload_n hx hb dX5_splitFrom_9 rfl (lv_at hl 1 rfl) ?_
    refine t_geti cf_7 hx hb hts hown hK hT h_b (k := 6) rfl fl_X5_79 (fun _ h9 => h9) dX5_splitFrom_10 (fun z_3 ez_3 rz_3 => ?_)
    have ez_3 : z_3 = G.1 b 6 := ez_3
    have rz_3 : 0 ≤ z_3.toInt ∧ z_3.toInt ≤ 6 := rz_3
    refine lv_icmp_ge (tgt := 22) hx hb dX5_splitFrom_13 (by decide) (fun c_4 => ?_) (fun c_4 => ?_)
    · skip
      have tc_4 : z_3.toInt ≤ 4 := (fa_le _ _).mp c_4
      refine lv_aload_n hx hb dX5_splitFrom_22 rfl (lv_at hl 0 rfl) ?_
      refine t_getr cf_8 hx hb hts hown hK hT h_a (k := 6) (P := fun q => τ q = 35) rfl (fun _ h9 => h9) fl_X5_30 (fun _ h9 => h9) dX5_splitFrom_23 (fun q_5 eq_5 hq_5 => ?_)
      refine lv_iload_n hx hb dX5_splitFrom_26 rfl (lv_at hl 2 rfl) ?_
      refine lv_bipush (v := 63) hx hb dX5_splitFrom_27 (by decide) ?_
      refine lv_iand hx hb dX5_splitFrom_29 ?_
      refine lv_topi (fun z_6 ez_6 => ?_)
      have tz_6 : 0 ≤ z_6.toInt ∧ z_6.toInt ≤ 63 := and_t ez_6 (by decide)
      refine lv_dup2_11 hx hb dX5_splitFrom_30 rfl rfl ?_
      refine t_lald (n := 64) (i := z_6) rfl (by decide) hx hb hK hT hq_5 (hT.len hq_5 (by decide)) ⟨by omega, by omega⟩ dX5_splitFrom_31 (fun z_7 ez_7 => ?_)
      refine lv_lload hx hb dX5_splitFrom_32 (lv_at hl 4 rfl) ?_
      refine lv_ladd hx hb dX5_splitFrom_34 ?_
      refine lv_topl (fun z_8 ez_8 => ?_)
      refine t_last (n := 64) (i := z_6) (x := z_8) rfl (by decide) hx hb hK hT hS hq_5 (hT.len hq_5 (by decide)) ⟨by omega, by omega⟩ dX5_splitFrom_35 (fun H locs G_9 eG_9 hT hS => ?_)
      have hF := hF.wL eG_9 hq_5 rfl
      exact ret_v hx hb hr hlocks ⟨⟨hS.1, hS.2.1⟩, G_9, hF, ⟨rfl, trivial⟩, hT⟩ hS.2.2 (Nat.le_of_ble_eq_true rfl) (Nat.le_of_ble_eq_true rfl) dX5_splitFrom_36
    · skip
      have tc_4 : ¬ z_3.toInt ≤ 4 := fun h => c_4 ((fa_le _ _).mpr h)
      refine lv_iload_n hx hb dX5_splitFrom_16 rfl (lv_at hl 3 rfl) ?_
      refine lv_bipush (v := 6) hx hb dX5_splitFrom_17 (by decide) ?_
      refine lv_icmp_lt (tgt := 37) hx hb dX5_splitFrom_19 (by decide) (fun _ => ?_) (fun c_10 => absurd (by decide) c_10)
      refine lv_iconst (v := 1) hx hb dX5_splitFrom_37 (by decide) ?_
      refine lv_iload_n hx hb dX5_splitFrom_38 rfl (lv_at hl 3 rfl) ?_
      refine lv_ishl hx hb dX5_splitFrom_39 ?_
      refine lv_topi (fun z_11 ez_11 => ?_)
      have ez_11 : z_11 = 16 := ez_11.trans (by decide)
      subst ez_11
      refine lv_istore (lv' := [(6, .int 16), (0, .ref a), (1, .ref b), (2, .int v), (3, .int 4), (4, .long x)]) hx hb dX5_splitFrom_40 hl (by decide) rfl (fun ls hl => ?_)
      refine lv_iload_n hx hb dX5_splitFrom_42 rfl (lv_at hl 3 rfl) ?_
      refine lv_iload hx hb dX5_splitFrom_43 (lv_at hl 0 rfl) ?_
      refine lv_iand hx hb dX5_splitFrom_45 ?_
      refine lv_topi (fun z_12 ez_12 => ?_)
      have tz_12 : 0 ≤ z_12.toInt ∧ z_12.toInt ≤ 16 := and_t ez_12 (by decide)
      refine lv_if_ne (tgt := 63) hx hb dX5_splitFrom_46 (by decide) (fun c_13 => ?_) (fun c_13 => ?_)
      · skip
        have tc_13 : ¬ z_12.toInt = 0 := fun h => c_13 ((fa_eq _ _).mpr h)
        refine lv_lconst (v := 0) hx hb dX5_splitFrom_63 (by decide) ?_
        refine lv_lstore (lv' := [(7, .long 0), (6, .int 16), (0, .ref a), (1, .ref b), (2, .int v), (3, .int 4), (4, .long x)]) hx hb dX5_splitFrom_64 hl (by decide) rfl (fun ls hl => ?_)
        refine lv_aload_n hx hb dX5_splitFrom_66 rfl (lv_at hl 2 rfl) ?_
        refine lv_aload_n hx hb dX5_splitFrom_67 rfl (lv_at hl 3 rfl) ?_
        refine lv_iload_n hx hb dX5_splitFrom_68 rfl (lv_at hl 4 rfl) ?_
        refine lv_iload hx hb dX5_splitFrom_69 (lv_at hl 1 rfl) ?_
        refine lv_ior hx hb dX5_splitFrom_71 ?_
        refine lv_topi (fun z_14 ez_14 => ?_)
        refine lv_iload_n hx hb dX5_splitFrom_72 rfl (lv_at hl 5 rfl) ?_
        refine lv_iconst (v := 1) hx hb dX5_splitFrom_73 (by decide) ?_
        refine lv_iadd hx hb dX5_splitFrom_74 ?_
        refine lv_topi (fun z_15 ez_15 => ?_)
        have ez_15 : z_15 = 5 := ez_15.trans (by decide)
        subst ez_15
        refine lv_lload hx hb dX5_splitFrom_75 (lv_at hl 0 rfl) ?_
        refine t_callv (runV (As := [.ref b, .int z_14, .int 5, .long 0]) (rest := []) ⟨hx, hb, hml, hown, hts⟩ (t_X5_splitFrom_5 l D cy base τ G a h_a b h_b z_14 0) sV_X5_82 hK (t_recv cf_8 hK hT h_a) ⟨Nat.le_trans hZ hS.1, hT⟩ ⟨Nat.le_of_ble_eq_true rfl, Nat.le_of_ble_eq_true rfl⟩ rfl hl.1 rfl (Nat.le_of_ble_eq_true rfl) dX5_splitFrom_77 ⟨Nat.le_of_ble_eq_true rfl, Nat.le_of_ble_eq_true rfl⟩) hS (fun G_16 H locs hF_16 hr_16 hT hS => ?_)
        have hF := hF.tr hF_16 rfl
        refine lv_aload_n hx hb dX5_splitFrom_80 rfl (lv_at hl 2 rfl) ?_
        refine lv_aload_n hx hb dX5_splitFrom_81 rfl (lv_at hl 3 rfl) ?_
        refine lv_iload_n hx hb dX5_splitFrom_82 rfl (lv_at hl 4 rfl) ?_
        refine lv_iload_n hx hb dX5_splitFrom_83 rfl (lv_at hl 5 rfl) ?_
        refine lv_iconst (v := 1) hx hb dX5_splitFrom_84 (by decide) ?_
        refine lv_iadd hx hb dX5_splitFrom_85 ?_
        refine lv_topi (fun z_17 ez_17 => ?_)
        have ez_17 : z_17 = 5 := ez_17.trans (by decide)
        subst ez_17
        refine lv_lload hx hb dX5_splitFrom_86 (lv_at hl 6 rfl) ?_
        refine lv_lload hx hb dX5_splitFrom_88 (lv_at hl 0 rfl) ?_
        refine lv_lsub hx hb dX5_splitFrom_90 ?_
        refine lv_topl (fun z_18 ez_18 => ?_)
        refine t_callv (runV (As := [.ref b, .int v, .int 5, .long z_18]) (rest := []) ⟨hx, hb, hml, hown, hts⟩ (t_X5_splitFrom_5 l D cy base τ G_16 a h_a b h_b v z_18) sV_X5_82 hK (t_recv cf_8 hK hT h_a) ⟨Nat.le_trans hZ hS.1, hT⟩ ⟨Nat.le_of_ble_eq_true rfl, Nat.le_of_ble_eq_true rfl⟩ rfl hl.1 rfl (Nat.le_of_ble_eq_true rfl) dX5_splitFrom_91 ⟨Nat.le_of_ble_eq_true rfl, Nat.le_of_ble_eq_true rfl⟩) hS (fun G_19 H locs hF_19 hr_19 hT hS => ?_)
        have hF := hF.tr hF_19 rfl
        exact ret_v hx hb hr hlocks ⟨⟨hS.1, hS.2.1⟩, G_19, hF, ⟨rfl, trivial⟩, hT⟩ hS.2.2 (Nat.le_of_ble_eq_true rfl) (Nat.le_of_ble_eq_true rfl) dX5_splitFrom_94
      · skip
        have tc_13 : z_12.toInt = 0 := (fa_eq _ _).mp c_13
        refine lv_lload hx hb dX5_splitFrom_49 (lv_at hl 5 rfl) ?_
        refine lv_aload_n hx hb dX5_splitFrom_51 rfl (lv_at hl 2 rfl) ?_
        refine t_getr cf_7 hx hb hts hown hK hT h_b (k := 17) (P := fun q => τ q = 27) rfl (fun _ h9 => h9) fl_X5_55 (fun _ h9 => h9) dX5_splitFrom_52 (fun q_20 eq_20 hq_20 => ?_)
        refine lv_iload_n hx hb dX5_splitFrom_55 rfl (lv_at hl 4 rfl) ?_
        refine t_iald (n := 6) (i := 4) rfl (by decide) hx hb hK hT hq_20 (hT.len hq_20 (by decide)) ⟨by decide, by decide⟩ dX5_splitFrom_56 (fun z_21 ez_21 rz_21 => ?_)
        have ez_21 : z_21 = G.1 q_20 4 := ez_21
        refine pu_calll (runS (As := [.long x, .int z_21]) (rest := []) ⟨hx, hb, hml, hown, hts⟩ (t_X5_hundredths l D cy base τ G x z_21) sS_X5_59 hK ⟨Nat.le_trans hZ hS.1, hT⟩ ⟨Nat.le_of_ble_eq_true rfl, Nat.le_of_ble_eq_true rfl⟩ rfl hl.1 rfl (Nat.le_of_ble_eq_true rfl) dX5_splitFrom_57 ⟨Nat.le_of_ble_eq_true rfl, Nat.le_of_ble_eq_true rfl⟩) (fun r_22 hr_22 => ?_)
        refine lv_goto (tgt := 64) hx hb dX5_splitFrom_60 (by decide) ?_
        refine lv_lstore (lv' := [(7, .long r_22), (6, .int 16), (0, .ref a), (1, .ref b), (2, .int v), (3, .int 4), (4, .long x)]) hx hb dX5_splitFrom_64 hl (by decide) rfl (fun ls hl => ?_)
        refine lv_aload_n hx hb dX5_splitFrom_66 rfl (lv_at hl 2 rfl) ?_
        refine lv_aload_n hx hb dX5_splitFrom_67 rfl (lv_at hl 3 rfl) ?_
        refine lv_iload_n hx hb dX5_splitFrom_68 rfl (lv_at hl 4 rfl) ?_
        refine lv_iload hx hb dX5_splitFrom_69 (lv_at hl 1 rfl) ?_
        refine lv_ior hx hb dX5_splitFrom_71 ?_
        refine lv_topi (fun z_23 ez_23 => ?_)
        refine lv_iload_n hx hb dX5_splitFrom_72 rfl (lv_at hl 5 rfl) ?_
        refine lv_iconst (v := 1) hx hb dX5_splitFrom_73 (by decide) ?_
        refine lv_iadd hx hb dX5_splitFrom_74 ?_
        refine lv_topi (fun z_24 ez_24 => ?_)
        have ez_24 : z_24 = 5 := ez_24.trans (by decide)
        subst ez_24
        refine lv_lload hx hb dX5_splitFrom_75 (lv_at hl 0 rfl) ?_
        refine t_callv (runV (As := [.ref b, .int z_23, .int 5, .long r_22]) (rest := []) ⟨hx, hb, hml, hown, hts⟩ (t_X5_splitFrom_5 l D cy base τ G a h_a b h_b z_23 r_22) sV_X5_82 hK (t_recv cf_8 hK hT h_a) ⟨Nat.le_trans hZ hS.1, hT⟩ ⟨Nat.le_of_ble_eq_true rfl, Nat.le_of_ble_eq_true rfl⟩ rfl hl.1 rfl (Nat.le_of_ble_eq_true rfl) dX5_splitFrom_77 ⟨Nat.le_of_ble_eq_true rfl, Nat.le_of_ble_eq_true rfl⟩) hS (fun G_25 H locs hF_25 hr_25 hT hS => ?_)
        have hF := hF.tr hF_25 rfl
        refine lv_aload_n hx hb dX5_splitFrom_80 rfl (lv_at hl 2 rfl) ?_
        refine lv_aload_n hx hb dX5_splitFrom_81 rfl (lv_at hl 3 rfl) ?_
        refine lv_iload_n hx hb dX5_splitFrom_82 rfl (lv_at hl 4 rfl) ?_
        refine lv_iload_n hx hb dX5_splitFrom_83 rfl (lv_at hl 5 rfl) ?_
        refine lv_iconst (v := 1) hx hb dX5_splitFrom_84 (by decide) ?_
        refine lv_iadd hx hb dX5_splitFrom_85 ?_
        refine lv_topi (fun z_26 ez_26 => ?_)
        have ez_26 : z_26 = 5 := ez_26.trans (by decide)
        subst ez_26
        refine lv_lload hx hb dX5_splitFrom_86 (lv_at hl 6 rfl) ?_
        refine lv_lload hx hb dX5_splitFrom_88 (lv_at hl 0 rfl) ?_
        refine lv_lsub hx hb dX5_splitFrom_90 ?_
        refine lv_topl (fun z_27 ez_27 => ?_)
        refine t_callv (runV (As := [.ref b, .int v, .int 5, .long z_27]) (rest := []) ⟨hx, hb, hml, hown, hts⟩ (t_X5_splitFrom_5 l D cy base τ G_25 a h_a b h_b v z_27) sV_X5_82 hK (t_recv cf_8 hK hT h_a) ⟨Nat.le_trans hZ hS.1, hT⟩ ⟨Nat.le_of_ble_eq_true rfl, Nat.le_of_ble_eq_true rfl⟩ rfl hl.1 rfl (Nat.le_of_ble_eq_true rfl) dX5_splitFrom_91 ⟨Nat.le_of_ble_eq_true rfl, Nat.le_of_ble_eq_true rfl⟩) hS (fun G_28 H locs hF_28 hr_28 hT hS => ?_)
        have hF := hF.tr hF_28 rfl
        exact ret_v hx hb hr hlocks ⟨⟨hS.1, hS.2.1⟩, G_28, hF, ⟨rfl, trivial⟩, hT⟩ hS.2.2 (Nat.le_of_ble_eq_true rfl) (Nat.le_of_ble_eq_true rfl) dX5_splitFrom_94
  · skip
    have tc_2 : z_1.toInt = 0 := (fa_eq _ _).mp c_2
    exact ret_v hx hb hr hlocks ⟨⟨hS.1, hS.2.1⟩, G, hF, ⟨rfl, trivial⟩, hT⟩ hS.2.2 (Nat.le_of_ble_eq_true rfl) (Nat.le_of_ble_eq_true rfl) dX5_splitFrom_7
set_option maxHeartbeats 4000000 in
set_option maxRecDepth 100000 in
theorem t_X5_splitFrom_3 (l : Launch) (D : va_G) (cy : Nat → ClassId) (base : Nat) (τ : Nat → Nat) (G : Gh) (a : Nat) (h_a : τ a = 8) (b : Nat) (h_b : τ b = 7) (v : Int32) (x : Int64) : MM l yX5_splitFrom cX5_splitFrom 9 none 3 0 0 D cy [.ref a, .ref b, .int v, .int 3, .long x] (PT D cy base τ G) (QT D cy base τ G [35] (fun v g => v = none ∧ (True))) (RA base) := by
  refine MM.of (by decide) (Nat.le_of_ble_eq_true rfl) ?_
  intro p e s m below meth c C hPT ls hl
  obtain ⟨hx, hb, hr, hml, hown, hts, hlocks, hK, hnm⟩ := C
  obtain ⟨hZ, hT⟩ := hPT
  have hS : va_S (RA base) s.heap s.heap [] := va_S.rf
  have hF : Fr τ [35] G G := Fr.rf
  have hl : lv_has ls 9 [(0, .ref a), (1, .ref b), (2, .int v), (3, .int 3), (4, .long x)] := hl
  refine lv_lload hx hb dX5_splitFrom_0 (lv_at hl 4 rfl) ?_
  refine lv_lconst (v := 0) hx hb dX5_splitFrom_2 (by decide) ?_
  refine W.lcmp hx hb dX5_splitFrom_3 ?_
  refine lv_topi (fun z_1 ez_1 => ?_)
  have tz_1 : (z_1.toInt < 0 ↔ x.toInt < 0) ∧ (0 < z_1.toInt ↔ 0 < x.toInt) ∧ -1 ≤ z_1.toInt ∧ z_1.toInt ≤ 1 := cmp_t ez_1
  refine lv_if_ne (tgt := 8) hx hb dX5_splitFrom_4 (by decide) (fun c_2 => ?_) (fun c_2 => ?_)
  · skip
    have tc_2 : ¬ z_1.toInt = 0 := fun h => c_2 ((fa_eq _ _).mpr h)
    refine lv_iload_n hx hb dX5_splitFrom_8 rfl (lv_at hl 3 rfl) ?_
    refine lv_aload_n hx hb dX5_splitFrom_9 rfl (lv_at hl 1 rfl) ?_
    refine t_geti cf_7 hx hb hts hown hK hT h_b (k := 6) rfl fl_X5_79 (fun _ h9 => h9) dX5_splitFrom_10 (fun z_3 ez_3 rz_3 => ?_)
    have ez_3 : z_3 = G.1 b 6 := ez_3
    have rz_3 : 0 ≤ z_3.toInt ∧ z_3.toInt ≤ 6 := rz_3
    refine lv_icmp_ge (tgt := 22) hx hb dX5_splitFrom_13 (by decide) (fun c_4 => ?_) (fun c_4 => ?_)
    · skip
      have tc_4 : z_3.toInt ≤ 3 := (fa_le _ _).mp c_4
      refine lv_aload_n hx hb dX5_splitFrom_22 rfl (lv_at hl 0 rfl) ?_
      refine t_getr cf_8 hx hb hts hown hK hT h_a (k := 6) (P := fun q => τ q = 35) rfl (fun _ h9 => h9) fl_X5_30 (fun _ h9 => h9) dX5_splitFrom_23 (fun q_5 eq_5 hq_5 => ?_)
      refine lv_iload_n hx hb dX5_splitFrom_26 rfl (lv_at hl 2 rfl) ?_
      refine lv_bipush (v := 63) hx hb dX5_splitFrom_27 (by decide) ?_
      refine lv_iand hx hb dX5_splitFrom_29 ?_
      refine lv_topi (fun z_6 ez_6 => ?_)
      have tz_6 : 0 ≤ z_6.toInt ∧ z_6.toInt ≤ 63 := and_t ez_6 (by decide)
      refine lv_dup2_11 hx hb dX5_splitFrom_30 rfl rfl ?_
      refine t_lald (n := 64) (i := z_6) rfl (by decide) hx hb hK hT hq_5 (hT.len hq_5 (by decide)) ⟨by omega, by omega⟩ dX5_splitFrom_31 (fun z_7 ez_7 => ?_)
      refine lv_lload hx hb dX5_splitFrom_32 (lv_at hl 4 rfl) ?_
      refine lv_ladd hx hb dX5_splitFrom_34 ?_
      refine lv_topl (fun z_8 ez_8 => ?_)
      refine t_last (n := 64) (i := z_6) (x := z_8) rfl (by decide) hx hb hK hT hS hq_5 (hT.len hq_5 (by decide)) ⟨by omega, by omega⟩ dX5_splitFrom_35 (fun H locs G_9 eG_9 hT hS => ?_)
      have hF := hF.wL eG_9 hq_5 rfl
      exact ret_v hx hb hr hlocks ⟨⟨hS.1, hS.2.1⟩, G_9, hF, ⟨rfl, trivial⟩, hT⟩ hS.2.2 (Nat.le_of_ble_eq_true rfl) (Nat.le_of_ble_eq_true rfl) dX5_splitFrom_36
    · skip
      have tc_4 : ¬ z_3.toInt ≤ 3 := fun h => c_4 ((fa_le _ _).mpr h)
      refine lv_iload_n hx hb dX5_splitFrom_16 rfl (lv_at hl 3 rfl) ?_
      refine lv_bipush (v := 6) hx hb dX5_splitFrom_17 (by decide) ?_
      refine lv_icmp_lt (tgt := 37) hx hb dX5_splitFrom_19 (by decide) (fun _ => ?_) (fun c_10 => absurd (by decide) c_10)
      refine lv_iconst (v := 1) hx hb dX5_splitFrom_37 (by decide) ?_
      refine lv_iload_n hx hb dX5_splitFrom_38 rfl (lv_at hl 3 rfl) ?_
      refine lv_ishl hx hb dX5_splitFrom_39 ?_
      refine lv_topi (fun z_11 ez_11 => ?_)
      have ez_11 : z_11 = 8 := ez_11.trans (by decide)
      subst ez_11
      refine lv_istore (lv' := [(6, .int 8), (0, .ref a), (1, .ref b), (2, .int v), (3, .int 3), (4, .long x)]) hx hb dX5_splitFrom_40 hl (by decide) rfl (fun ls hl => ?_)
      refine lv_iload_n hx hb dX5_splitFrom_42 rfl (lv_at hl 3 rfl) ?_
      refine lv_iload hx hb dX5_splitFrom_43 (lv_at hl 0 rfl) ?_
      refine lv_iand hx hb dX5_splitFrom_45 ?_
      refine lv_topi (fun z_12 ez_12 => ?_)
      have tz_12 : 0 ≤ z_12.toInt ∧ z_12.toInt ≤ 8 := and_t ez_12 (by decide)
      refine lv_if_ne (tgt := 63) hx hb dX5_splitFrom_46 (by decide) (fun c_13 => ?_) (fun c_13 => ?_)
      · skip
        have tc_13 : ¬ z_12.toInt = 0 := fun h => c_13 ((fa_eq _ _).mpr h)
        refine lv_lconst (v := 0) hx hb dX5_splitFrom_63 (by decide) ?_
        refine lv_lstore (lv' := [(7, .long 0), (6, .int 8), (0, .ref a), (1, .ref b), (2, .int v), (3, .int 3), (4, .long x)]) hx hb dX5_splitFrom_64 hl (by decide) rfl (fun ls hl => ?_)
        refine lv_aload_n hx hb dX5_splitFrom_66 rfl (lv_at hl 2 rfl) ?_
        refine lv_aload_n hx hb dX5_splitFrom_67 rfl (lv_at hl 3 rfl) ?_
        refine lv_iload_n hx hb dX5_splitFrom_68 rfl (lv_at hl 4 rfl) ?_
        refine lv_iload hx hb dX5_splitFrom_69 (lv_at hl 1 rfl) ?_
        refine lv_ior hx hb dX5_splitFrom_71 ?_
        refine lv_topi (fun z_14 ez_14 => ?_)
        refine lv_iload_n hx hb dX5_splitFrom_72 rfl (lv_at hl 5 rfl) ?_
        refine lv_iconst (v := 1) hx hb dX5_splitFrom_73 (by decide) ?_
        refine lv_iadd hx hb dX5_splitFrom_74 ?_
        refine lv_topi (fun z_15 ez_15 => ?_)
        have ez_15 : z_15 = 4 := ez_15.trans (by decide)
        subst ez_15
        refine lv_lload hx hb dX5_splitFrom_75 (lv_at hl 0 rfl) ?_
        refine t_callv (runV (As := [.ref b, .int z_14, .int 4, .long 0]) (rest := []) ⟨hx, hb, hml, hown, hts⟩ (t_X5_splitFrom_4 l D cy base τ G a h_a b h_b z_14 0) sV_X5_82 hK (t_recv cf_8 hK hT h_a) ⟨Nat.le_trans hZ hS.1, hT⟩ ⟨Nat.le_of_ble_eq_true rfl, Nat.le_of_ble_eq_true rfl⟩ rfl hl.1 rfl (Nat.le_of_ble_eq_true rfl) dX5_splitFrom_77 ⟨Nat.le_of_ble_eq_true rfl, Nat.le_of_ble_eq_true rfl⟩) hS (fun G_16 H locs hF_16 hr_16 hT hS => ?_)
        have hF := hF.tr hF_16 rfl
        refine lv_aload_n hx hb dX5_splitFrom_80 rfl (lv_at hl 2 rfl) ?_
        refine lv_aload_n hx hb dX5_splitFrom_81 rfl (lv_at hl 3 rfl) ?_
        refine lv_iload_n hx hb dX5_splitFrom_82 rfl (lv_at hl 4 rfl) ?_
        refine lv_iload_n hx hb dX5_splitFrom_83 rfl (lv_at hl 5 rfl) ?_
        refine lv_iconst (v := 1) hx hb dX5_splitFrom_84 (by decide) ?_
        refine lv_iadd hx hb dX5_splitFrom_85 ?_
        refine lv_topi (fun z_17 ez_17 => ?_)
        have ez_17 : z_17 = 4 := ez_17.trans (by decide)
        subst ez_17
        refine lv_lload hx hb dX5_splitFrom_86 (lv_at hl 6 rfl) ?_
        refine lv_lload hx hb dX5_splitFrom_88 (lv_at hl 0 rfl) ?_
        refine lv_lsub hx hb dX5_splitFrom_90 ?_
        refine lv_topl (fun z_18 ez_18 => ?_)
        refine t_callv (runV (As := [.ref b, .int v, .int 4, .long z_18]) (rest := []) ⟨hx, hb, hml, hown, hts⟩ (t_X5_splitFrom_4 l D cy base τ G_16 a h_a b h_b v z_18) sV_X5_82 hK (t_recv cf_8 hK hT h_a) ⟨Nat.le_trans hZ hS.1, hT⟩ ⟨Nat.le_of_ble_eq_true rfl, Nat.le_of_ble_eq_true rfl⟩ rfl hl.1 rfl (Nat.le_of_ble_eq_true rfl) dX5_splitFrom_91 ⟨Nat.le_of_ble_eq_true rfl, Nat.le_of_ble_eq_true rfl⟩) hS (fun G_19 H locs hF_19 hr_19 hT hS => ?_)
        have hF := hF.tr hF_19 rfl
        exact ret_v hx hb hr hlocks ⟨⟨hS.1, hS.2.1⟩, G_19, hF, ⟨rfl, trivial⟩, hT⟩ hS.2.2 (Nat.le_of_ble_eq_true rfl) (Nat.le_of_ble_eq_true rfl) dX5_splitFrom_94
      · skip
        have tc_13 : z_12.toInt = 0 := (fa_eq _ _).mp c_13
        refine lv_lload hx hb dX5_splitFrom_49 (lv_at hl 5 rfl) ?_
        refine lv_aload_n hx hb dX5_splitFrom_51 rfl (lv_at hl 2 rfl) ?_
        refine t_getr cf_7 hx hb hts hown hK hT h_b (k := 17) (P := fun q => τ q = 27) rfl (fun _ h9 => h9) fl_X5_55 (fun _ h9 => h9) dX5_splitFrom_52 (fun q_20 eq_20 hq_20 => ?_)
        refine lv_iload_n hx hb dX5_splitFrom_55 rfl (lv_at hl 4 rfl) ?_
        refine t_iald (n := 6) (i := 3) rfl (by decide) hx hb hK hT hq_20 (hT.len hq_20 (by decide)) ⟨by decide, by decide⟩ dX5_splitFrom_56 (fun z_21 ez_21 rz_21 => ?_)
        have ez_21 : z_21 = G.1 q_20 3 := ez_21
        refine pu_calll (runS (As := [.long x, .int z_21]) (rest := []) ⟨hx, hb, hml, hown, hts⟩ (t_X5_hundredths l D cy base τ G x z_21) sS_X5_59 hK ⟨Nat.le_trans hZ hS.1, hT⟩ ⟨Nat.le_of_ble_eq_true rfl, Nat.le_of_ble_eq_true rfl⟩ rfl hl.1 rfl (Nat.le_of_ble_eq_true rfl) dX5_splitFrom_57 ⟨Nat.le_of_ble_eq_true rfl, Nat.le_of_ble_eq_true rfl⟩) (fun r_22 hr_22 => ?_)
        refine lv_goto (tgt := 64) hx hb dX5_splitFrom_60 (by decide) ?_
        refine lv_lstore (lv' := [(7, .long r_22), (6, .int 8), (0, .ref a), (1, .ref b), (2, .int v), (3, .int 3), (4, .long x)]) hx hb dX5_splitFrom_64 hl (by decide) rfl (fun ls hl => ?_)
        refine lv_aload_n hx hb dX5_splitFrom_66 rfl (lv_at hl 2 rfl) ?_
        refine lv_aload_n hx hb dX5_splitFrom_67 rfl (lv_at hl 3 rfl) ?_
        refine lv_iload_n hx hb dX5_splitFrom_68 rfl (lv_at hl 4 rfl) ?_
        refine lv_iload hx hb dX5_splitFrom_69 (lv_at hl 1 rfl) ?_
        refine lv_ior hx hb dX5_splitFrom_71 ?_
        refine lv_topi (fun z_23 ez_23 => ?_)
        refine lv_iload_n hx hb dX5_splitFrom_72 rfl (lv_at hl 5 rfl) ?_
        refine lv_iconst (v := 1) hx hb dX5_splitFrom_73 (by decide) ?_
        refine lv_iadd hx hb dX5_splitFrom_74 ?_
        refine lv_topi (fun z_24 ez_24 => ?_)
        have ez_24 : z_24 = 4 := ez_24.trans (by decide)
        subst ez_24
        refine lv_lload hx hb dX5_splitFrom_75 (lv_at hl 0 rfl) ?_
        refine t_callv (runV (As := [.ref b, .int z_23, .int 4, .long r_22]) (rest := []) ⟨hx, hb, hml, hown, hts⟩ (t_X5_splitFrom_4 l D cy base τ G a h_a b h_b z_23 r_22) sV_X5_82 hK (t_recv cf_8 hK hT h_a) ⟨Nat.le_trans hZ hS.1, hT⟩ ⟨Nat.le_of_ble_eq_true rfl, Nat.le_of_ble_eq_true rfl⟩ rfl hl.1 rfl (Nat.le_of_ble_eq_true rfl) dX5_splitFrom_77 ⟨Nat.le_of_ble_eq_true rfl, Nat.le_of_ble_eq_true rfl⟩) hS (fun G_25 H locs hF_25 hr_25 hT hS => ?_)
        have hF := hF.tr hF_25 rfl
        refine lv_aload_n hx hb dX5_splitFrom_80 rfl (lv_at hl 2 rfl) ?_
        refine lv_aload_n hx hb dX5_splitFrom_81 rfl (lv_at hl 3 rfl) ?_
        refine lv_iload_n hx hb dX5_splitFrom_82 rfl (lv_at hl 4 rfl) ?_
        refine lv_iload_n hx hb dX5_splitFrom_83 rfl (lv_at hl 5 rfl) ?_
        refine lv_iconst (v := 1) hx hb dX5_splitFrom_84 (by decide) ?_
        refine lv_iadd hx hb dX5_splitFrom_85 ?_
        refine lv_topi (fun z_26 ez_26 => ?_)
        have ez_26 : z_26 = 4 := ez_26.trans (by decide)
        subst ez_26
        refine lv_lload hx hb dX5_splitFrom_86 (lv_at hl 6 rfl) ?_
        refine lv_lload hx hb dX5_splitFrom_88 (lv_at hl 0 rfl) ?_
        refine lv_lsub hx hb dX5_splitFrom_90 ?_
        refine lv_topl (fun z_27 ez_27 => ?_)
        refine t_callv (runV (As := [.ref b, .int v, .int 4, .long z_27]) (rest := []) ⟨hx, hb, hml, hown, hts⟩ (t_X5_splitFrom_4 l D cy base τ G_25 a h_a b h_b v z_27) sV_X5_82 hK (t_recv cf_8 hK hT h_a) ⟨Nat.le_trans hZ hS.1, hT⟩ ⟨Nat.le_of_ble_eq_true rfl, Nat.le_of_ble_eq_true rfl⟩ rfl hl.1 rfl (Nat.le_of_ble_eq_true rfl) dX5_splitFrom_91 ⟨Nat.le_of_ble_eq_true rfl, Nat.le_of_ble_eq_true rfl⟩) hS (fun G_28 H locs hF_28 hr_28 hT hS => ?_)
        have hF := hF.tr hF_28 rfl
        exact ret_v hx hb hr hlocks ⟨⟨hS.1, hS.2.1⟩, G_28, hF, ⟨rfl, trivial⟩, hT⟩ hS.2.2 (Nat.le_of_ble_eq_true rfl) (Nat.le_of_ble_eq_true rfl) dX5_splitFrom_94
  · skip
    have tc_2 : z_1.toInt = 0 := (fa_eq _ _).mp c_2
    exact ret_v hx hb hr hlocks ⟨⟨hS.1, hS.2.1⟩, G, hF, ⟨rfl, trivial⟩, hT⟩ hS.2.2 (Nat.le_of_ble_eq_true rfl) (Nat.le_of_ble_eq_true rfl) dX5_splitFrom_7
set_option maxHeartbeats 4000000 in
set_option maxRecDepth 100000 in
theorem t_X5_splitFrom_2 (l : Launch) (D : va_G) (cy : Nat → ClassId) (base : Nat) (τ : Nat → Nat) (G : Gh) (a : Nat) (h_a : τ a = 8) (b : Nat) (h_b : τ b = 7) (v : Int32) (x : Int64) : MM l yX5_splitFrom cX5_splitFrom 9 none 4 0 0 D cy [.ref a, .ref b, .int v, .int 2, .long x] (PT D cy base τ G) (QT D cy base τ G [35] (fun v g => v = none ∧ (True))) (RA base) := by
  refine MM.of (by decide) (Nat.le_of_ble_eq_true rfl) ?_
  intro p e s m below meth c C hPT ls hl
  obtain ⟨hx, hb, hr, hml, hown, hts, hlocks, hK, hnm⟩ := C
  obtain ⟨hZ, hT⟩ := hPT
  have hS : va_S (RA base) s.heap s.heap [] := va_S.rf
  have hF : Fr τ [35] G G := Fr.rf
  have hl : lv_has ls 9 [(0, .ref a), (1, .ref b), (2, .int v), (3, .int 2), (4, .long x)] := hl
  refine lv_lload hx hb dX5_splitFrom_0 (lv_at hl 4 rfl) ?_
  refine lv_lconst (v := 0) hx hb dX5_splitFrom_2 (by decide) ?_
  refine W.lcmp hx hb dX5_splitFrom_3 ?_
  refine lv_topi (fun z_1 ez_1 => ?_)
  have tz_1 : (z_1.toInt < 0 ↔ x.toInt < 0) ∧ (0 < z_1.toInt ↔ 0 < x.toInt) ∧ -1 ≤ z_1.toInt ∧ z_1.toInt ≤ 1 := cmp_t ez_1
  refine lv_if_ne (tgt := 8) hx hb dX5_splitFrom_4 (by decide) (fun c_2 => ?_) (fun c_2 => ?_)
  · skip
    have tc_2 : ¬ z_1.toInt = 0 := fun h => c_2 ((fa_eq _ _).mpr h)
    refine lv_iload_n hx hb dX5_splitFrom_8 rfl (lv_at hl 3 rfl) ?_
    refine lv_aload_n hx hb dX5_splitFrom_9 rfl (lv_at hl 1 rfl) ?_
    refine t_geti cf_7 hx hb hts hown hK hT h_b (k := 6) rfl fl_X5_79 (fun _ h9 => h9) dX5_splitFrom_10 (fun z_3 ez_3 rz_3 => ?_)
    have ez_3 : z_3 = G.1 b 6 := ez_3
    have rz_3 : 0 ≤ z_3.toInt ∧ z_3.toInt ≤ 6 := rz_3
    refine lv_icmp_ge (tgt := 22) hx hb dX5_splitFrom_13 (by decide) (fun c_4 => ?_) (fun c_4 => ?_)
    · skip
      have tc_4 : z_3.toInt ≤ 2 := (fa_le _ _).mp c_4
      refine lv_aload_n hx hb dX5_splitFrom_22 rfl (lv_at hl 0 rfl) ?_
      refine t_getr cf_8 hx hb hts hown hK hT h_a (k := 6) (P := fun q => τ q = 35) rfl (fun _ h9 => h9) fl_X5_30 (fun _ h9 => h9) dX5_splitFrom_23 (fun q_5 eq_5 hq_5 => ?_)
      refine lv_iload_n hx hb dX5_splitFrom_26 rfl (lv_at hl 2 rfl) ?_
      refine lv_bipush (v := 63) hx hb dX5_splitFrom_27 (by decide) ?_
      refine lv_iand hx hb dX5_splitFrom_29 ?_
      refine lv_topi (fun z_6 ez_6 => ?_)
      have tz_6 : 0 ≤ z_6.toInt ∧ z_6.toInt ≤ 63 := and_t ez_6 (by decide)
      refine lv_dup2_11 hx hb dX5_splitFrom_30 rfl rfl ?_
      refine t_lald (n := 64) (i := z_6) rfl (by decide) hx hb hK hT hq_5 (hT.len hq_5 (by decide)) ⟨by omega, by omega⟩ dX5_splitFrom_31 (fun z_7 ez_7 => ?_)
      refine lv_lload hx hb dX5_splitFrom_32 (lv_at hl 4 rfl) ?_
      refine lv_ladd hx hb dX5_splitFrom_34 ?_
      refine lv_topl (fun z_8 ez_8 => ?_)
      refine t_last (n := 64) (i := z_6) (x := z_8) rfl (by decide) hx hb hK hT hS hq_5 (hT.len hq_5 (by decide)) ⟨by omega, by omega⟩ dX5_splitFrom_35 (fun H locs G_9 eG_9 hT hS => ?_)
      have hF := hF.wL eG_9 hq_5 rfl
      exact ret_v hx hb hr hlocks ⟨⟨hS.1, hS.2.1⟩, G_9, hF, ⟨rfl, trivial⟩, hT⟩ hS.2.2 (Nat.le_of_ble_eq_true rfl) (Nat.le_of_ble_eq_true rfl) dX5_splitFrom_36
    · skip
      have tc_4 : ¬ z_3.toInt ≤ 2 := fun h => c_4 ((fa_le _ _).mpr h)
      refine lv_iload_n hx hb dX5_splitFrom_16 rfl (lv_at hl 3 rfl) ?_
      refine lv_bipush (v := 6) hx hb dX5_splitFrom_17 (by decide) ?_
      refine lv_icmp_lt (tgt := 37) hx hb dX5_splitFrom_19 (by decide) (fun _ => ?_) (fun c_10 => absurd (by decide) c_10)
      refine lv_iconst (v := 1) hx hb dX5_splitFrom_37 (by decide) ?_
      refine lv_iload_n hx hb dX5_splitFrom_38 rfl (lv_at hl 3 rfl) ?_
      refine lv_ishl hx hb dX5_splitFrom_39 ?_
      refine lv_topi (fun z_11 ez_11 => ?_)
      have ez_11 : z_11 = 4 := ez_11.trans (by decide)
      subst ez_11
      refine lv_istore (lv' := [(6, .int 4), (0, .ref a), (1, .ref b), (2, .int v), (3, .int 2), (4, .long x)]) hx hb dX5_splitFrom_40 hl (by decide) rfl (fun ls hl => ?_)
      refine lv_iload_n hx hb dX5_splitFrom_42 rfl (lv_at hl 3 rfl) ?_
      refine lv_iload hx hb dX5_splitFrom_43 (lv_at hl 0 rfl) ?_
      refine lv_iand hx hb dX5_splitFrom_45 ?_
      refine lv_topi (fun z_12 ez_12 => ?_)
      have tz_12 : 0 ≤ z_12.toInt ∧ z_12.toInt ≤ 4 := and_t ez_12 (by decide)
      refine lv_if_ne (tgt := 63) hx hb dX5_splitFrom_46 (by decide) (fun c_13 => ?_) (fun c_13 => ?_)
      · skip
        have tc_13 : ¬ z_12.toInt = 0 := fun h => c_13 ((fa_eq _ _).mpr h)
        refine lv_lconst (v := 0) hx hb dX5_splitFrom_63 (by decide) ?_
        refine lv_lstore (lv' := [(7, .long 0), (6, .int 4), (0, .ref a), (1, .ref b), (2, .int v), (3, .int 2), (4, .long x)]) hx hb dX5_splitFrom_64 hl (by decide) rfl (fun ls hl => ?_)
        refine lv_aload_n hx hb dX5_splitFrom_66 rfl (lv_at hl 2 rfl) ?_
        refine lv_aload_n hx hb dX5_splitFrom_67 rfl (lv_at hl 3 rfl) ?_
        refine lv_iload_n hx hb dX5_splitFrom_68 rfl (lv_at hl 4 rfl) ?_
        refine lv_iload hx hb dX5_splitFrom_69 (lv_at hl 1 rfl) ?_
        refine lv_ior hx hb dX5_splitFrom_71 ?_
        refine lv_topi (fun z_14 ez_14 => ?_)
        refine lv_iload_n hx hb dX5_splitFrom_72 rfl (lv_at hl 5 rfl) ?_
        refine lv_iconst (v := 1) hx hb dX5_splitFrom_73 (by decide) ?_
        refine lv_iadd hx hb dX5_splitFrom_74 ?_
        refine lv_topi (fun z_15 ez_15 => ?_)
        have ez_15 : z_15 = 3 := ez_15.trans (by decide)
        subst ez_15
        refine lv_lload hx hb dX5_splitFrom_75 (lv_at hl 0 rfl) ?_
        refine t_callv (runV (As := [.ref b, .int z_14, .int 3, .long 0]) (rest := []) ⟨hx, hb, hml, hown, hts⟩ (t_X5_splitFrom_3 l D cy base τ G a h_a b h_b z_14 0) sV_X5_82 hK (t_recv cf_8 hK hT h_a) ⟨Nat.le_trans hZ hS.1, hT⟩ ⟨Nat.le_of_ble_eq_true rfl, Nat.le_of_ble_eq_true rfl⟩ rfl hl.1 rfl (Nat.le_of_ble_eq_true rfl) dX5_splitFrom_77 ⟨Nat.le_of_ble_eq_true rfl, Nat.le_of_ble_eq_true rfl⟩) hS (fun G_16 H locs hF_16 hr_16 hT hS => ?_)
        have hF := hF.tr hF_16 rfl
        refine lv_aload_n hx hb dX5_splitFrom_80 rfl (lv_at hl 2 rfl) ?_
        refine lv_aload_n hx hb dX5_splitFrom_81 rfl (lv_at hl 3 rfl) ?_
        refine lv_iload_n hx hb dX5_splitFrom_82 rfl (lv_at hl 4 rfl) ?_
        refine lv_iload_n hx hb dX5_splitFrom_83 rfl (lv_at hl 5 rfl) ?_
        refine lv_iconst (v := 1) hx hb dX5_splitFrom_84 (by decide) ?_
        refine lv_iadd hx hb dX5_splitFrom_85 ?_
        refine lv_topi (fun z_17 ez_17 => ?_)
        have ez_17 : z_17 = 3 := ez_17.trans (by decide)
        subst ez_17
        refine lv_lload hx hb dX5_splitFrom_86 (lv_at hl 6 rfl) ?_
        refine lv_lload hx hb dX5_splitFrom_88 (lv_at hl 0 rfl) ?_
        refine lv_lsub hx hb dX5_splitFrom_90 ?_
        refine lv_topl (fun z_18 ez_18 => ?_)
        refine t_callv (runV (As := [.ref b, .int v, .int 3, .long z_18]) (rest := []) ⟨hx, hb, hml, hown, hts⟩ (t_X5_splitFrom_3 l D cy base τ G_16 a h_a b h_b v z_18) sV_X5_82 hK (t_recv cf_8 hK hT h_a) ⟨Nat.le_trans hZ hS.1, hT⟩ ⟨Nat.le_of_ble_eq_true rfl, Nat.le_of_ble_eq_true rfl⟩ rfl hl.1 rfl (Nat.le_of_ble_eq_true rfl) dX5_splitFrom_91 ⟨Nat.le_of_ble_eq_true rfl, Nat.le_of_ble_eq_true rfl⟩) hS (fun G_19 H locs hF_19 hr_19 hT hS => ?_)
        have hF := hF.tr hF_19 rfl
        exact ret_v hx hb hr hlocks ⟨⟨hS.1, hS.2.1⟩, G_19, hF, ⟨rfl, trivial⟩, hT⟩ hS.2.2 (Nat.le_of_ble_eq_true rfl) (Nat.le_of_ble_eq_true rfl) dX5_splitFrom_94
      · skip
        have tc_13 : z_12.toInt = 0 := (fa_eq _ _).mp c_13
        refine lv_lload hx hb dX5_splitFrom_49 (lv_at hl 5 rfl) ?_
        refine lv_aload_n hx hb dX5_splitFrom_51 rfl (lv_at hl 2 rfl) ?_
        refine t_getr cf_7 hx hb hts hown hK hT h_b (k := 17) (P := fun q => τ q = 27) rfl (fun _ h9 => h9) fl_X5_55 (fun _ h9 => h9) dX5_splitFrom_52 (fun q_20 eq_20 hq_20 => ?_)
        refine lv_iload_n hx hb dX5_splitFrom_55 rfl (lv_at hl 4 rfl) ?_
        refine t_iald (n := 6) (i := 2) rfl (by decide) hx hb hK hT hq_20 (hT.len hq_20 (by decide)) ⟨by decide, by decide⟩ dX5_splitFrom_56 (fun z_21 ez_21 rz_21 => ?_)
        have ez_21 : z_21 = G.1 q_20 2 := ez_21
        refine pu_calll (runS (As := [.long x, .int z_21]) (rest := []) ⟨hx, hb, hml, hown, hts⟩ (t_X5_hundredths l D cy base τ G x z_21) sS_X5_59 hK ⟨Nat.le_trans hZ hS.1, hT⟩ ⟨Nat.le_of_ble_eq_true rfl, Nat.le_of_ble_eq_true rfl⟩ rfl hl.1 rfl (Nat.le_of_ble_eq_true rfl) dX5_splitFrom_57 ⟨Nat.le_of_ble_eq_true rfl, Nat.le_of_ble_eq_true rfl⟩) (fun r_22 hr_22 => ?_)
        refine lv_goto (tgt := 64) hx hb dX5_splitFrom_60 (by decide) ?_
        refine lv_lstore (lv' := [(7, .long r_22), (6, .int 4), (0, .ref a), (1, .ref b), (2, .int v), (3, .int 2), (4, .long x)]) hx hb dX5_splitFrom_64 hl (by decide) rfl (fun ls hl => ?_)
        refine lv_aload_n hx hb dX5_splitFrom_66 rfl (lv_at hl 2 rfl) ?_
        refine lv_aload_n hx hb dX5_splitFrom_67 rfl (lv_at hl 3 rfl) ?_
        refine lv_iload_n hx hb dX5_splitFrom_68 rfl (lv_at hl 4 rfl) ?_
        refine lv_iload hx hb dX5_splitFrom_69 (lv_at hl 1 rfl) ?_
        refine lv_ior hx hb dX5_splitFrom_71 ?_
        refine lv_topi (fun z_23 ez_23 => ?_)
        refine lv_iload_n hx hb dX5_splitFrom_72 rfl (lv_at hl 5 rfl) ?_
        refine lv_iconst (v := 1) hx hb dX5_splitFrom_73 (by decide) ?_
        refine lv_iadd hx hb dX5_splitFrom_74 ?_
        refine lv_topi (fun z_24 ez_24 => ?_)
        have ez_24 : z_24 = 3 := ez_24.trans (by decide)
        subst ez_24
        refine lv_lload hx hb dX5_splitFrom_75 (lv_at hl 0 rfl) ?_
        refine t_callv (runV (As := [.ref b, .int z_23, .int 3, .long r_22]) (rest := []) ⟨hx, hb, hml, hown, hts⟩ (t_X5_splitFrom_3 l D cy base τ G a h_a b h_b z_23 r_22) sV_X5_82 hK (t_recv cf_8 hK hT h_a) ⟨Nat.le_trans hZ hS.1, hT⟩ ⟨Nat.le_of_ble_eq_true rfl, Nat.le_of_ble_eq_true rfl⟩ rfl hl.1 rfl (Nat.le_of_ble_eq_true rfl) dX5_splitFrom_77 ⟨Nat.le_of_ble_eq_true rfl, Nat.le_of_ble_eq_true rfl⟩) hS (fun G_25 H locs hF_25 hr_25 hT hS => ?_)
        have hF := hF.tr hF_25 rfl
        refine lv_aload_n hx hb dX5_splitFrom_80 rfl (lv_at hl 2 rfl) ?_
        refine lv_aload_n hx hb dX5_splitFrom_81 rfl (lv_at hl 3 rfl) ?_
        refine lv_iload_n hx hb dX5_splitFrom_82 rfl (lv_at hl 4 rfl) ?_
        refine lv_iload_n hx hb dX5_splitFrom_83 rfl (lv_at hl 5 rfl) ?_
        refine lv_iconst (v := 1) hx hb dX5_splitFrom_84 (by decide) ?_
        refine lv_iadd hx hb dX5_splitFrom_85 ?_
        refine lv_topi (fun z_26 ez_26 => ?_)
        have ez_26 : z_26 = 3 := ez_26.trans (by decide)
        subst ez_26
        refine lv_lload hx hb dX5_splitFrom_86 (lv_at hl 6 rfl) ?_
        refine lv_lload hx hb dX5_splitFrom_88 (lv_at hl 0 rfl) ?_
        refine lv_lsub hx hb dX5_splitFrom_90 ?_
        refine lv_topl (fun z_27 ez_27 => ?_)
        refine t_callv (runV (As := [.ref b, .int v, .int 3, .long z_27]) (rest := []) ⟨hx, hb, hml, hown, hts⟩ (t_X5_splitFrom_3 l D cy base τ G_25 a h_a b h_b v z_27) sV_X5_82 hK (t_recv cf_8 hK hT h_a) ⟨Nat.le_trans hZ hS.1, hT⟩ ⟨Nat.le_of_ble_eq_true rfl, Nat.le_of_ble_eq_true rfl⟩ rfl hl.1 rfl (Nat.le_of_ble_eq_true rfl) dX5_splitFrom_91 ⟨Nat.le_of_ble_eq_true rfl, Nat.le_of_ble_eq_true rfl⟩) hS (fun G_28 H locs hF_28 hr_28 hT hS => ?_)
        have hF := hF.tr hF_28 rfl
        exact ret_v hx hb hr hlocks ⟨⟨hS.1, hS.2.1⟩, G_28, hF, ⟨rfl, trivial⟩, hT⟩ hS.2.2 (Nat.le_of_ble_eq_true rfl) (Nat.le_of_ble_eq_true rfl) dX5_splitFrom_94
  · skip
    have tc_2 : z_1.toInt = 0 := (fa_eq _ _).mp c_2
    exact ret_v hx hb hr hlocks ⟨⟨hS.1, hS.2.1⟩, G, hF, ⟨rfl, trivial⟩, hT⟩ hS.2.2 (Nat.le_of_ble_eq_true rfl) (Nat.le_of_ble_eq_true rfl) dX5_splitFrom_7
set_option maxHeartbeats 4000000 in
set_option maxRecDepth 100000 in
theorem t_X5_splitFrom_1 (l : Launch) (D : va_G) (cy : Nat → ClassId) (base : Nat) (τ : Nat → Nat) (G : Gh) (a : Nat) (h_a : τ a = 8) (b : Nat) (h_b : τ b = 7) (v : Int32) (x : Int64) : MM l yX5_splitFrom cX5_splitFrom 9 none 5 0 0 D cy [.ref a, .ref b, .int v, .int 1, .long x] (PT D cy base τ G) (QT D cy base τ G [35] (fun v g => v = none ∧ (True))) (RA base) := by
  refine MM.of (by decide) (Nat.le_of_ble_eq_true rfl) ?_
  intro p e s m below meth c C hPT ls hl
  obtain ⟨hx, hb, hr, hml, hown, hts, hlocks, hK, hnm⟩ := C
  obtain ⟨hZ, hT⟩ := hPT
  have hS : va_S (RA base) s.heap s.heap [] := va_S.rf
  have hF : Fr τ [35] G G := Fr.rf
  have hl : lv_has ls 9 [(0, .ref a), (1, .ref b), (2, .int v), (3, .int 1), (4, .long x)] := hl
  refine lv_lload hx hb dX5_splitFrom_0 (lv_at hl 4 rfl) ?_
  refine lv_lconst (v := 0) hx hb dX5_splitFrom_2 (by decide) ?_
  refine W.lcmp hx hb dX5_splitFrom_3 ?_
  refine lv_topi (fun z_1 ez_1 => ?_)
  have tz_1 : (z_1.toInt < 0 ↔ x.toInt < 0) ∧ (0 < z_1.toInt ↔ 0 < x.toInt) ∧ -1 ≤ z_1.toInt ∧ z_1.toInt ≤ 1 := cmp_t ez_1
  refine lv_if_ne (tgt := 8) hx hb dX5_splitFrom_4 (by decide) (fun c_2 => ?_) (fun c_2 => ?_)
  · skip
    have tc_2 : ¬ z_1.toInt = 0 := fun h => c_2 ((fa_eq _ _).mpr h)
    refine lv_iload_n hx hb dX5_splitFrom_8 rfl (lv_at hl 3 rfl) ?_
    refine lv_aload_n hx hb dX5_splitFrom_9 rfl (lv_at hl 1 rfl) ?_
    refine t_geti cf_7 hx hb hts hown hK hT h_b (k := 6) rfl fl_X5_79 (fun _ h9 => h9) dX5_splitFrom_10 (fun z_3 ez_3 rz_3 => ?_)
    have ez_3 : z_3 = G.1 b 6 := ez_3
    have rz_3 : 0 ≤ z_3.toInt ∧ z_3.toInt ≤ 6 := rz_3
    refine lv_icmp_ge (tgt := 22) hx hb dX5_splitFrom_13 (by decide) (fun c_4 => ?_) (fun c_4 => ?_)
    · skip
      have tc_4 : z_3.toInt ≤ 1 := (fa_le _ _).mp c_4
      refine lv_aload_n hx hb dX5_splitFrom_22 rfl (lv_at hl 0 rfl) ?_
      refine t_getr cf_8 hx hb hts hown hK hT h_a (k := 6) (P := fun q => τ q = 35) rfl (fun _ h9 => h9) fl_X5_30 (fun _ h9 => h9) dX5_splitFrom_23 (fun q_5 eq_5 hq_5 => ?_)
      refine lv_iload_n hx hb dX5_splitFrom_26 rfl (lv_at hl 2 rfl) ?_
      refine lv_bipush (v := 63) hx hb dX5_splitFrom_27 (by decide) ?_
      refine lv_iand hx hb dX5_splitFrom_29 ?_
      refine lv_topi (fun z_6 ez_6 => ?_)
      have tz_6 : 0 ≤ z_6.toInt ∧ z_6.toInt ≤ 63 := and_t ez_6 (by decide)
      refine lv_dup2_11 hx hb dX5_splitFrom_30 rfl rfl ?_
      refine t_lald (n := 64) (i := z_6) rfl (by decide) hx hb hK hT hq_5 (hT.len hq_5 (by decide)) ⟨by omega, by omega⟩ dX5_splitFrom_31 (fun z_7 ez_7 => ?_)
      refine lv_lload hx hb dX5_splitFrom_32 (lv_at hl 4 rfl) ?_
      refine lv_ladd hx hb dX5_splitFrom_34 ?_
      refine lv_topl (fun z_8 ez_8 => ?_)
      refine t_last (n := 64) (i := z_6) (x := z_8) rfl (by decide) hx hb hK hT hS hq_5 (hT.len hq_5 (by decide)) ⟨by omega, by omega⟩ dX5_splitFrom_35 (fun H locs G_9 eG_9 hT hS => ?_)
      have hF := hF.wL eG_9 hq_5 rfl
      exact ret_v hx hb hr hlocks ⟨⟨hS.1, hS.2.1⟩, G_9, hF, ⟨rfl, trivial⟩, hT⟩ hS.2.2 (Nat.le_of_ble_eq_true rfl) (Nat.le_of_ble_eq_true rfl) dX5_splitFrom_36
    · skip
      have tc_4 : ¬ z_3.toInt ≤ 1 := fun h => c_4 ((fa_le _ _).mpr h)
      refine lv_iload_n hx hb dX5_splitFrom_16 rfl (lv_at hl 3 rfl) ?_
      refine lv_bipush (v := 6) hx hb dX5_splitFrom_17 (by decide) ?_
      refine lv_icmp_lt (tgt := 37) hx hb dX5_splitFrom_19 (by decide) (fun _ => ?_) (fun c_10 => absurd (by decide) c_10)
      refine lv_iconst (v := 1) hx hb dX5_splitFrom_37 (by decide) ?_
      refine lv_iload_n hx hb dX5_splitFrom_38 rfl (lv_at hl 3 rfl) ?_
      refine lv_ishl hx hb dX5_splitFrom_39 ?_
      refine lv_topi (fun z_11 ez_11 => ?_)
      have ez_11 : z_11 = 2 := ez_11.trans (by decide)
      subst ez_11
      refine lv_istore (lv' := [(6, .int 2), (0, .ref a), (1, .ref b), (2, .int v), (3, .int 1), (4, .long x)]) hx hb dX5_splitFrom_40 hl (by decide) rfl (fun ls hl => ?_)
      refine lv_iload_n hx hb dX5_splitFrom_42 rfl (lv_at hl 3 rfl) ?_
      refine lv_iload hx hb dX5_splitFrom_43 (lv_at hl 0 rfl) ?_
      refine lv_iand hx hb dX5_splitFrom_45 ?_
      refine lv_topi (fun z_12 ez_12 => ?_)
      have tz_12 : 0 ≤ z_12.toInt ∧ z_12.toInt ≤ 2 := and_t ez_12 (by decide)
      refine lv_if_ne (tgt := 63) hx hb dX5_splitFrom_46 (by decide) (fun c_13 => ?_) (fun c_13 => ?_)
      · skip
        have tc_13 : ¬ z_12.toInt = 0 := fun h => c_13 ((fa_eq _ _).mpr h)
        refine lv_lconst (v := 0) hx hb dX5_splitFrom_63 (by decide) ?_
        refine lv_lstore (lv' := [(7, .long 0), (6, .int 2), (0, .ref a), (1, .ref b), (2, .int v), (3, .int 1), (4, .long x)]) hx hb dX5_splitFrom_64 hl (by decide) rfl (fun ls hl => ?_)
        refine lv_aload_n hx hb dX5_splitFrom_66 rfl (lv_at hl 2 rfl) ?_
        refine lv_aload_n hx hb dX5_splitFrom_67 rfl (lv_at hl 3 rfl) ?_
        refine lv_iload_n hx hb dX5_splitFrom_68 rfl (lv_at hl 4 rfl) ?_
        refine lv_iload hx hb dX5_splitFrom_69 (lv_at hl 1 rfl) ?_
        refine lv_ior hx hb dX5_splitFrom_71 ?_
        refine lv_topi (fun z_14 ez_14 => ?_)
        refine lv_iload_n hx hb dX5_splitFrom_72 rfl (lv_at hl 5 rfl) ?_
        refine lv_iconst (v := 1) hx hb dX5_splitFrom_73 (by decide) ?_
        refine lv_iadd hx hb dX5_splitFrom_74 ?_
        refine lv_topi (fun z_15 ez_15 => ?_)
        have ez_15 : z_15 = 2 := ez_15.trans (by decide)
        subst ez_15
        refine lv_lload hx hb dX5_splitFrom_75 (lv_at hl 0 rfl) ?_
        refine t_callv (runV (As := [.ref b, .int z_14, .int 2, .long 0]) (rest := []) ⟨hx, hb, hml, hown, hts⟩ (t_X5_splitFrom_2 l D cy base τ G a h_a b h_b z_14 0) sV_X5_82 hK (t_recv cf_8 hK hT h_a) ⟨Nat.le_trans hZ hS.1, hT⟩ ⟨Nat.le_of_ble_eq_true rfl, Nat.le_of_ble_eq_true rfl⟩ rfl hl.1 rfl (Nat.le_of_ble_eq_true rfl) dX5_splitFrom_77 ⟨Nat.le_of_ble_eq_true rfl, Nat.le_of_ble_eq_true rfl⟩) hS (fun G_16 H locs hF_16 hr_16 hT hS => ?_)
        have hF := hF.tr hF_16 rfl
        refine lv_aload_n hx hb dX5_splitFrom_80 rfl (lv_at hl 2 rfl) ?_
        refine lv_aload_n hx hb dX5_splitFrom_81 rfl (lv_at hl 3 rfl) ?_
        refine lv_iload_n hx hb dX5_splitFrom_82 rfl (lv_at hl 4 rfl) ?_
        refine lv_iload_n hx hb dX5_splitFrom_83 rfl (lv_at hl 5 rfl) ?_
        refine lv_iconst (v := 1) hx hb dX5_splitFrom_84 (by decide) ?_
        refine lv_iadd hx hb dX5_splitFrom_85 ?_
        refine lv_topi (fun z_17 ez_17 => ?_)
        have ez_17 : z_17 = 2 := ez_17.trans (by decide)
        subst ez_17
        refine lv_lload hx hb dX5_splitFrom_86 (lv_at hl 6 rfl) ?_
        refine lv_lload hx hb dX5_splitFrom_88 (lv_at hl 0 rfl) ?_
        refine lv_lsub hx hb dX5_splitFrom_90 ?_
        refine lv_topl (fun z_18 ez_18 => ?_)
        refine t_callv (runV (As := [.ref b, .int v, .int 2, .long z_18]) (rest := []) ⟨hx, hb, hml, hown, hts⟩ (t_X5_splitFrom_2 l D cy base τ G_16 a h_a b h_b v z_18) sV_X5_82 hK (t_recv cf_8 hK hT h_a) ⟨Nat.le_trans hZ hS.1, hT⟩ ⟨Nat.le_of_ble_eq_true rfl, Nat.le_of_ble_eq_true rfl⟩ rfl hl.1 rfl (Nat.le_of_ble_eq_true rfl) dX5_splitFrom_91 ⟨Nat.le_of_ble_eq_true rfl, Nat.le_of_ble_eq_true rfl⟩) hS (fun G_19 H locs hF_19 hr_19 hT hS => ?_)
        have hF := hF.tr hF_19 rfl
        exact ret_v hx hb hr hlocks ⟨⟨hS.1, hS.2.1⟩, G_19, hF, ⟨rfl, trivial⟩, hT⟩ hS.2.2 (Nat.le_of_ble_eq_true rfl) (Nat.le_of_ble_eq_true rfl) dX5_splitFrom_94
      · skip
        have tc_13 : z_12.toInt = 0 := (fa_eq _ _).mp c_13
        refine lv_lload hx hb dX5_splitFrom_49 (lv_at hl 5 rfl) ?_
        refine lv_aload_n hx hb dX5_splitFrom_51 rfl (lv_at hl 2 rfl) ?_
        refine t_getr cf_7 hx hb hts hown hK hT h_b (k := 17) (P := fun q => τ q = 27) rfl (fun _ h9 => h9) fl_X5_55 (fun _ h9 => h9) dX5_splitFrom_52 (fun q_20 eq_20 hq_20 => ?_)
        refine lv_iload_n hx hb dX5_splitFrom_55 rfl (lv_at hl 4 rfl) ?_
        refine t_iald (n := 6) (i := 1) rfl (by decide) hx hb hK hT hq_20 (hT.len hq_20 (by decide)) ⟨by decide, by decide⟩ dX5_splitFrom_56 (fun z_21 ez_21 rz_21 => ?_)
        have ez_21 : z_21 = G.1 q_20 1 := ez_21
        refine pu_calll (runS (As := [.long x, .int z_21]) (rest := []) ⟨hx, hb, hml, hown, hts⟩ (t_X5_hundredths l D cy base τ G x z_21) sS_X5_59 hK ⟨Nat.le_trans hZ hS.1, hT⟩ ⟨Nat.le_of_ble_eq_true rfl, Nat.le_of_ble_eq_true rfl⟩ rfl hl.1 rfl (Nat.le_of_ble_eq_true rfl) dX5_splitFrom_57 ⟨Nat.le_of_ble_eq_true rfl, Nat.le_of_ble_eq_true rfl⟩) (fun r_22 hr_22 => ?_)
        refine lv_goto (tgt := 64) hx hb dX5_splitFrom_60 (by decide) ?_
        refine lv_lstore (lv' := [(7, .long r_22), (6, .int 2), (0, .ref a), (1, .ref b), (2, .int v), (3, .int 1), (4, .long x)]) hx hb dX5_splitFrom_64 hl (by decide) rfl (fun ls hl => ?_)
        refine lv_aload_n hx hb dX5_splitFrom_66 rfl (lv_at hl 2 rfl) ?_
        refine lv_aload_n hx hb dX5_splitFrom_67 rfl (lv_at hl 3 rfl) ?_
        refine lv_iload_n hx hb dX5_splitFrom_68 rfl (lv_at hl 4 rfl) ?_
        refine lv_iload hx hb dX5_splitFrom_69 (lv_at hl 1 rfl) ?_
        refine lv_ior hx hb dX5_splitFrom_71 ?_
        refine lv_topi (fun z_23 ez_23 => ?_)
        refine lv_iload_n hx hb dX5_splitFrom_72 rfl (lv_at hl 5 rfl) ?_
        refine lv_iconst (v := 1) hx hb dX5_splitFrom_73 (by decide) ?_
        refine lv_iadd hx hb dX5_splitFrom_74 ?_
        refine lv_topi (fun z_24 ez_24 => ?_)
        have ez_24 : z_24 = 2 := ez_24.trans (by decide)
        subst ez_24
        refine lv_lload hx hb dX5_splitFrom_75 (lv_at hl 0 rfl) ?_
        refine t_callv (runV (As := [.ref b, .int z_23, .int 2, .long r_22]) (rest := []) ⟨hx, hb, hml, hown, hts⟩ (t_X5_splitFrom_2 l D cy base τ G a h_a b h_b z_23 r_22) sV_X5_82 hK (t_recv cf_8 hK hT h_a) ⟨Nat.le_trans hZ hS.1, hT⟩ ⟨Nat.le_of_ble_eq_true rfl, Nat.le_of_ble_eq_true rfl⟩ rfl hl.1 rfl (Nat.le_of_ble_eq_true rfl) dX5_splitFrom_77 ⟨Nat.le_of_ble_eq_true rfl, Nat.le_of_ble_eq_true rfl⟩) hS (fun G_25 H locs hF_25 hr_25 hT hS => ?_)
        have hF := hF.tr hF_25 rfl
        refine lv_aload_n hx hb dX5_splitFrom_80 rfl (lv_at hl 2 rfl) ?_
        refine lv_aload_n hx hb dX5_splitFrom_81 rfl (lv_at hl 3 rfl) ?_
        refine lv_iload_n hx hb dX5_splitFrom_82 rfl (lv_at hl 4 rfl) ?_
        refine lv_iload_n hx hb dX5_splitFrom_83 rfl (lv_at hl 5 rfl) ?_
        refine lv_iconst (v := 1) hx hb dX5_splitFrom_84 (by decide) ?_
        refine lv_iadd hx hb dX5_splitFrom_85 ?_
        refine lv_topi (fun z_26 ez_26 => ?_)
        have ez_26 : z_26 = 2 := ez_26.trans (by decide)
        subst ez_26
        refine lv_lload hx hb dX5_splitFrom_86 (lv_at hl 6 rfl) ?_
        refine lv_lload hx hb dX5_splitFrom_88 (lv_at hl 0 rfl) ?_
        refine lv_lsub hx hb dX5_splitFrom_90 ?_
        refine lv_topl (fun z_27 ez_27 => ?_)
        refine t_callv (runV (As := [.ref b, .int v, .int 2, .long z_27]) (rest := []) ⟨hx, hb, hml, hown, hts⟩ (t_X5_splitFrom_2 l D cy base τ G_25 a h_a b h_b v z_27) sV_X5_82 hK (t_recv cf_8 hK hT h_a) ⟨Nat.le_trans hZ hS.1, hT⟩ ⟨Nat.le_of_ble_eq_true rfl, Nat.le_of_ble_eq_true rfl⟩ rfl hl.1 rfl (Nat.le_of_ble_eq_true rfl) dX5_splitFrom_91 ⟨Nat.le_of_ble_eq_true rfl, Nat.le_of_ble_eq_true rfl⟩) hS (fun G_28 H locs hF_28 hr_28 hT hS => ?_)
        have hF := hF.tr hF_28 rfl
        exact ret_v hx hb hr hlocks ⟨⟨hS.1, hS.2.1⟩, G_28, hF, ⟨rfl, trivial⟩, hT⟩ hS.2.2 (Nat.le_of_ble_eq_true rfl) (Nat.le_of_ble_eq_true rfl) dX5_splitFrom_94
  · skip
    have tc_2 : z_1.toInt = 0 := (fa_eq _ _).mp c_2
    exact ret_v hx hb hr hlocks ⟨⟨hS.1, hS.2.1⟩, G, hF, ⟨rfl, trivial⟩, hT⟩ hS.2.2 (Nat.le_of_ble_eq_true rfl) (Nat.le_of_ble_eq_true rfl) dX5_splitFrom_7
set_option maxHeartbeats 4000000 in
set_option maxRecDepth 100000 in
theorem t_X5_splitFrom_0 (l : Launch) (D : va_G) (cy : Nat → ClassId) (base : Nat) (τ : Nat → Nat) (G : Gh) (a : Nat) (h_a : τ a = 8) (b : Nat) (h_b : τ b = 7) (v : Int32) (x : Int64) : MM l yX5_splitFrom cX5_splitFrom 9 none 6 0 0 D cy [.ref a, .ref b, .int v, .int 0, .long x] (PT D cy base τ G) (QT D cy base τ G [35] (fun v g => v = none ∧ (True))) (RA base) := by
  refine MM.of (by decide) (Nat.le_of_ble_eq_true rfl) ?_
  intro p e s m below meth c C hPT ls hl
  obtain ⟨hx, hb, hr, hml, hown, hts, hlocks, hK, hnm⟩ := C
  obtain ⟨hZ, hT⟩ := hPT
  have hS : va_S (RA base) s.heap s.heap [] := va_S.rf
  have hF : Fr τ [35] G G := Fr.rf
  have hl : lv_has ls 9 [(0, .ref a), (1, .ref b), (2, .int v), (3, .int 0), (4, .long x)] := hl
  refine lv_lload hx hb dX5_splitFrom_0 (lv_at hl 4 rfl) ?_
  refine lv_lconst (v := 0) hx hb dX5_splitFrom_2 (by decide) ?_
  refine W.lcmp hx hb dX5_splitFrom_3 ?_
  refine lv_topi (fun z_1 ez_1 => ?_)
  have tz_1 : (z_1.toInt < 0 ↔ x.toInt < 0) ∧ (0 < z_1.toInt ↔ 0 < x.toInt) ∧ -1 ≤ z_1.toInt ∧ z_1.toInt ≤ 1 := cmp_t ez_1
  refine lv_if_ne (tgt := 8) hx hb dX5_splitFrom_4 (by decide) (fun c_2 => ?_) (fun c_2 => ?_)
  · skip
    have tc_2 : ¬ z_1.toInt = 0 := fun h => c_2 ((fa_eq _ _).mpr h)
    refine lv_iload_n hx hb dX5_splitFrom_8 rfl (lv_at hl 3 rfl) ?_
    refine lv_aload_n hx hb dX5_splitFrom_9 rfl (lv_at hl 1 rfl) ?_
    refine t_geti cf_7 hx hb hts hown hK hT h_b (k := 6) rfl fl_X5_79 (fun _ h9 => h9) dX5_splitFrom_10 (fun z_3 ez_3 rz_3 => ?_)
    have ez_3 : z_3 = G.1 b 6 := ez_3
    have rz_3 : 0 ≤ z_3.toInt ∧ z_3.toInt ≤ 6 := rz_3
    refine lv_icmp_ge (tgt := 22) hx hb dX5_splitFrom_13 (by decide) (fun c_4 => ?_) (fun c_4 => ?_)
    · skip
      have tc_4 : z_3.toInt ≤ 0 := (fa_le _ _).mp c_4
      refine lv_aload_n hx hb dX5_splitFrom_22 rfl (lv_at hl 0 rfl) ?_
      refine t_getr cf_8 hx hb hts hown hK hT h_a (k := 6) (P := fun q => τ q = 35) rfl (fun _ h9 => h9) fl_X5_30 (fun _ h9 => h9) dX5_splitFrom_23 (fun q_5 eq_5 hq_5 => ?_)
      refine lv_iload_n hx hb dX5_splitFrom_26 rfl (lv_at hl 2 rfl) ?_
      refine lv_bipush (v := 63) hx hb dX5_splitFrom_27 (by decide) ?_
      refine lv_iand hx hb dX5_splitFrom_29 ?_
      refine lv_topi (fun z_6 ez_6 => ?_)
      have tz_6 : 0 ≤ z_6.toInt ∧ z_6.toInt ≤ 63 := and_t ez_6 (by decide)
      refine lv_dup2_11 hx hb dX5_splitFrom_30 rfl rfl ?_
      refine t_lald (n := 64) (i := z_6) rfl (by decide) hx hb hK hT hq_5 (hT.len hq_5 (by decide)) ⟨by omega, by omega⟩ dX5_splitFrom_31 (fun z_7 ez_7 => ?_)
      refine lv_lload hx hb dX5_splitFrom_32 (lv_at hl 4 rfl) ?_
      refine lv_ladd hx hb dX5_splitFrom_34 ?_
      refine lv_topl (fun z_8 ez_8 => ?_)
      refine t_last (n := 64) (i := z_6) (x := z_8) rfl (by decide) hx hb hK hT hS hq_5 (hT.len hq_5 (by decide)) ⟨by omega, by omega⟩ dX5_splitFrom_35 (fun H locs G_9 eG_9 hT hS => ?_)
      have hF := hF.wL eG_9 hq_5 rfl
      exact ret_v hx hb hr hlocks ⟨⟨hS.1, hS.2.1⟩, G_9, hF, ⟨rfl, trivial⟩, hT⟩ hS.2.2 (Nat.le_of_ble_eq_true rfl) (Nat.le_of_ble_eq_true rfl) dX5_splitFrom_36
    · skip
      have tc_4 : ¬ z_3.toInt ≤ 0 := fun h => c_4 ((fa_le _ _).mpr h)
      refine lv_iload_n hx hb dX5_splitFrom_16 rfl (lv_at hl 3 rfl) ?_
      refine lv_bipush (v := 6) hx hb dX5_splitFrom_17 (by decide) ?_
      refine lv_icmp_lt (tgt := 37) hx hb dX5_splitFrom_19 (by decide) (fun _ => ?_) (fun c_10 => absurd (by decide) c_10)
      refine lv_iconst (v := 1) hx hb dX5_splitFrom_37 (by decide) ?_
      refine lv_iload_n hx hb dX5_splitFrom_38 rfl (lv_at hl 3 rfl) ?_
      refine lv_ishl hx hb dX5_splitFrom_39 ?_
      refine lv_topi (fun z_11 ez_11 => ?_)
      have ez_11 : z_11 = 1 := ez_11.trans (by decide)
      subst ez_11
      refine lv_istore (lv' := [(6, .int 1), (0, .ref a), (1, .ref b), (2, .int v), (3, .int 0), (4, .long x)]) hx hb dX5_splitFrom_40 hl (by decide) rfl (fun ls hl => ?_)
      refine lv_iload_n hx hb dX5_splitFrom_42 rfl (lv_at hl 3 rfl) ?_
      refine lv_iload hx hb dX5_splitFrom_43 (lv_at hl 0 rfl) ?_
      refine lv_iand hx hb dX5_splitFrom_45 ?_
      refine lv_topi (fun z_12 ez_12 => ?_)
      have tz_12 : 0 ≤ z_12.toInt ∧ z_12.toInt ≤ 1 := and_t ez_12 (by decide)
      refine lv_if_ne (tgt := 63) hx hb dX5_splitFrom_46 (by decide) (fun c_13 => ?_) (fun c_13 => ?_)
      · skip
        have tc_13 : ¬ z_12.toInt = 0 := fun h => c_13 ((fa_eq _ _).mpr h)
        refine lv_lconst (v := 0) hx hb dX5_splitFrom_63 (by decide) ?_
        refine lv_lstore (lv' := [(7, .long 0), (6, .int 1), (0, .ref a), (1, .ref b), (2, .int v), (3, .int 0), (4, .long x)]) hx hb dX5_splitFrom_64 hl (by decide) rfl (fun ls hl => ?_)
        refine lv_aload_n hx hb dX5_splitFrom_66 rfl (lv_at hl 2 rfl) ?_
        refine lv_aload_n hx hb dX5_splitFrom_67 rfl (lv_at hl 3 rfl) ?_
        refine lv_iload_n hx hb dX5_splitFrom_68 rfl (lv_at hl 4 rfl) ?_
        refine lv_iload hx hb dX5_splitFrom_69 (lv_at hl 1 rfl) ?_
        refine lv_ior hx hb dX5_splitFrom_71 ?_
        refine lv_topi (fun z_14 ez_14 => ?_)
        refine lv_iload_n hx hb dX5_splitFrom_72 rfl (lv_at hl 5 rfl) ?_
        refine lv_iconst (v := 1) hx hb dX5_splitFrom_73 (by decide) ?_
        refine lv_iadd hx hb dX5_splitFrom_74 ?_
        refine lv_topi (fun z_15 ez_15 => ?_)
        have ez_15 : z_15 = 1 := ez_15.trans (by decide)
        subst ez_15
        refine lv_lload hx hb dX5_splitFrom_75 (lv_at hl 0 rfl) ?_
        refine t_callv (runV (As := [.ref b, .int z_14, .int 1, .long 0]) (rest := []) ⟨hx, hb, hml, hown, hts⟩ (t_X5_splitFrom_1 l D cy base τ G a h_a b h_b z_14 0) sV_X5_82 hK (t_recv cf_8 hK hT h_a) ⟨Nat.le_trans hZ hS.1, hT⟩ ⟨Nat.le_of_ble_eq_true rfl, Nat.le_of_ble_eq_true rfl⟩ rfl hl.1 rfl (Nat.le_of_ble_eq_true rfl) dX5_splitFrom_77 ⟨Nat.le_of_ble_eq_true rfl, Nat.le_of_ble_eq_true rfl⟩) hS (fun G_16 H locs hF_16 hr_16 hT hS => ?_)
        have hF := hF.tr hF_16 rfl
        refine lv_aload_n hx hb dX5_splitFrom_80 rfl (lv_at hl 2 rfl) ?_
        refine lv_aload_n hx hb dX5_splitFrom_81 rfl (lv_at hl 3 rfl) ?_
        refine lv_iload_n hx hb dX5_splitFrom_82 rfl (lv_at hl 4 rfl) ?_
        refine lv_iload_n hx hb dX5_splitFrom_83 rfl (lv_at hl 5 rfl) ?_
        refine lv_iconst (v := 1) hx hb dX5_splitFrom_84 (by decide) ?_
        refine lv_iadd hx hb dX5_splitFrom_85 ?_
        refine lv_topi (fun z_17 ez_17 => ?_)
        have ez_17 : z_17 = 1 := ez_17.trans (by decide)
        subst ez_17
        refine lv_lload hx hb dX5_splitFrom_86 (lv_at hl 6 rfl) ?_
        refine lv_lload hx hb dX5_splitFrom_88 (lv_at hl 0 rfl) ?_
        refine lv_lsub hx hb dX5_splitFrom_90 ?_
        refine lv_topl (fun z_18 ez_18 => ?_)
        refine t_callv (runV (As := [.ref b, .int v, .int 1, .long z_18]) (rest := []) ⟨hx, hb, hml, hown, hts⟩ (t_X5_splitFrom_1 l D cy base τ G_16 a h_a b h_b v z_18) sV_X5_82 hK (t_recv cf_8 hK hT h_a) ⟨Nat.le_trans hZ hS.1, hT⟩ ⟨Nat.le_of_ble_eq_true rfl, Nat.le_of_ble_eq_true rfl⟩ rfl hl.1 rfl (Nat.le_of_ble_eq_true rfl) dX5_splitFrom_91 ⟨Nat.le_of_ble_eq_true rfl, Nat.le_of_ble_eq_true rfl⟩) hS (fun G_19 H locs hF_19 hr_19 hT hS => ?_)
        have hF := hF.tr hF_19 rfl
        exact ret_v hx hb hr hlocks ⟨⟨hS.1, hS.2.1⟩, G_19, hF, ⟨rfl, trivial⟩, hT⟩ hS.2.2 (Nat.le_of_ble_eq_true rfl) (Nat.le_of_ble_eq_true rfl) dX5_splitFrom_94
      · skip
        have tc_13 : z_12.toInt = 0 := (fa_eq _ _).mp c_13
        refine lv_lload hx hb dX5_splitFrom_49 (lv_at hl 5 rfl) ?_
        refine lv_aload_n hx hb dX5_splitFrom_51 rfl (lv_at hl 2 rfl) ?_
        refine t_getr cf_7 hx hb hts hown hK hT h_b (k := 17) (P := fun q => τ q = 27) rfl (fun _ h9 => h9) fl_X5_55 (fun _ h9 => h9) dX5_splitFrom_52 (fun q_20 eq_20 hq_20 => ?_)
        refine lv_iload_n hx hb dX5_splitFrom_55 rfl (lv_at hl 4 rfl) ?_
        refine t_iald (n := 6) (i := 0) rfl (by decide) hx hb hK hT hq_20 (hT.len hq_20 (by decide)) ⟨by decide, by decide⟩ dX5_splitFrom_56 (fun z_21 ez_21 rz_21 => ?_)
        have ez_21 : z_21 = G.1 q_20 0 := ez_21
        refine pu_calll (runS (As := [.long x, .int z_21]) (rest := []) ⟨hx, hb, hml, hown, hts⟩ (t_X5_hundredths l D cy base τ G x z_21) sS_X5_59 hK ⟨Nat.le_trans hZ hS.1, hT⟩ ⟨Nat.le_of_ble_eq_true rfl, Nat.le_of_ble_eq_true rfl⟩ rfl hl.1 rfl (Nat.le_of_ble_eq_true rfl) dX5_splitFrom_57 ⟨Nat.le_of_ble_eq_true rfl, Nat.le_of_ble_eq_true rfl⟩) (fun r_22 hr_22 => ?_)
        refine lv_goto (tgt := 64) hx hb dX5_splitFrom_60 (by decide) ?_
        refine lv_lstore (lv' := [(7, .long r_22), (6, .int 1), (0, .ref a), (1, .ref b), (2, .int v), (3, .int 0), (4, .long x)]) hx hb dX5_splitFrom_64 hl (by decide) rfl (fun ls hl => ?_)
        refine lv_aload_n hx hb dX5_splitFrom_66 rfl (lv_at hl 2 rfl) ?_
        refine lv_aload_n hx hb dX5_splitFrom_67 rfl (lv_at hl 3 rfl) ?_
        refine lv_iload_n hx hb dX5_splitFrom_68 rfl (lv_at hl 4 rfl) ?_
        refine lv_iload hx hb dX5_splitFrom_69 (lv_at hl 1 rfl) ?_
        refine lv_ior hx hb dX5_splitFrom_71 ?_
        refine lv_topi (fun z_23 ez_23 => ?_)
        refine lv_iload_n hx hb dX5_splitFrom_72 rfl (lv_at hl 5 rfl) ?_
        refine lv_iconst (v := 1) hx hb dX5_splitFrom_73 (by decide) ?_
        refine lv_iadd hx hb dX5_splitFrom_74 ?_
        refine lv_topi (fun z_24 ez_24 => ?_)
        have ez_24 : z_24 = 1 := ez_24.trans (by decide)
        subst ez_24
        refine lv_lload hx hb dX5_splitFrom_75 (lv_at hl 0 rfl) ?_
        refine t_callv (runV (As := [.ref b, .int z_23, .int 1, .long r_22]) (rest := []) ⟨hx, hb, hml, hown, hts⟩ (t_X5_splitFrom_1 l D cy base τ G a h_a b h_b z_23 r_22) sV_X5_82 hK (t_recv cf_8 hK hT h_a) ⟨Nat.le_trans hZ hS.1, hT⟩ ⟨Nat.le_of_ble_eq_true rfl, Nat.le_of_ble_eq_true rfl⟩ rfl hl.1 rfl (Nat.le_of_ble_eq_true rfl) dX5_splitFrom_77 ⟨Nat.le_of_ble_eq_true rfl, Nat.le_of_ble_eq_true rfl⟩) hS (fun G_25 H locs hF_25 hr_25 hT hS => ?_)
        have hF := hF.tr hF_25 rfl
        refine lv_aload_n hx hb dX5_splitFrom_80 rfl (lv_at hl 2 rfl) ?_
        refine lv_aload_n hx hb dX5_splitFrom_81 rfl (lv_at hl 3 rfl) ?_
        refine lv_iload_n hx hb dX5_splitFrom_82 rfl (lv_at hl 4 rfl) ?_
        refine lv_iload_n hx hb dX5_splitFrom_83 rfl (lv_at hl 5 rfl) ?_
        refine lv_iconst (v := 1) hx hb dX5_splitFrom_84 (by decide) ?_
        refine lv_iadd hx hb dX5_splitFrom_85 ?_
        refine lv_topi (fun z_26 ez_26 => ?_)
        have ez_26 : z_26 = 1 := ez_26.trans (by decide)
        subst ez_26
        refine lv_lload hx hb dX5_splitFrom_86 (lv_at hl 6 rfl) ?_
        refine lv_lload hx hb dX5_splitFrom_88 (lv_at hl 0 rfl) ?_
        refine lv_lsub hx hb dX5_splitFrom_90 ?_
        refine lv_topl (fun z_27 ez_27 => ?_)
        refine t_callv (runV (As := [.ref b, .int v, .int 1, .long z_27]) (rest := []) ⟨hx, hb, hml, hown, hts⟩ (t_X5_splitFrom_1 l D cy base τ G_25 a h_a b h_b v z_27) sV_X5_82 hK (t_recv cf_8 hK hT h_a) ⟨Nat.le_trans hZ hS.1, hT⟩ ⟨Nat.le_of_ble_eq_true rfl, Nat.le_of_ble_eq_true rfl⟩ rfl hl.1 rfl (Nat.le_of_ble_eq_true rfl) dX5_splitFrom_91 ⟨Nat.le_of_ble_eq_true rfl, Nat.le_of_ble_eq_true rfl⟩) hS (fun G_28 H locs hF_28 hr_28 hT hS => ?_)
        have hF := hF.tr hF_28 rfl
        exact ret_v hx hb hr hlocks ⟨⟨hS.1, hS.2.1⟩, G_28, hF, ⟨rfl, trivial⟩, hT⟩ hS.2.2 (Nat.le_of_ble_eq_true rfl) (Nat.le_of_ble_eq_true rfl) dX5_splitFrom_94
  · skip
    have tc_2 : z_1.toInt = 0 := (fa_eq _ _).mp c_2
    exact ret_v hx hb hr hlocks ⟨⟨hS.1, hS.2.1⟩, G, hF, ⟨rfl, trivial⟩, hT⟩ hS.2.2 (Nat.le_of_ble_eq_true rfl) (Nat.le_of_ble_eq_true rfl) dX5_splitFrom_7
set_option maxHeartbeats 4000000 in
set_option maxRecDepth 100000 in
theorem t_X5_followAll (l : Launch) (D : va_G) (cy : Nat → ClassId) (base : Nat) (τ : Nat → Nat) (G : Gh) (a : Nat) (h_a : τ a = 8) (b : Nat) (h_b : τ b = 7) (v : Int32) : MM l yX5_followAll cX5_followAll 7 none 7 0 0 D cy [.ref a, .ref b, .int v] (PT D cy base τ G) (QT D cy base τ G [35] (fun v g => v = none ∧ (True))) (RA base) := by
  refine MM.of (by decide) (Nat.le_of_ble_eq_true rfl) ?_
  intro p e s m below meth c C hPT ls hl
  obtain ⟨hx, hb, hr, hml, hown, hts, hlocks, hK, hnm⟩ := C
  obtain ⟨hZ, hT⟩ := hPT
  have hS : va_S (RA base) s.heap s.heap [] := va_S.rf
  have hF : Fr τ [35] G G := Fr.rf
  have hl : lv_has ls 7 [(0, .ref a), (1, .ref b), (2, .int v)] := hl
  refine lv_aload_n hx hb dX5_followAll_0 rfl (lv_at hl 0 rfl) ?_
  refine t_getr cf_8 hx hb hts hown hK hT h_a (k := 4) (P := fun q => τ q = 35) rfl (fun _ h9 => h9) fl_X5_24 (fun _ h9 => h9) dX5_followAll_1 (fun q_1 eq_1 hq_1 => ?_)
  refine lv_lconst (v := 0) hx hb dX5_followAll_4 (by decide) ?_
  refine t_callv (runS (As := [.ref q_1, .long 0]) (rest := []) ⟨hx, hb, hml, hown, hts⟩ (t_J7_fill_d0a16_35 l D cy base τ G q_1 hq_1 0) sS_X5_33 hK ⟨Nat.le_trans hZ hS.1, hT⟩ ⟨Nat.le_of_ble_eq_true rfl, Nat.le_of_ble_eq_true rfl⟩ rfl hl.1 rfl (Nat.le_of_ble_eq_true rfl) dX5_followAll_5 ⟨Nat.le_of_ble_eq_true rfl, Nat.le_of_ble_eq_true rfl⟩) hS (fun G_2 H locs hF_2 hr_2 hT hS => ?_)
  have hF := hF.tr hF_2 rfl
  refine lv_aload_n hx hb dX5_followAll_8 rfl (lv_at hl 0 rfl) ?_
  refine t_getr cf_8 hx hb hts hown hK hT h_a (k := 5) (P := fun q => τ q = 35) rfl (fun _ h9 => h9) fl_X5_27 (fun _ h9 => h9) dX5_followAll_9 (fun q_3 eq_3 hq_3 => ?_)
  have eq_3 := (hF.r h_a (by decide) rfl _).symm.trans eq_3
  refine lv_lconst (v := 0) hx hb dX5_followAll_12 (by decide) ?_
  refine t_callv (runS (As := [.ref q_3, .long 0]) (rest := []) ⟨hx, hb, hml, hown, hts⟩ (t_J7_fill_d0a16_35 l D cy base τ G_2 q_3 hq_3 0) sS_X5_33 hK ⟨Nat.le_trans hZ hS.1, hT⟩ ⟨Nat.le_of_ble_eq_true rfl, Nat.le_of_ble_eq_true rfl⟩ rfl hl.1 rfl (Nat.le_of_ble_eq_true rfl) dX5_followAll_13 ⟨Nat.le_of_ble_eq_true rfl, Nat.le_of_ble_eq_true rfl⟩) hS (fun G_4 H locs hF_4 hr_4 hT hS => ?_)
  have hF := hF.tr hF_4 rfl
  refine lv_aload_n hx hb dX5_followAll_16 rfl (lv_at hl 0 rfl) ?_
  refine t_getr cf_8 hx hb hts hown hK hT h_a (k := 5) (P := fun q => τ q = 35) rfl (fun _ h9 => h9) fl_X5_27 (fun _ h9 => h9) dX5_followAll_17 (fun q_5 eq_5 hq_5 => ?_)
  have w_6 : q_3 = q_5 := Option.some.inj (eq_3.symm.trans ((hF.r h_a (by decide) rfl _).symm.trans eq_5))
  subst w_6
  refine lv_iconst (v := 0) hx hb dX5_followAll_20 (by decide) ?_
  refine lv_ldc2 (v := 1000000000000) hx hb hown (hts _ kl_X5_45) dX5_followAll_21 ?_
  refine t_last (n := 64) (i := 0) (x := 1000000000000) rfl (by decide) hx hb hK hT hS hq_3 (hT.len hq_3 (by decide)) ⟨by decide, by decide⟩ dX5_followAll_24 (fun H locs G_7 eG_7 hT hS => ?_)
  have hF := hF.wL eG_7 hq_3 rfl
  refine lv_iconst (v := 1) hx hb dX5_followAll_25 (by decide) ?_
  refine lv_istore_n (lv' := [(3, .int 1), (0, .ref a), (1, .ref b), (2, .int v)]) hx hb dX5_followAll_26 rfl hl (by decide) rfl (fun ls hl => ?_)
  refine W.loop (σ := Int32 × Gh) (fun w8 H locs ls => 1 ≤ w8.1.toInt ∧ w8.1.toInt ≤ 61 ∧ Fr τ [35] G w8.2 ∧ TY D cy base τ w8.2 H ∧ va_S (RA base) s.heap H locs ∧ lv_has ls 7 [(3, .int w8.1), (0, .ref a), (1, .ref b), (2, .int v)]) (fun w8 => (61 - w8.1.toInt).toNat) ?_ ((1 : Int32), G_7) _ _ _ ⟨(by show 1 ≤ (1 : Int32).toInt; decide), (by show (1 : Int32).toInt ≤ 61; decide), hF, hT, hS, lv_sub hl [0, 1, 2, 3] rfl⟩
  intro w8 H locs ls hI ih8
  obtain ⟨x8_3, G_8⟩ := w8
  obtain ⟨i8_0, i8_1, hF, hT, hS, hl⟩ := hI
  have i8_0 : 1 ≤ x8_3.toInt := i8_0
  have i8_1 : x8_3.toInt ≤ 61 := i8_1
  have hF : Fr τ [35] G G_8 := hF
  have hT : TY D cy base τ G_8 H := hT
  have hS : va_S (RA base) s.heap H locs := hS
  have hl : lv_has ls 7 [(3, .int x8_3), (0, .ref a), (1, .ref b), (2, .int v)] := hl
  refine lv_iload_n hx hb dX5_followAll_27 rfl (lv_at hl 0 rfl) ?_
  refine lv_iload_n hx hb dX5_followAll_28 rfl (lv_at hl 3 rfl) ?_
  refine lv_icmp_gt (tgt := 152) hx hb dX5_followAll_29 (by decide) (fun c_9 => ?_) (fun c_9 => ?_)
  · skip
    have tc_9 : v.toInt < x8_3.toInt := (fa_lt _ _).mp c_9
    exact ret_v hx hb hr hlocks ⟨⟨hS.1, hS.2.1⟩, G_8, hF, ⟨rfl, trivial⟩, hT⟩ hS.2.2 (Nat.le_of_ble_eq_true rfl) (Nat.le_of_ble_eq_true rfl) dX5_followAll_152
  · skip
    have tc_9 : ¬ v.toInt < x8_3.toInt := fun h => c_9 ((fa_lt _ _).mpr h)
    refine lv_iload_n hx hb dX5_followAll_32 rfl (lv_at hl 0 rfl) ?_
    refine lv_aload_n hx hb dX5_followAll_33 rfl (lv_at hl 2 rfl) ?_
    refine t_geti cf_7 hx hb hts hown hK hT h_b (k := 1) rfl fl_X5_47 (fun _ h9 => h9) dX5_followAll_34 (fun z_10 ez_10 rz_10 => ?_)
    have ez_10 : z_10 = G_8.1 b 1 := ez_10
    have rz_10 : 0 ≤ z_10.toInt ∧ z_10.toInt ≤ 60 := rz_10
    have ez_10 : z_10 = G.1 b 1 := ez_10.trans (hF.i h_b (by decide) rfl _)
    refine lv_icmp_gt (tgt := 152) hx hb dX5_followAll_37 (by decide) (fun c_11 => ?_) (fun c_11 => ?_)
    · skip
      have tc_11 : z_10.toInt < x8_3.toInt := (fa_lt _ _).mp c_11
      exact ret_v hx hb hr hlocks ⟨⟨hS.1, hS.2.1⟩, G_8, hF, ⟨rfl, trivial⟩, hT⟩ hS.2.2 (Nat.le_of_ble_eq_true rfl) (Nat.le_of_ble_eq_true rfl) dX5_followAll_152
    · skip
      have tc_11 : ¬ z_10.toInt < x8_3.toInt := fun h => c_11 ((fa_lt _ _).mpr h)
      refine lv_aload_n hx hb dX5_followAll_40 rfl (lv_at hl 1 rfl) ?_
      refine t_getr cf_8 hx hb hts hown hK hT h_a (k := 6) (P := fun q => τ q = 35) rfl (fun _ h9 => h9) fl_X5_30 (fun _ h9 => h9) dX5_followAll_41 (fun q_12 eq_12 hq_12 => ?_)
      have eq_12 := (hF.r h_a (by decide) rfl _).symm.trans eq_12
      refine lv_lconst (v := 0) hx hb dX5_followAll_44 (by decide) ?_
      refine t_callv (runS (As := [.ref q_12, .long 0]) (rest := []) ⟨hx, hb, hml, hown, hts⟩ (t_J7_fill_d0a16_35 l D cy base τ G_8 q_12 hq_12 0) sS_X5_33 hK ⟨Nat.le_trans hZ hS.1, hT⟩ ⟨Nat.le_of_ble_eq_true rfl, Nat.le_of_ble_eq_true rfl⟩ rfl hl.1 rfl (Nat.le_of_ble_eq_true rfl) dX5_followAll_45 ⟨Nat.le_of_ble_eq_true rfl, Nat.le_of_ble_eq_true rfl⟩) hS (fun G_13 H locs hF_13 hr_13 hT hS => ?_)
      have hF := hF.tr hF_13 rfl
      refine lv_iconst (v := 0) hx hb dX5_followAll_48 (by decide) ?_
      refine lv_istore (lv' := [(4, .int 0), (3, .int x8_3), (0, .ref a), (1, .ref b), (2, .int v)]) hx hb dX5_followAll_49 hl (by decide) rfl (fun ls hl => ?_)
      refine W.loop (σ := Int32 × Gh) (fun w14 H locs ls => 0 ≤ w14.1.toInt ∧ w14.1.toInt ≤ 64 ∧ Fr τ [35] G w14.2 ∧ TY D cy base τ w14.2 H ∧ va_S (RA base) s.heap H locs ∧ lv_has ls 7 [(4, .int w14.1), (3, .int x8_3), (0, .ref a), (1, .ref b), (2, .int v)]) (fun w14 => (64 - w14.1.toInt).toNat) ?_ ((0 : Int32), G_13) _ _ _ ⟨(by show 0 ≤ (0 : Int32).toInt; decide), (by show (0 : Int32).toInt ≤ 64; decide), hF, hT, hS, lv_sub hl [0, 1, 2, 3, 4] rfl⟩
      intro w14 H locs ls hI ih14
      obtain ⟨x14_4, G_14⟩ := w14
      obtain ⟨i14_0, i14_1, hF, hT, hS, hl⟩ := hI
      have i14_0 : 0 ≤ x14_4.toInt := i14_0
      have i14_1 : x14_4.toInt ≤ 64 := i14_1
      have hF : Fr τ [35] G G_14 := hF
      have hT : TY D cy base τ G_14 H := hT
      have hS : va_S (RA base) s.heap H locs := hS
      have hl : lv_has ls 7 [(4, .int x14_4), (3, .int x8_3), (0, .ref a), (1, .ref b), (2, .int v)] := hl
      refine lv_iload hx hb dX5_followAll_51 (lv_at hl 0 rfl) ?_
      refine lv_bipush (v := 64) hx hb dX5_followAll_53 (by decide) ?_
      refine lv_icmp_ge (tgt := 131) hx hb dX5_followAll_55 (by decide) (fun c_15 => ?_) (fun c_15 => ?_)
      · skip
        have tc_15 : 64 ≤ x14_4.toInt := (fa_le _ _).mp c_15
        refine lv_aload_n hx hb dX5_followAll_131 rfl (lv_at hl 2 rfl) ?_
        refine t_getr cf_8 hx hb hts hown hK hT h_a (k := 6) (P := fun q => τ q = 35) rfl (fun _ h9 => h9) fl_X5_30 (fun _ h9 => h9) dX5_followAll_132 (fun q_16 eq_16 hq_16 => ?_)
        have w_17 : q_12 = q_16 := Option.some.inj (eq_12.symm.trans ((hF.r h_a (by decide) rfl _).symm.trans eq_16))
        subst w_17
        refine lv_iconst (v := 0) hx hb dX5_followAll_135 (by decide) ?_
        refine lv_aload_n hx hb dX5_followAll_136 rfl (lv_at hl 2 rfl) ?_
        refine t_getr cf_8 hx hb hts hown hK hT h_a (k := 4) (P := fun q => τ q = 35) rfl (fun _ h9 => h9) fl_X5_24 (fun _ h9 => h9) dX5_followAll_137 (fun q_18 eq_18 hq_18 => ?_)
        have w_19 : q_1 = q_18 := Option.some.inj (eq_1.symm.trans ((hF.r h_a (by decide) rfl _).symm.trans eq_18))
        subst w_19
        refine lv_iconst (v := 0) hx hb dX5_followAll_140 (by decide) ?_
        refine lv_bipush (v := 64) hx hb dX5_followAll_141 (by decide) ?_
        refine t_copyl (n0 := 64) (n1 := 64) (sp := 0) (dp := 0) (n := 64) rfl (by decide) rfl (by decide) hx hb (by rw [hml]; exact hl.1.symm) hown (hts _ ml_X5_86) hts hK hT hS hq_12 hq_1 (hT.len hq_12 (by decide)) (hT.len hq_1 (by decide)) (by decide) (by decide) (by decide) (by decide) (by decide) (Nat.le_of_ble_eq_true rfl) (Nat.le_of_ble_eq_true rfl) dX5_followAll_143 (fun H locs G_20 f_21 eG_20 hT hS => ?_)
        have hF := hF.wLA eG_20 hq_1 rfl
        obtain ⟨z_22, ez_22⟩ : ∃ y : Int32, y = x8_3 + 1 := ⟨_, rfl⟩
        have tz_22 : z_22.toInt = x8_3.toInt + 1 := add_t ez_22 (show -2147483648 ≤ x8_3.toInt + 1 by omega) (show x8_3.toInt + 1 < 2147483648 by omega)
        refine lv_iinc (v := z_22) (lv' := [(3, .int z_22), (4, .int x14_4), (0, .ref a), (1, .ref b), (2, .int v)]) hx hb dX5_followAll_146 hl (k := 1) rfl (by rw [ez_22]; rfl) (by decide) rfl (fun ls hl => ?_)
        refine lv_goto (tgt := 27) hx hb dX5_followAll_149 (by decide) ?_
        exact ih8 (z_22, G_20) _ _ _ (by show (61 - z_22.toInt).toNat < (61 - x8_3.toInt).toNat; omega) ⟨(by show 1 ≤ z_22.toInt; omega), (by show z_22.toInt ≤ 61; omega), hF, hT, hS, lv_sub hl [0, 2, 3, 4] rfl⟩
      · skip
        have tc_15 : ¬ 64 ≤ x14_4.toInt := fun h => c_15 ((fa_le _ _).mpr h)
        refine lv_iload hx hb dX5_followAll_58 (lv_at hl 0 rfl) ?_
        refine lv_iconst (v := 1) hx hb dX5_followAll_60 (by decide) ?_
        refine lv_aload_n hx hb dX5_followAll_61 rfl (lv_at hl 3 rfl) ?_
        refine t_geti cf_7 hx hb hts hown hK hT h_b (k := 6) rfl fl_X5_79 (fun _ h9 => h9) dX5_followAll_62 (fun z_23 ez_23 rz_23 => ?_)
        have ez_23 : z_23 = G_14.1 b 6 := ez_23
        have rz_23 : 0 ≤ z_23.toInt ∧ z_23.toInt ≤ 6 := rz_23
        have ez_23 : z_23 = G.1 b 6 := ez_23.trans (hF.i h_b (by decide) rfl _)
        refine lv_ishl hx hb dX5_followAll_65 ?_
        refine lv_topi (fun z_24 ez_24 => ?_)
        have tz_24 : 1 ≤ z_24.toInt ∧ z_24.toInt ≤ 64 := shl6_t ez_24 (by omega) (by omega)
        refine lv_icmp_ge (tgt := 131) hx hb dX5_followAll_66 (by decide) (fun c_25 => ?_) (fun c_25 => ?_)
        · skip
          have tc_25 : z_24.toInt ≤ x14_4.toInt := (fa_le _ _).mp c_25
          refine lv_aload_n hx hb dX5_followAll_131 rfl (lv_at hl 2 rfl) ?_
          refine t_getr cf_8 hx hb hts hown hK hT h_a (k := 6) (P := fun q => τ q = 35) rfl (fun _ h9 => h9) fl_X5_30 (fun _ h9 => h9) dX5_followAll_132 (fun q_26 eq_26 hq_26 => ?_)
          have w_27 : q_12 = q_26 := Option.some.inj (eq_12.symm.trans ((hF.r h_a (by decide) rfl _).symm.trans eq_26))
          subst w_27
          refine lv_iconst (v := 0) hx hb dX5_followAll_135 (by decide) ?_
          refine lv_aload_n hx hb dX5_followAll_136 rfl (lv_at hl 2 rfl) ?_
          refine t_getr cf_8 hx hb hts hown hK hT h_a (k := 4) (P := fun q => τ q = 35) rfl (fun _ h9 => h9) fl_X5_24 (fun _ h9 => h9) dX5_followAll_137 (fun q_28 eq_28 hq_28 => ?_)
          have w_29 : q_1 = q_28 := Option.some.inj (eq_1.symm.trans ((hF.r h_a (by decide) rfl _).symm.trans eq_28))
          subst w_29
          refine lv_iconst (v := 0) hx hb dX5_followAll_140 (by decide) ?_
          refine lv_bipush (v := 64) hx hb dX5_followAll_141 (by decide) ?_
          refine t_copyl (n0 := 64) (n1 := 64) (sp := 0) (dp := 0) (n := 64) rfl (by decide) rfl (by decide) hx hb (by rw [hml]; exact hl.1.symm) hown (hts _ ml_X5_86) hts hK hT hS hq_12 hq_1 (hT.len hq_12 (by decide)) (hT.len hq_1 (by decide)) (by decide) (by decide) (by decide) (by decide) (by decide) (Nat.le_of_ble_eq_true rfl) (Nat.le_of_ble_eq_true rfl) dX5_followAll_143 (fun H locs G_30 f_31 eG_30 hT hS => ?_)
          have hF := hF.wLA eG_30 hq_1 rfl
          obtain ⟨z_32, ez_32⟩ : ∃ y : Int32, y = x8_3 + 1 := ⟨_, rfl⟩
          have tz_32 : z_32.toInt = x8_3.toInt + 1 := add_t ez_32 (show -2147483648 ≤ x8_3.toInt + 1 by omega) (show x8_3.toInt + 1 < 2147483648 by omega)
          refine lv_iinc (v := z_32) (lv' := [(3, .int z_32), (4, .int x14_4), (0, .ref a), (1, .ref b), (2, .int v)]) hx hb dX5_followAll_146 hl (k := 1) rfl (by rw [ez_32]; rfl) (by decide) rfl (fun ls hl => ?_)
          refine lv_goto (tgt := 27) hx hb dX5_followAll_149 (by decide) ?_
          exact ih8 (z_32, G_30) _ _ _ (by show (61 - z_32.toInt).toNat < (61 - x8_3.toInt).toNat; omega) ⟨(by show 1 ≤ z_32.toInt; omega), (by show z_32.toInt ≤ 61; omega), hF, hT, hS, lv_sub hl [0, 2, 3, 4] rfl⟩
        · skip
          have tc_25 : ¬ z_24.toInt ≤ x14_4.toInt := fun h => c_25 ((fa_le _ _).mpr h)
          refine lv_aload_n hx hb dX5_followAll_69 rfl (lv_at hl 3 rfl) ?_
          refine lv_iload_n hx hb dX5_followAll_70 rfl (lv_at hl 1 rfl) ?_
          refine lv_aload_n hx hb dX5_followAll_71 rfl (lv_at hl 2 rfl) ?_
          refine t_getr cf_8 hx hb hts hown hK hT h_a (k := 4) (P := fun q => τ q = 35) rfl (fun _ h9 => h9) fl_X5_24 (fun _ h9 => h9) dX5_followAll_72 (fun q_33 eq_33 hq_33 => ?_)
          have w_34 : q_1 = q_33 := Option.some.inj (eq_1.symm.trans ((hF.r h_a (by decide) rfl _).symm.trans eq_33))
          subst w_34
          refine lv_iload hx hb dX5_followAll_75 (lv_at hl 0 rfl) ?_
          refine t_lald (n := 64) (i := x14_4) rfl (by decide) hx hb hK hT hq_1 (hT.len hq_1 (by decide)) ⟨by omega, by omega⟩ dX5_followAll_77 (fun z_35 ez_35 => ?_)
          refine lv_aload_n hx hb dX5_followAll_78 rfl (lv_at hl 2 rfl) ?_
          refine t_getr cf_8 hx hb hts hown hK hT h_a (k := 5) (P := fun q => τ q = 35) rfl (fun _ h9 => h9) fl_X5_27 (fun _ h9 => h9) dX5_followAll_79 (fun q_36 eq_36 hq_36 => ?_)
          have w_37 : q_3 = q_36 := Option.some.inj (eq_3.symm.trans ((hF.r h_a (by decide) rfl _).symm.trans eq_36))
          subst w_37
          refine lv_iload hx hb dX5_followAll_82 (lv_at hl 0 rfl) ?_
          refine t_lald (n := 64) (i := x14_4) rfl (by decide) hx hb hK hT hq_3 (hT.len hq_3 (by decide)) ⟨by omega, by omega⟩ dX5_followAll_84 (fun z_38 ez_38 => ?_)
          refine pu_calll (runS (As := [.ref b, .int x8_3, .long z_35, .long z_38]) (rest := []) ⟨hx, hb, hml, hown, hts⟩ (t_X5_snowing l D cy base τ G_14 b h_b x8_3 z_35 z_38) sS_X5_51 hK ⟨Nat.le_trans hZ hS.1, hT⟩ ⟨Nat.le_of_ble_eq_true rfl, Nat.le_of_ble_eq_true rfl⟩ rfl hl.1 rfl (Nat.le_of_ble_eq_true rfl) dX5_followAll_85 ⟨Nat.le_of_ble_eq_true rfl, Nat.le_of_ble_eq_true rfl⟩) (fun r_39 hr_39 => ?_)
          refine lv_lstore (lv' := [(5, .long r_39), (4, .int x14_4), (3, .int x8_3), (0, .ref a), (1, .ref b), (2, .int v)]) hx hb dX5_followAll_88 hl (by decide) rfl (fun ls hl => ?_)
          refine lv_aload_n hx hb dX5_followAll_90 rfl (lv_at hl 3 rfl) ?_
          refine t_getr cf_8 hx hb hts hown hK hT h_a (k := 5) (P := fun q => τ q = 35) rfl (fun _ h9 => h9) fl_X5_27 (fun _ h9 => h9) dX5_followAll_91 (fun q_40 eq_40 hq_40 => ?_)
          have w_41 : q_3 = q_40 := Option.some.inj (eq_3.symm.trans ((hF.r h_a (by decide) rfl _).symm.trans eq_40))
          subst w_41
          refine lv_iload hx hb dX5_followAll_94 (lv_at hl 1 rfl) ?_
          refine lv_aload_n hx hb dX5_followAll_96 rfl (lv_at hl 3 rfl) ?_
          refine t_getr cf_8 hx hb hts hown hK hT h_a (k := 4) (P := fun q => τ q = 35) rfl (fun _ h9 => h9) fl_X5_24 (fun _ h9 => h9) dX5_followAll_97 (fun q_42 eq_42 hq_42 => ?_)
          have w_43 : q_1 = q_42 := Option.some.inj (eq_1.symm.trans ((hF.r h_a (by decide) rfl _).symm.trans eq_42))
          subst w_43
          refine lv_iload hx hb dX5_followAll_100 (lv_at hl 1 rfl) ?_
          refine t_lald (n := 64) (i := x14_4) rfl (by decide) hx hb hK hT hq_1 (hT.len hq_1 (by decide)) ⟨by omega, by omega⟩ dX5_followAll_102 (fun z_44 ez_44 => ?_)
          refine lv_aload_n hx hb dX5_followAll_103 rfl (lv_at hl 3 rfl) ?_
          refine t_getr cf_8 hx hb hts hown hK hT h_a (k := 5) (P := fun q => τ q = 35) rfl (fun _ h9 => h9) fl_X5_27 (fun _ h9 => h9) dX5_followAll_104 (fun q_45 eq_45 hq_45 => ?_)
          have w_46 : q_3 = q_45 := Option.some.inj (eq_3.symm.trans ((hF.r h_a (by decide) rfl _).symm.trans eq_45))
          subst w_46
          refine lv_iload hx hb dX5_followAll_107 (lv_at hl 1 rfl) ?_
          refine t_lald (n := 64) (i := x14_4) rfl (by decide) hx hb hK hT hq_3 (hT.len hq_3 (by decide)) ⟨by omega, by omega⟩ dX5_followAll_109 (fun z_47 ez_47 => ?_)
          refine lv_ladd hx hb dX5_followAll_110 ?_
          refine lv_topl (fun z_48 ez_48 => ?_)
          refine lv_lload hx hb dX5_followAll_111 (lv_at hl 0 rfl) ?_
          refine lv_lsub hx hb dX5_followAll_113 ?_
          refine lv_topl (fun z_49 ez_49 => ?_)
          refine t_last (n := 64) (i := x14_4) (x := z_49) rfl (by decide) hx hb hK hT hS hq_3 (hT.len hq_3 (by decide)) ⟨by omega, by omega⟩ dX5_followAll_114 (fun H locs G_50 eG_50 hT hS => ?_)
          have hF := hF.wL eG_50 hq_3 rfl
          refine lv_aload_n hx hb dX5_followAll_115 rfl (lv_at hl 3 rfl) ?_
          refine lv_aload_n hx hb dX5_followAll_116 rfl (lv_at hl 4 rfl) ?_
          refine lv_iload hx hb dX5_followAll_117 (lv_at hl 1 rfl) ?_
          refine lv_iconst (v := 0) hx hb dX5_followAll_119 (by decide) ?_
          refine lv_lload hx hb dX5_followAll_120 (lv_at hl 0 rfl) ?_
          refine t_callv (runV (As := [.ref b, .int x14_4, .int 0, .long r_39]) (rest := []) ⟨hx, hb, hml, hown, hts⟩ (t_X5_splitFrom_0 l D cy base τ G_50 a h_a b h_b x14_4 r_39) sV_X5_82 hK (t_recv cf_8 hK hT h_a) ⟨Nat.le_trans hZ hS.1, hT⟩ ⟨Nat.le_of_ble_eq_true rfl, Nat.le_of_ble_eq_true rfl⟩ rfl hl.1 rfl (Nat.le_of_ble_eq_true rfl) dX5_followAll_122 ⟨Nat.le_of_ble_eq_true rfl, Nat.le_of_ble_eq_true rfl⟩) hS (fun G_51 H locs hF_51 hr_51 hT hS => ?_)
          have hF := hF.tr hF_51 rfl
          obtain ⟨z_52, ez_52⟩ : ∃ y : Int32, y = x14_4 + 1 := ⟨_, rfl⟩
          have tz_52 : z_52.toInt = x14_4.toInt + 1 := add_t ez_52 (show -2147483648 ≤ x14_4.toInt + 1 by omega) (show x14_4.toInt + 1 < 2147483648 by omega)
          refine lv_iinc (v := z_52) (lv' := [(4, .int z_52), (5, .long r_39), (3, .int x8_3), (0, .ref a), (1, .ref b), (2, .int v)]) hx hb dX5_followAll_125 hl (k := 1) rfl (by rw [ez_52]; rfl) (by decide) rfl (fun ls hl => ?_)
          refine lv_goto (tgt := 51) hx hb dX5_followAll_128 (by decide) ?_
          exact ih14 (z_52, G_51) _ _ _ (by show (64 - z_52.toInt).toNat < (64 - x14_4.toInt).toNat; omega) ⟨(by show 0 ≤ z_52.toInt; omega), (by show z_52.toInt ≤ 64; omega), hF, hT, hS, lv_sub hl [0, 2, 3, 4, 5] rfl⟩
