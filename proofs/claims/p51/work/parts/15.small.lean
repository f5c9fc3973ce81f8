theorem dX0_draw_0 : decode cX0_draw 0 = .ok (.aload_n 0, 1) := by decide +kernel
theorem dX0_draw_1 : decode cX0_draw 1 = .ok (.ldc2_w 40, 3) := by decide +kernel
theorem dX0_draw_4 : decode cX0_draw 4 = .ok (.aload_n 0, 1) := by decide +kernel
theorem dX0_draw_5 : decode cX0_draw 5 = .ok (.getfield 13, 3) := by decide +kernel
theorem dX0_draw_8 : decode cX0_draw 8 = .ok (.lmul, 1) := by decide +kernel
theorem dX0_draw_9 : decode cX0_draw 9 = .ok (.ldc2_w 42, 3) := by decide +kernel
theorem dX0_draw_12 : decode cX0_draw 12 = .ok (.ladd, 1) := by decide +kernel
theorem dX0_draw_13 : decode cX0_draw 13 = .ok (.ldc2_w 44, 3) := by decide +kernel
theorem dX0_draw_16 : decode cX0_draw 16 = .ok (.lrem, 1) := by decide +kernel
theorem dX0_draw_17 : decode cX0_draw 17 = .ok (.putfield 13, 3) := by decide +kernel
theorem dX0_draw_20 : decode cX0_draw 20 = .ok (.aload_n 0, 1) := by decide +kernel
theorem dX0_draw_21 : decode cX0_draw 21 = .ok (.getfield 13, 3) := by decide +kernel
theorem dX0_draw_24 : decode cX0_draw 24 = .ok (.ldc2_w 46, 3) := by decide +kernel
theorem dX0_draw_27 : decode cX0_draw 27 = .ok (.ldiv, 1) := by decide +kernel
theorem dX0_draw_28 : decode cX0_draw 28 = .ok (.ldc2_w 48, 3) := by decide +kernel
theorem dX0_draw_31 : decode cX0_draw 31 = .ok (.lrem, 1) := by decide +kernel
theorem dX0_draw_32 : decode cX0_draw 32 = .ok (.l2i, 1) := by decide +kernel
theorem dX0_draw_33 : decode cX0_draw 33 = .ok (.ireturn, 1) := by decide +kernel
theorem dX0_drawYear_0 : decode cX0_drawYear 0 = .ok (.aload_n 3, 1) := by decide +kernel
theorem dX0_drawYear_1 : decode cX0_drawYear 1 = .ok (.iconst 0, 1) := by decide +kernel
theorem dX0_drawYear_2 : decode cX0_drawYear 2 = .ok (.invokestatic 7, 3) := by decide +kernel
theorem dX0_drawYear_5 : decode cX0_drawYear 5 = .ok (.aload_n 0, 1) := by decide +kernel
theorem dX0_drawYear_6 : decode cX0_drawYear 6 = .ok (.iload_n 2, 1) := by decide +kernel
theorem dX0_drawYear_7 : decode cX0_drawYear 7 = .ok (.i2l, 1) := by decide +kernel
theorem dX0_drawYear_8 : decode cX0_drawYear 8 = .ok (.putfield 13, 3) := by decide +kernel
theorem dX0_drawYear_11 : decode cX0_drawYear 11 = .ok (.iconst 0, 1) := by decide +kernel
theorem dX0_drawYear_12 : decode cX0_drawYear 12 = .ok (.istore 4, 2) := by decide +kernel
theorem dX0_drawYear_14 : decode cX0_drawYear 14 = .ok (.iconst 1, 1) := by decide +kernel
theorem dX0_drawYear_15 : decode cX0_drawYear 15 = .ok (.istore 5, 2) := by decide +kernel
theorem dX0_drawYear_17 : decode cX0_drawYear 17 = .ok (.iload 5, 2) := by decide +kernel
theorem dX0_drawYear_19 : decode cX0_drawYear 19 = .ok (.aload_n 1, 1) := by decide +kernel
theorem dX0_drawYear_20 : decode cX0_drawYear 20 = .ok (.getfield 19, 3) := by decide +kernel
theorem dX0_drawYear_23 : decode cX0_drawYear 23 = .ok (.if_icmp .gt 88, 3) := by decide +kernel
theorem dX0_drawYear_111 : decode cX0_drawYear 111 = .ok (.return_, 1) := by decide +kernel
theorem dX0_drawYear_26 : decode cX0_drawYear 26 = .ok (.aload_n 0, 1) := by decide +kernel
theorem dX0_drawYear_27 : decode cX0_drawYear 27 = .ok (.invokevirtual 25, 3) := by decide +kernel
theorem dX0_drawYear_30 : decode cX0_drawYear 30 = .ok (.aload_n 1, 1) := by decide +kernel
theorem dX0_drawYear_31 : decode cX0_drawYear 31 = .ok (.iload 5, 2) := by decide +kernel
theorem dX0_drawYear_33 : decode cX0_drawYear 33 = .ok (.iload 4, 2) := by decide +kernel
theorem dX0_drawYear_35 : decode cX0_drawYear 35 = .ok (.invokevirtual 29, 3) := by decide +kernel
theorem dX0_drawYear_38 : decode cX0_drawYear 38 = .ok (.if_icmp .ge 7, 3) := by decide +kernel
theorem dX0_drawYear_45 : decode cX0_drawYear 45 = .ok (.iconst 0, 1) := by decide +kernel
theorem dX0_drawYear_46 : decode cX0_drawYear 46 = .ok (.istore 4, 2) := by decide +kernel
theorem dX0_drawYear_48 : decode cX0_drawYear 48 = .ok (.iconst 0, 1) := by decide +kernel
theorem dX0_drawYear_49 : decode cX0_drawYear 49 = .ok (.istore 6, 2) := by decide +kernel
theorem dX0_drawYear_51 : decode cX0_drawYear 51 = .ok (.iload 4, 2) := by decide +kernel
theorem dX0_drawYear_53 : decode cX0_drawYear 53 = .ok (.ifCond .eq 52, 3) := by decide +kernel
theorem dX0_drawYear_105 : decode cX0_drawYear 105 = .ok (.iinc 5 1, 3) := by decide +kernel
theorem dX0_drawYear_108 : decode cX0_drawYear 108 = .ok (.goto (-91), 3) := by decide +kernel
theorem dX0_drawYear_41 : decode cX0_drawYear 41 = .ok (.iconst 1, 1) := by decide +kernel
theorem dX0_drawYear_42 : decode cX0_drawYear 42 = .ok (.goto 4, 3) := by decide +kernel
theorem dX0_drawYear_56 : decode cX0_drawYear 56 = .ok (.iload 6, 2) := by decide +kernel
theorem dX0_drawYear_58 : decode cX0_drawYear 58 = .ok (.aload_n 1, 1) := by decide +kernel
theorem dX0_drawYear_59 : decode cX0_drawYear 59 = .ok (.getfield 33, 3) := by decide +kernel
theorem dX0_drawYear_62 : decode cX0_drawYear 62 = .ok (.if_icmp .ge 43, 3) := by decide +kernel
theorem dX0_drawYear_65 : decode cX0_drawYear 65 = .ok (.iload 6, 2) := by decide +kernel
theorem dX0_drawYear_67 : decode cX0_drawYear 67 = .ok (.aload_n 3, 1) := by decide +kernel
theorem dX0_drawYear_68 : decode cX0_drawYear 68 = .ok (.arraylength, 1) := by decide +kernel
theorem dX0_drawYear_69 : decode cX0_drawYear 69 = .ok (.if_icmp .ge 36, 3) := by decide +kernel
theorem dX0_drawYear_72 : decode cX0_drawYear 72 = .ok (.aload_n 3, 1) := by decide +kernel
theorem dX0_drawYear_73 : decode cX0_drawYear 73 = .ok (.iload 6, 2) := by decide +kernel
theorem dX0_drawYear_75 : decode cX0_drawYear 75 = .ok (.iaload, 1) := by decide +kernel
theorem dX0_drawYear_76 : decode cX0_drawYear 76 = .ok (.ifCond .ne 23, 3) := by decide +kernel
theorem dX0_drawYear_99 : decode cX0_drawYear 99 = .ok (.iinc 6 1, 3) := by decide +kernel
theorem dX0_drawYear_102 : decode cX0_drawYear 102 = .ok (.goto (-51), 3) := by decide +kernel
theorem dX0_drawYear_79 : decode cX0_drawYear 79 = .ok (.aload_n 0, 1) := by decide +kernel
theorem dX0_drawYear_80 : decode cX0_drawYear 80 = .ok (.invokevirtual 25, 3) := by decide +kernel
theorem dX0_drawYear_83 : decode cX0_drawYear 83 = .ok (.aload_n 1, 1) := by decide +kernel
theorem dX0_drawYear_84 : decode cX0_drawYear 84 = .ok (.getfield 36, 3) := by decide +kernel
theorem dX0_drawYear_87 : decode cX0_drawYear 87 = .ok (.iload 6, 2) := by decide +kernel
theorem dX0_drawYear_89 : decode cX0_drawYear 89 = .ok (.iaload, 1) := by decide +kernel
theorem dX0_drawYear_90 : decode cX0_drawYear 90 = .ok (.if_icmp .ge 9, 3) := by decide +kernel
theorem dX0_drawYear_93 : decode cX0_drawYear 93 = .ok (.aload_n 3, 1) := by decide +kernel
theorem dX0_drawYear_94 : decode cX0_drawYear 94 = .ok (.iload 6, 2) := by decide +kernel
theorem dX0_drawYear_96 : decode cX0_drawYear 96 = .ok (.iload 5, 2) := by decide +kernel
theorem dX0_drawYear_98 : decode cX0_drawYear 98 = .ok (.iastore, 1) := by decide +kernel
theorem dX6_narrowed_0 : decode cX6_narrowed 0 = .ok (.aload_n 0, 1) := by decide +kernel
theorem dX6_narrowed_1 : decode cX6_narrowed 1 = .ok (.getfield 7, 3) := by decide +kernel
theorem dX6_narrowed_4 : decode cX6_narrowed 4 = .ok (.tableswitch 42 0 2 #[28, 33, 38], 28) := by decide +kernel
theorem dX6_narrowed_46 : decode cX6_narrowed 46 = .ok (.lload_n 1, 1) := by decide +kernel
theorem dX6_narrowed_47 : decode cX6_narrowed 47 = .ok (.lreturn, 1) := by decide +kernel
theorem dX6_narrowed_32 : decode cX6_narrowed 32 = .ok (.lload_n 1, 1) := by decide +kernel
theorem dX6_narrowed_33 : decode cX6_narrowed 33 = .ok (.l2i, 1) := by decide +kernel
theorem dX6_narrowed_34 : decode cX6_narrowed 34 = .ok (.i2b, 1) := by decide +kernel
theorem dX6_narrowed_35 : decode cX6_narrowed 35 = .ok (.i2l, 1) := by decide +kernel
theorem dX6_narrowed_36 : decode cX6_narrowed 36 = .ok (.lreturn, 1) := by decide +kernel
theorem dX6_narrowed_37 : decode cX6_narrowed 37 = .ok (.lload_n 1, 1) := by decide +kernel
theorem dX6_narrowed_38 : decode cX6_narrowed 38 = .ok (.l2i, 1) := by decide +kernel
theorem dX6_narrowed_39 : decode cX6_narrowed 39 = .ok (.i2s, 1) := by decide +kernel
theorem dX6_narrowed_40 : decode cX6_narrowed 40 = .ok (.i2l, 1) := by decide +kernel
theorem dX6_narrowed_41 : decode cX6_narrowed 41 = .ok (.lreturn, 1) := by decide +kernel
theorem dX6_narrowed_42 : decode cX6_narrowed 42 = .ok (.lload_n 1, 1) := by decide +kernel
theorem dX6_narrowed_43 : decode cX6_narrowed 43 = .ok (.l2i, 1) := by decide +kernel
theorem dX6_narrowed_44 : decode cX6_narrowed 44 = .ok (.i2l, 1) := by decide +kernel
theorem dX6_narrowed_45 : decode cX6_narrowed 45 = .ok (.lreturn, 1) := by decide +kernel
theorem dX6_total_0 : decode cX6_total 0 = .ok (.lconst 0, 1) := by decide +kernel
theorem dX6_total_1 : decode cX6_total 1 = .ok (.lstore_n 1, 1) := by decide +kernel
theorem dX6_total_2 : decode cX6_total 2 = .ok (.iconst 0, 1) := by decide +kernel
theorem dX6_total_3 : decode cX6_total 3 = .ok (.istore_n 3, 1) := by decide +kernel
theorem dX6_total_4 : decode cX6_total 4 = .ok (.iload_n 3, 1) := by decide +kernel
theorem dX6_total_5 : decode cX6_total 5 = .ok (.aload_n 0, 1) := by decide +kernel
theorem dX6_total_6 : decode cX6_total 6 = .ok (.getfield 19, 3) := by decide +kernel
theorem dX6_total_9 : decode cX6_total 9 = .ok (.arraylength, 1) := by decide +kernel
theorem dX6_total_10 : decode cX6_total 10 = .ok (.if_icmp .ge 18, 3) := by decide +kernel
theorem dX6_total_28 : decode cX6_total 28 = .ok (.lload_n 1, 1) := by decide +kernel
theorem dX6_total_29 : decode cX6_total 29 = .ok (.lreturn, 1) := by decide +kernel
theorem dX6_total_13 : decode cX6_total 13 = .ok (.lload_n 1, 1) := by decide +kernel
theorem dX6_total_14 : decode cX6_total 14 = .ok (.aload_n 0, 1) := by decide +kernel
theorem dX6_total_15 : decode cX6_total 15 = .ok (.getfield 19, 3) := by decide +kernel
theorem dX6_total_18 : decode cX6_total 18 = .ok (.iload_n 3, 1) := by decide +kernel
theorem dX6_total_19 : decode cX6_total 19 = .ok (.laload, 1) := by decide +kernel
theorem dX6_total_20 : decode cX6_total 20 = .ok (.ladd, 1) := by decide +kernel
theorem dX6_total_21 : decode cX6_total 21 = .ok (.lstore_n 1, 1) := by decide +kernel
theorem dX6_total_22 : decode cX6_total 22 = .ok (.iinc 3 1, 3) := by decide +kernel
theorem dX6_total_25 : decode cX6_total 25 = .ok (.goto (-21), 3) := by decide +kernel
theorem dX6_within_0 : decode cX6_within 0 = .ok (.iconst 0, 1) := by decide +kernel
theorem dX6_within_1 : decode cX6_within 1 = .ok (.istore 5, 2) := by decide +kernel
theorem dX6_within_3 : decode cX6_within 3 = .ok (.iload 5, 2) := by decide +kernel
theorem dX6_within_5 : decode cX6_within 5 = .ok (.aload_n 0, 1) := by decide +kernel
theorem dX6_within_6 : decode cX6_within 6 = .ok (.getfield 19, 3) := by decide +kernel
theorem dX6_within_9 : decode cX6_within 9 = .ok (.arraylength, 1) := by decide +kernel
theorem dX6_within_10 : decode cX6_within 10 = .ok (.if_icmp .ge 35, 3) := by decide +kernel
theorem dX6_within_45 : decode cX6_within 45 = .ok (.iconst 1, 1) := by decide +kernel
theorem dX6_within_46 : decode cX6_within 46 = .ok (.ireturn, 1) := by decide +kernel
theorem dX6_within_13 : decode cX6_within 13 = .ok (.aload_n 0, 1) := by decide +kernel
theorem dX6_within_14 : decode cX6_within 14 = .ok (.getfield 19, 3) := by decide +kernel
theorem dX6_within_17 : decode cX6_within 17 = .ok (.iload 5, 2) := by decide +kernel
theorem dX6_within_19 : decode cX6_within 19 = .ok (.laload, 1) := by decide +kernel
theorem dX6_within_20 : decode cX6_within 20 = .ok (.lload_n 1, 1) := by decide +kernel
theorem dX6_within_21 : decode cX6_within 21 = .ok (.lcmp, 1) := by decide +kernel
theorem dX6_within_22 : decode cX6_within 22 = .ok (.ifCond .lt 15, 3) := by decide +kernel
theorem dX6_within_37 : decode cX6_within 37 = .ok (.iconst 0, 1) := by decide +kernel
theorem dX6_within_38 : decode cX6_within 38 = .ok (.ireturn, 1) := by decide +kernel
theorem dX6_within_25 : decode cX6_within 25 = .ok (.aload_n 0, 1) := by decide +kernel
theorem dX6_within_26 : decode cX6_within 26 = .ok (.getfield 19, 3) := by decide +kernel
theorem dX6_within_29 : decode cX6_within 29 = .ok (.iload 5, 2) := by decide +kernel
theorem dX6_within_31 : decode cX6_within 31 = .ok (.laload, 1) := by decide +kernel
theorem dX6_within_32 : decode cX6_within 32 = .ok (.lload_n 3, 1) := by decide +kernel
theorem dX6_within_33 : decode cX6_within 33 = .ok (.lcmp, 1) := by decide +kernel
theorem dX6_within_34 : decode cX6_within 34 = .ok (.ifCond .le 5, 3) := by decide +kernel
theorem dX6_within_39 : decode cX6_within 39 = .ok (.iinc 5 1, 3) := by decide +kernel
theorem dX6_within_42 : decode cX6_within 42 = .ok (.goto (-39), 3) := by decide +kernel
theorem dX6_has_0 : decode cX6_has 0 = .ok (.iload_n 1, 1) := by decide +kernel
theorem dX6_has_1 : decode cX6_has 1 = .ok (.ifCond .lt 31, 3) := by decide +kernel
theorem dX6_has_32 : decode cX6_has 32 = .ok (.iconst 0, 1) := by decide +kernel
theorem dX6_has_33 : decode cX6_has 33 = .ok (.ireturn, 1) := by decide +kernel
theorem dX6_has_4 : decode cX6_has 4 = .ok (.iload_n 2, 1) := by decide +kernel
theorem dX6_has_5 : decode cX6_has 5 = .ok (.ifCond .lt 27, 3) := by decide +kernel
theorem dX6_has_8 : decode cX6_has 8 = .ok (.iload_n 1, 1) := by decide +kernel
theorem dX6_has_9 : decode cX6_has 9 = .ok (.aload_n 0, 1) := by decide +kernel
theorem dX6_has_10 : decode cX6_has 10 = .ok (.getfield 19, 3) := by decide +kernel
theorem dX6_has_13 : decode cX6_has 13 = .ok (.arraylength, 1) := by decide +kernel
theorem dX6_has_14 : decode cX6_has 14 = .ok (.if_icmp .gt 18, 3) := by decide +kernel
theorem dX6_has_17 : decode cX6_has 17 = .ok (.iload_n 2, 1) := by decide +kernel
theorem dX6_has_18 : decode cX6_has 18 = .ok (.aload_n 0, 1) := by decide +kernel
theorem dX6_has_19 : decode cX6_has 19 = .ok (.getfield 19, 3) := by decide +kernel
theorem dX6_has_22 : decode cX6_has 22 = .ok (.arraylength, 1) := by decide +kernel
theorem dX6_has_23 : decode cX6_has 23 = .ok (.iload_n 1, 1) := by decide +kernel
theorem dX6_has_24 : decode cX6_has 24 = .ok (.isub, 1) := by decide +kernel
theorem dX6_has_25 : decode cX6_has 25 = .ok (.if_icmp .gt 7, 3) := by decide +kernel
theorem dX6_has_28 : decode cX6_has 28 = .ok (.iconst 1, 1) := by decide +kernel
theorem dX6_has_29 : decode cX6_has 29 = .ok (.goto 4, 3) := by decide +kernel
theorem sS_X0_7 : SiteS RX0 7 yJ7_fill_53178 cJ7_fill_53178 4 none 2 := ⟨ml_X0_7, st_J7_fill_53178, ini_J7, co_J7_fill_53178, by decide +kernel⟩
theorem sV_X0_25 : SiteV RX0 25 yX0_draw cX0_draw 1 (some .int) 0 := ⟨ml_X0_25, im_X0_draw, se_X0_draw, ini_X0, co_X0_draw, by decide +kernel⟩
theorem sV_X0_29 : SiteV RX0 29 yX2_chance cX2_chance 3 (some .int) 2 := ⟨ml_X0_29, im_X2_chance, se_X2_chance, ini_X2, co_X2_chance, by decide +kernel⟩
set_option maxHeartbeats 4000000 in
set_option maxRecDepth 100000 in
theorem t_X0_draw (l : Launch) (D : va_G) (cy : Nat → ClassId) (base : Nat) (τ : Nat → Nat) (G : Gh) (a : Nat) (h_a : τ a = 6) : MM l yX0_draw cX0_draw 1 (some .int) 0 0 0 D cy [.ref a] (PT D cy base τ G) (QT D cy base τ G [6] (fun v g => ∃ r : Int32, v = some (.int r) ∧ (True))) (RA base) := by
  refine MM.of (by decide) (Nat.le_of_ble_eq_true rfl) ?_
  intro p e s m below meth c C hPT ls hl
  obtain ⟨hx, hb, hr, hml, hown, hts, hlocks, hK, hnm⟩ := C
  obtain ⟨hZ, hT⟩ := hPT
  have hS : va_S (RA base) s.heap s.heap [] := va_S.rf
  have hF : Fr τ [6] G G := Fr.rf
  have hl : lv_has ls 1 [(0, .ref a)] := hl
  refine lv_aload_n hx hb dX0_draw_0 rfl (lv_at hl 0 rfl) ?_
  refine lv_ldc2 (v := 1103515245) hx hb hown (hts _ kl_X0_40) dX0_draw_1 ?_
  refine lv_aload_n hx hb dX0_draw_4 rfl (lv_at hl 0 rfl) ?_
  refine t_getl cf_6 hx hb hts hown hK hT h_a (k := 0) rfl fl_X0_13 (fun _ h9 => h9) dX0_draw_5 (fun z_1 ez_1 => ?_)
  refine lv_lmul hx hb dX0_draw_8 ?_
  refine lv_topl (fun z_2 ez_2 => ?_)
  refine lv_ldc2 (v := 12345) hx hb hown (hts _ kl_X0_42) dX0_draw_9 ?_
  refine lv_ladd hx hb dX0_draw_12 ?_
  refine lv_topl (fun z_3 ez_3 => ?_)
  refine lv_ldc2 (v := 2147483648) hx hb hown (hts _ kl_X0_44) dX0_draw_13 ?_
  refine lv_lrem hx hb dX0_draw_16 (by decide) ?_
  refine lv_topl (fun z_4 ez_4 => ?_)
  refine t_putl (x := z_4) cf_6 hx hb hts hown hK hT hS h_a (k := 0) rfl fl_X0_13 (fun _ h9 => h9) rfl rfl rfl dX0_draw_17 (fun H locs G_5 eG_5 hT hS => ?_)
  have hF := hF.wL eG_5 h_a rfl
  refine lv_aload_n hx hb dX0_draw_20 rfl (lv_at hl 0 rfl) ?_
  refine t_getl cf_6 hx hb hts hown hK hT h_a (k := 0) rfl fl_X0_13 (fun _ h9 => h9) dX0_draw_21 (fun z_6 ez_6 => ?_)
  refine lv_ldc2 (v := 65536) hx hb hown (hts _ kl_X0_46) dX0_draw_24 ?_
  refine lv_ldiv hx hb dX0_draw_27 (by decide) ?_
  refine lv_topl (fun z_7 ez_7 => ?_)
  refine lv_ldc2 (v := 100) hx hb hown (hts _ kl_X0_48) dX0_draw_28 ?_
  refine lv_lrem hx hb dX0_draw_31 (by decide) ?_
  refine lv_topl (fun z_8 ez_8 => ?_)
  refine lv_l2i hx hb dX0_draw_32 rfl ?_
  refine lv_topi (fun z_9 ez_9 => ?_)
  exact ret_i hx hb hr hlocks ⟨⟨hS.1, hS.2.1⟩, G_5, hF, ⟨_, rfl, trivial⟩, hT⟩ hS.2.2 (Nat.le_of_ble_eq_true rfl) (Nat.le_of_ble_eq_true rfl) dX0_draw_33
set_option maxHeartbeats 4000000 in
set_option maxRecDepth 100000 in
theorem t_X0_drawYear (l : Launch) (D : va_G) (cy : Nat → ClassId) (base : Nat) (τ : Nat → Nat) (G : Gh) (a : Nat) (h_a : τ a = 6) (b : Nat) (h_b : τ b = 7) (v : Int32) (d : Nat) (h_d : τ d = 25) : MM l yX0_drawYear cX0_drawYear 7 none 1 0 0 D cy [.ref a, .ref b, .int v, .ref d] (PT D cy base τ G) (QT D cy base τ G [6, 25] (fun v g => v = none ∧ (True))) (RA base) := by
  refine MM.of (by decide) (Nat.le_of_ble_eq_true rfl) ?_
  intro p e s m below meth c C hPT ls hl
  obtain ⟨hx, hb, hr, hml, hown, hts, hlocks, hK, hnm⟩ := C
  obtain ⟨hZ, hT⟩ := hPT
  have hS : va_S (RA base) s.heap s.heap [] := va_S.rf
  have hF : Fr τ [6, 25] G G := Fr.rf
  have hl : lv_has ls 7 [(0, .ref a), (1, .ref b), (2, .int v), (3, .ref d)] := hl
  refine lv_aload_n hx hb dX0_drawYear_0 rfl (lv_at hl 3 rfl) ?_
  refine lv_iconst (v := 0) hx hb dX0_drawYear_1 (by decide) ?_
  refine t_callv (runS (As := [.ref d, .int 0]) (rest := []) ⟨hx, hb, hml, hown, hts⟩ (t_J7_fill_53178_25 l D cy base τ G d h_d) sS_X0_7 hK ⟨Nat.le_trans hZ hS.1, hT⟩ ⟨Nat.le_of_ble_eq_true rfl, Nat.le_of_ble_eq_true rfl⟩ rfl hl.1 rfl (Nat.le_of_ble_eq_true rfl) dX0_drawYear_2 ⟨Nat.le_of_ble_eq_true rfl, Nat.le_of_ble_eq_true rfl⟩) hS (fun G_1 H locs hF_1 hr_1 hT hS => ?_)
  have hF := hF.tr hF_1 rfl
  refine lv_aload_n hx hb dX0_drawYear_5 rfl (lv_at hl 0 rfl) ?_
  refine lv_iload_n hx hb dX0_drawYear_6 rfl (lv_at hl 2 rfl) ?_
  refine lv_i2l hx hb dX0_drawYear_7 rfl ?_
  refine lv_topl (fun z_2 ez_2 => ?_)
  have tz_2 : z_2.toInt = v.toInt := by rw [ez_2]; exact wide_t v
  have az_2 := min_t v
  have bz_2 := max_t v
  refine t_putl (x := z_2) cf_6 hx hb hts hown hK hT hS h_a (k := 0) rfl fl_X0_13 (fun _ h9 => h9) rfl rfl rfl dX0_drawYear_8 (fun H locs G_3 eG_3 hT hS => ?_)
  have hF := hF.wL eG_3 h_a rfl
  refine lv_iconst (v := 0) hx hb dX0_drawYear_11 (by decide) ?_
  refine lv_istore (lv' := [(4, .int 0), (0, .ref a), (1, .ref b), (2, .int v), (3, .ref d)]) hx hb dX0_drawYear_12 hl (by decide) rfl (fun ls hl => ?_)
  refine lv_iconst (v := 1) hx hb dX0_drawYear_14 (by decide) ?_
  refine lv_istore (lv' := [(5, .int 1), (4, .int 0), (0, .ref a), (1, .ref b), (2, .int v), (3, .ref d)]) hx hb dX0_drawYear_15 hl (by decide) rfl (fun ls hl => ?_)
  refine W.loop (σ := Int32 × Int32 × Gh) (fun w4 H locs ls => 1 ≤ w4.2.1.toInt ∧ w4.2.1.toInt ≤ 61 ∧ Fr τ [6, 25] G w4.2.2 ∧ TY D cy base τ w4.2.2 H ∧ va_S (RA base) s.heap H locs ∧ lv_has ls 7 [(4, .int w4.1), (5, .int w4.2.1), (0, .ref a), (1, .ref b), (2, .int v), (3, .ref d)]) (fun w4 => (61 - w4.2.1.toInt).toNat) ?_ ((0 : Int32), (1 : Int32), G_3) _ _ _ ⟨(by show 1 ≤ (1 : Int32).toInt; decide), (by show (1 : Int32).toInt ≤ 61; decide), hF, hT, hS, lv_sub hl [1, 0, 2, 3, 4, 5] rfl⟩
  intro w4 H locs ls hI ih4
  obtain ⟨x4_4, x4_5, G_4⟩ := w4
  obtain ⟨i4_0, i4_1, hF, hT, hS, hl⟩ := hI
  have i4_0 : 1 ≤ x4_5.toInt := i4_0
  have i4_1 : x4_5.toInt ≤ 61 := i4_1
  have hF : Fr τ [6, 25] G G_4 := hF
  have hT : TY D cy base τ G_4 H := hT
  have hS : va_S (RA base) s.heap H locs := hS
  have hl : lv_has ls 7 [(4, .int x4_4), (5, .int x4_5), (0, .ref a), (1, .ref b), (2, .int v), (3, .ref d)] := hl
  refine lv_iload hx hb dX0_drawYear_17 (lv_at hl 1 rfl) ?_
  refine lv_aload_n hx hb dX0_drawYear_19 rfl (lv_at hl 3 rfl) ?_
  refine t_geti cf_7 hx hb hts hown hK hT h_b (k := 1) rfl fl_X0_19 (fun _ h9 => h9) dX0_drawYear_20 (fun z_5 ez_5 rz_5 => ?_)
  have ez_5 : z_5 = G_4.1 b 1 := ez_5
  have rz_5 : 0 ≤ z_5.toInt ∧ z_5.toInt ≤ 60 := rz_5
  have ez_5 : z_5 = G.1 b 1 := ez_5.trans (hF.i h_b (by decide) rfl _)
  refine lv_icmp_gt (tgt := 111) hx hb dX0_drawYear_23 (by decide) (fun c_6 => ?_) (fun c_6 => ?_)
  · skip
    have tc_6 : z_5.toInt < x4_5.toInt := (fa_lt _ _).mp c_6
    exact ret_v hx hb hr hlocks ⟨⟨hS.1, hS.2.1⟩, G_4, hF, ⟨rfl, trivial⟩, hT⟩ hS.2.2 (Nat.le_of_ble_eq_true rfl) (Nat.le_of_ble_eq_true rfl) dX0_drawYear_111
  · skip
    have tc_6 : ¬ z_5.toInt < x4_5.toInt := fun h => c_6 ((fa_lt _ _).mpr h)
    refine lv_aload_n hx hb dX0_drawYear_26 rfl (lv_at hl 2 rfl) ?_
    refine t_calli (runV (As := []) (rest := []) ⟨hx, hb, hml, hown, hts⟩ (t_X0_draw l D cy base τ G_4 a h_a) sV_X0_25 hK (t_recv cf_6 hK hT h_a) ⟨Nat.le_trans hZ hS.1, hT⟩ ⟨Nat.le_of_ble_eq_true rfl, Nat.le_of_ble_eq_true rfl⟩ rfl hl.1 rfl (Nat.le_of_ble_eq_true rfl) dX0_drawYear_27 ⟨Nat.le_of_ble_eq_true rfl, Nat.le_of_ble_eq_true rfl⟩) hS (fun r_7 G_7 H locs hF_7 hr_7 hT hS => ?_)
    have hF := hF.tr hF_7 rfl
    refine lv_aload_n hx hb dX0_drawYear_30 rfl (lv_at hl 3 rfl) ?_
    refine lv_iload hx hb dX0_drawYear_31 (lv_at hl 1 rfl) ?_
    refine lv_iload hx hb dX0_drawYear_33 (lv_at hl 0 rfl) ?_
    refine pu_calli (runV (As := [.int x4_5, .int x4_4]) (rest := [.int r_7]) ⟨hx, hb, hml, hown, hts⟩ (t_X2_chance l D cy base τ G_7 b h_b x4_5 x4_4) sV_X0_29 hK (t_recv cf_7 hK hT h_b) ⟨Nat.le_trans hZ hS.1, hT⟩ ⟨Nat.le_of_ble_eq_true rfl, Nat.le_of_ble_eq_true rfl⟩ rfl hl.1 rfl (Nat.le_of_ble_eq_true rfl) dX0_drawYear_35 ⟨Nat.le_of_ble_eq_true rfl, Nat.le_of_ble_eq_true rfl⟩) (fun r_8 hr_8 => ?_)
    refine lv_icmp_ge (tgt := 45) hx hb dX0_drawYear_38 (by decide) (fun c_9 => ?_) (fun c_9 => ?_)
    · skip
      have tc_9 : r_8.toInt ≤ r_7.toInt := (fa_le _ _).mp c_9
      refine lv_iconst (v := 0) hx hb dX0_drawYear_45 (by decide) ?_
      refine lv_istore (lv' := [(4, .int 0), (5, .int x4_5), (0, .ref a), (1, .ref b), (2, .int v), (3, .ref d)]) hx hb dX0_drawYear_46 hl (by decide) rfl (fun ls hl => ?_)
      refine lv_iconst (v := 0) hx hb dX0_drawYear_48 (by decide) ?_
      refine lv_istore (lv' := [(6, .int 0), (4, .int 0), (5, .int x4_5), (0, .ref a), (1, .ref b), (2, .int v), (3, .ref d)]) hx hb dX0_drawYear_49 hl (by decide) rfl (fun ls hl => ?_)
      refine W.loop (σ := Int32 × Gh) (fun w10 H locs ls => 0 ≤ w10.1.toInt ∧ w10.1.toInt ≤ 6 ∧ Fr τ [6, 25] G w10.2 ∧ TY D cy base τ w10.2 H ∧ va_S (RA base) s.heap H locs ∧ lv_has ls 7 [(6, .int w10.1), (4, .int 0), (5, .int x4_5), (0, .ref a), (1, .ref b), (2, .int v), (3, .ref d)]) (fun w10 => (6 - w10.1.toInt).toNat) ?_ ((0 : Int32), G_7) _ _ _ ⟨(by show 0 ≤ (0 : Int32).toInt; decide), (by show (0 : Int32).toInt ≤ 6; decide), hF, hT, hS, lv_sub hl [0, 1, 2, 3, 4, 5, 6] rfl⟩
      intro w10 H locs ls hI ih10
      obtain ⟨x10_6, G_10⟩ := w10
      obtain ⟨i10_0, i10_1, hF, hT, hS, hl⟩ := hI
      have i10_0 : 0 ≤ x10_6.toInt := i10_0
      have i10_1 : x10_6.toInt ≤ 6 := i10_1
      have hF : Fr τ [6, 25] G G_10 := hF
      have hT : TY D cy base τ G_10 H := hT
      have hS : va_S (RA base) s.heap H locs := hS
      have hl : lv_has ls 7 [(6, .int x10_6), (4, .int 0), (5, .int x4_5), (0, .ref a), (1, .ref b), (2, .int v), (3, .ref d)] := hl
      refine lv_iload hx hb dX0_drawYear_51 (lv_at hl 1 rfl) ?_
      refine lv_if_eq (tgt := 105) hx hb dX0_drawYear_53 (by decide) (fun _ => ?_) (fun c_11 => absurd (by decide) c_11)
      obtain ⟨z_12, ez_12⟩ : ∃ y : Int32, y = x4_5 + 1 := ⟨_, rfl⟩
      have tz_12 : z_12.toInt = x4_5.toInt + 1 := add_t ez_12 (show -2147483648 ≤ x4_5.toInt + 1 by omega) (show x4_5.toInt + 1 < 2147483648 by omega)
      refine lv_iinc (v := z_12) (lv' := [(5, .int z_12), (6, .int x10_6), (4, .int 0), (0, .ref a), (1, .ref b), (2, .int v), (3, .ref d)]) hx hb dX0_drawYear_105 hl (k := 2) rfl (by rw [ez_12]; rfl) (by decide) rfl (fun ls hl => ?_)
      refine lv_goto (tgt := 17) hx hb dX0_drawYear_108 (by decide) ?_
      exact ih4 ((0 : Int32), z_12, G_10) _ _ _ (by show (61 - z_12.toInt).toNat < (61 - x4_5.toInt).toNat; omega) ⟨(by show 1 ≤ z_12.toInt; omega), (by show z_12.toInt ≤ 61; omega), hF, hT, hS, lv_sub hl [2, 0, 3, 4, 5, 6] rfl⟩
    · skip
      have tc_9 : ¬ r_8.toInt ≤ r_7.toInt := fun h => c_9 ((fa_le _ _).mpr h)
      have mc_9 : r_8.toInt ≤ 2147483647 := max_t r_8
      refine lv_iconst (v := 1) hx hb dX0_drawYear_41 (by decide) ?_
      refine lv_goto (tgt := 46) hx hb dX0_drawYear_42 (by decide) ?_
      refine lv_istore (lv' := [(4, .int 1), (5, .int x4_5), (0, .ref a), (1, .ref b), (2, .int v), (3, .ref d)]) hx hb dX0_drawYear_46 hl (by decide) rfl (fun ls hl => ?_)
      refine lv_iconst (v := 0) hx hb dX0_drawYear_48 (by decide) ?_
      refine lv_istore (lv' := [(6, .int 0), (4, .int 1), (5, .int x4_5), (0, .ref a), (1, .ref b), (2, .int v), (3, .ref d)]) hx hb dX0_drawYear_49 hl (by decide) rfl (fun ls hl => ?_)
      refine W.loop (σ := Int32 × Gh) (fun w13 H locs ls => 0 ≤ w13.1.toInt ∧ w13.1.toInt ≤ 6 ∧ Fr τ [6, 25] G w13.2 ∧ TY D cy base τ w13.2 H ∧ va_S (RA base) s.heap H locs ∧ lv_has ls 7 [(6, .int w13.1), (4, .int 1), (5, .int x4_5), (0, .ref a), (1, .ref b), (2, .int v), (3, .ref d)]) (fun w13 => (6 - w13.1.toInt).toNat) ?_ ((0 : Int32), G_7) _ _ _ ⟨(by show 0 ≤ (0 : Int32).toInt; decide), (by show (0 : Int32).toInt ≤ 6; decide), hF, hT, hS, lv_sub hl [0, 1, 2, 3, 4, 5, 6] rfl⟩
      intro w13 H locs ls hI ih13
      obtain ⟨x13_6, G_13⟩ := w13
      obtain ⟨i13_0, i13_1, hF, hT, hS, hl⟩ := hI
      have i13_0 : 0 ≤ x13_6.toInt := i13_0
      have i13_1 : x13_6.toInt ≤ 6 := i13_1
      have hF : Fr τ [6, 25] G G_13 := hF
      have hT : TY D cy base τ G_13 H := hT
      have hS : va_S (RA base) s.heap H locs := hS
      have hl : lv_has ls 7 [(6, .int x13_6), (4, .int 1), (5, .int x4_5), (0, .ref a), (1, .ref b), (2, .int v), (3, .ref d)] := hl
      refine lv_iload hx hb dX0_drawYear_51 (lv_at hl 1 rfl) ?_
      refine lv_if_eq (tgt := 105) hx hb dX0_drawYear_53 (by decide) (fun c_14 => absurd c_14 (by decide)) (fun _ => ?_)
      refine lv_iload hx hb dX0_drawYear_56 (lv_at hl 0 rfl) ?_
      refine lv_aload_n hx hb dX0_drawYear_58 rfl (lv_at hl 4 rfl) ?_
      refine t_geti cf_7 hx hb hts hown hK hT h_b (k := 6) rfl fl_X0_33 (fun _ h9 => h9) dX0_drawYear_59 (fun z_15 ez_15 rz_15 => ?_)
      have ez_15 : z_15 = G_13.1 b 6 := ez_15
      have rz_15 : 0 ≤ z_15.toInt ∧ z_15.toInt ≤ 6 := rz_15
      have ez_15 : z_15 = G.1 b 6 := ez_15.trans (hF.i h_b (by decide) rfl _)
      refine lv_icmp_ge (tgt := 105) hx hb dX0_drawYear_62 (by decide) (fun c_16 => ?_) (fun c_16 => ?_)
      · skip
        have tc_16 : z_15.toInt ≤ x13_6.toInt := (fa_le _ _).mp c_16
        obtain ⟨z_17, ez_17⟩ : ∃ y : Int32, y = x4_5 + 1 := ⟨_, rfl⟩
        have tz_17 : z_17.toInt = x4_5.toInt + 1 := add_t ez_17 (show -2147483648 ≤ x4_5.toInt + 1 by omega) (show x4_5.toInt + 1 < 2147483648 by omega)
        refine lv_iinc (v := z_17) (lv' := [(5, .int z_17), (6, .int x13_6), (4, .int 1), (0, .ref a), (1, .ref b), (2, .int v), (3, .ref d)]) hx hb dX0_drawYear_105 hl (k := 2) rfl (by rw [ez_17]; rfl) (by decide) rfl (fun ls hl => ?_)
        refine lv_goto (tgt := 17) hx hb dX0_drawYear_108 (by decide) ?_
        exact ih4 ((1 : Int32), z_17, G_13) _ _ _ (by show (61 - z_17.toInt).toNat < (61 - x4_5.toInt).toNat; omega) ⟨(by show 1 ≤ z_17.toInt; omega), (by show z_17.toInt ≤ 61; omega), hF, hT, hS, lv_sub hl [2, 0, 3, 4, 5, 6] rfl⟩
      · skip
        have tc_16 : ¬ z_15.toInt ≤ x13_6.toInt := fun h => c_16 ((fa_le _ _).mpr h)
        refine lv_iload hx hb dX0_drawYear_65 (lv_at hl 0 rfl) ?_
        refine lv_aload_n hx hb dX0_drawYear_67 rfl (lv_at hl 6 rfl) ?_
        refine t_alen (v := 6) rfl (by decide) hx hb hK hT h_d rfl (by rw [show _ = 6 from (hT.len h_d (by decide))]; rfl) dX0_drawYear_68 ?_
        refine lv_icmp_ge (tgt := 105) hx hb dX0_drawYear_69 (by decide) (fun c_18 => ?_) (fun c_18 => ?_)
        · skip
          have tc_18 : 6 ≤ x13_6.toInt := (fa_le _ _).mp c_18
          exfalso; omega
        · skip
          have tc_18 : ¬ 6 ≤ x13_6.toInt := fun h => c_18 ((fa_le _ _).mpr h)
          refine lv_aload_n hx hb dX0_drawYear_72 rfl (lv_at hl 6 rfl) ?_
          refine lv_iload hx hb dX0_drawYear_73 (lv_at hl 0 rfl) ?_
          refine t_iald (n := 6) (i := x13_6) rfl (by decide) hx hb hK hT h_d (hT.len h_d (by decide)) ⟨by omega, by omega⟩ dX0_drawYear_75 (fun z_19 ez_19 rz_19 => ?_)
          refine lv_if_ne (tgt := 99) hx hb dX0_drawYear_76 (by decide) (fun c_20 => ?_) (fun c_20 => ?_)
          · skip
            have tc_20 : ¬ z_19.toInt = 0 := fun h => c_20 ((fa_eq _ _).mpr h)
            obtain ⟨z_21, ez_21⟩ : ∃ y : Int32, y = x13_6 + 1 := ⟨_, rfl⟩
            have tz_21 : z_21.toInt = x13_6.toInt + 1 := add_t ez_21 (show -2147483648 ≤ x13_6.toInt + 1 by omega) (show x13_6.toInt + 1 < 2147483648 by omega)
            refine lv_iinc (v := z_21) (lv' := [(6, .int z_21), (4, .int 1), (5, .int x4_5), (0, .ref a), (1, .ref b), (2, .int v), (3, .ref d)]) hx hb dX0_drawYear_99 hl (k := 0) rfl (by rw [ez_21]; rfl) (by decide) rfl (fun ls hl => ?_)
            refine lv_goto (tgt := 51) hx hb dX0_drawYear_102 (by decide) ?_
            exact ih13 (z_21, G_13) _ _ _ (by show (6 - z_21.toInt).toNat < (6 - x13_6.toInt).toNat; omega) ⟨(by show 0 ≤ z_21.toInt; omega), (by show z_21.toInt ≤ 6; omega), hF, hT, hS, lv_sub hl [0, 1, 2, 3, 4, 5, 6] rfl⟩
          · skip
            have tc_20 : z_19.toInt = 0 := (fa_eq _ _).mp c_20
            refine lv_aload_n hx hb dX0_drawYear_79 rfl (lv_at hl 3 rfl) ?_
            refine t_calli (runV (As := []) (rest := []) ⟨hx, hb, hml, hown, hts⟩ (t_X0_draw l D cy base τ G_13 a h_a) sV_X0_25 hK (t_recv cf_6 hK hT h_a) ⟨Nat.le_trans hZ hS.1, hT⟩ ⟨Nat.le_of_ble_eq_true rfl, Nat.le_of_ble_eq_true rfl⟩ rfl hl.1 rfl (Nat.le_of_ble_eq_true rfl) dX0_drawYear_80 ⟨Nat.le_of_ble_eq_true rfl, Nat.le_of_ble_eq_true rfl⟩) hS (fun r_22 G_22 H locs hF_22 hr_22 hT hS => ?_)
            have hF := hF.tr hF_22 rfl
            refine lv_aload_n hx hb dX0_drawYear_83 rfl (lv_at hl 4 rfl) ?_
            refine t_getr cf_7 hx hb hts hown hK hT h_b (k := 17) (P := fun q => τ q = 27) rfl (fun _ h9 => h9) fl_X0_36 (fun _ h9 => h9) dX0_drawYear_84 (fun q_23 eq_23 hq_23 => ?_)
            have eq_23 := (hF.r h_b (by decide) rfl _).symm.trans eq_23
            refine lv_iload hx hb dX0_drawYear_87 (lv_at hl 0 rfl) ?_
            refine t_iald (n := 6) (i := x13_6) rfl (by decide) hx hb hK hT hq_23 (hT.len hq_23 (by decide)) ⟨by omega, by omega⟩ dX0_drawYear_89 (fun z_24 ez_24 rz_24 => ?_)
            have ez_24 : z_24 = G.1 q_23 x13_6.toNatClampNeg := ez_24.trans (hF.i hq_23 (by decide) rfl _)
            refine lv_icmp_ge (tgt := 99) hx hb dX0_drawYear_90 (by decide) (fun c_25 => ?_) (fun c_25 => ?_)
            · skip
              have tc_25 : z_24.toInt ≤ r_22.toInt := (fa_le _ _).mp c_25
              obtain ⟨z_26, ez_26⟩ : ∃ y : Int32, y = x13_6 + 1 := ⟨_, rfl⟩
              have tz_26 : z_26.toInt = x13_6.toInt + 1 := add_t ez_26 (show -2147483648 ≤ x13_6.toInt + 1 by omega) (show x13_6.toInt + 1 < 2147483648 by omega)
              refine lv_iinc (v := z_26) (lv' := [(6, .int z_26), (4, .int 1), (5, .int x4_5), (0, .ref a), (1, .ref b), (2, .int v), (3, .ref d)]) hx hb dX0_drawYear_99 hl (k := 0) rfl (by rw [ez_26]; rfl) (by decide) rfl (fun ls hl => ?_)
              refine lv_goto (tgt := 51) hx hb dX0_drawYear_102 (by decide) ?_
              exact ih13 (z_26, G_22) _ _ _ (by show (6 - z_26.toInt).toNat < (6 - x13_6.toInt).toNat; omega) ⟨(by show 0 ≤ z_26.toInt; omega), (by show z_26.toInt ≤ 6; omega), hF, hT, hS, lv_sub hl [0, 1, 2, 3, 4, 5, 6] rfl⟩
            · skip
              have tc_25 : ¬ z_24.toInt ≤ r_22.toInt := fun h => c_25 ((fa_le _ _).mpr h)
              have mc_25 : z_24.toInt ≤ 2147483647 := max_t z_24
              refine lv_aload_n hx hb dX0_drawYear_93 rfl (lv_at hl 6 rfl) ?_
              refine lv_iload hx hb dX0_drawYear_94 (lv_at hl 0 rfl) ?_
              refine lv_iload hx hb dX0_drawYear_96 (lv_at hl 2 rfl) ?_
              refine t_iast (n := 6) (i := x13_6) (x := x4_5) rfl (by decide) hx hb hK hT hS h_d (hT.len h_d (by decide)) ⟨by omega, by omega⟩ trivial dX0_drawYear_98 (fun H locs G_27 eG_27 hT hS => ?_)
              have hF := hF.wI eG_27 h_d rfl
              obtain ⟨z_28, ez_28⟩ : ∃ y : Int32, y = x13_6 + 1 := ⟨_, rfl⟩
              have tz_28 : z_28.toInt = x13_6.toInt + 1 := add_t ez_28 (show -2147483648 ≤ x13_6.toInt + 1 by omega) (show x13_6.toInt + 1 < 2147483648 by omega)
              refine lv_iinc (v := z_28) (lv' := [(6, .int z_28), (4, .int 1), (5, .int x4_5), (0, .ref a), (1, .ref b), (2, .int v), (3, .ref d)]) hx hb dX0_drawYear_99 hl (k := 0) rfl (by rw [ez_28]; rfl) (by decide) rfl (fun ls hl => ?_)
              refine lv_goto (tgt := 51) hx hb dX0_drawYear_102 (by decide) ?_
              exact ih13 (z_28, G_27) _ _ _ (by show (6 - z_28.toInt).toNat < (6 - x13_6.toInt).toNat; omega) ⟨(by show 0 ≤ z_28.toInt; omega), (by show z_28.toInt ≤ 6; omega), hF, hT, hS, lv_sub hl [0, 1, 2, 3, 4, 5, 6] rfl⟩
set_option maxHeartbeats 4000000 in
set_option maxRecDepth 100000 in
theorem t_X6_narrowed (l : Launch) (D : va_G) (cy : Nat → ClassId) (base : Nat) (τ : Nat → Nat) (G : Gh) (a : Nat) (h_a : τ a = 9) (x : Int64) : MM l yX6_narrowed cX6_narrowed 3 (some .long) 0 0 0 D cy [.ref a, .long x] (PT D cy base τ G) (PuL (fun r => True)) noF := by
  refine MM.of (by decide) (Nat.le_of_ble_eq_true rfl) ?_
  intro p e s m below meth c C hPT ls hl
  obtain ⟨hx, hb, hr, hml, hown, hts, hlocks, hK, hnm⟩ := C
  obtain ⟨hZ, hT⟩ := hPT
  have hS : va_S (RA base) s.heap s.heap [] := va_S.rf
  have hl : lv_has ls 3 [(0, .ref a), (1, .long x)] := hl
  refine lv_aload_n hx hb dX6_narrowed_0 rfl (lv_at hl 0 rfl) ?_
  refine t_geti cf_9 hx hb hts hown hK hT h_a (k := 0) rfl fl_X6_7 (fun _ h9 => h9) dX6_narrowed_1 (fun z_1 ez_1 rz_1 => ?_)
  have ez_1 : z_1 = G.1 a 0 := ez_1
  by_cases sw_2 : z_1.toInt < 0 ∨ 2 < z_1.toInt
  · skip
    refine lv_tableOut (tgt := 46) hx hb dX6_narrowed_4 sw_2 (by decide) ?_
    refine lv_lload_n hx hb dX6_narrowed_46 rfl (lv_at hl 1 rfl) ?_
    exact ret_l hx hb hr hlocks ⟨rfl, _, rfl, trivial⟩ (fun _ h => absurd h List.not_mem_nil) (Nat.le_refl _) (Nat.le_refl _) dX6_narrowed_47
  · skip
    rcases (show z_1.toInt = 0 ∨ z_1.toInt = 1 ∨ z_1.toInt = 2 by omega) with sw_2_0 | sw_2_1 | sw_2_2
    · skip
      refine lv_tableIn (tgt := 32) hx hb dX6_narrowed_4 (by omega) (by omega) (by rw [sw_2_0]; rfl) (by decide) ?_
      refine lv_lload_n hx hb dX6_narrowed_32 rfl (lv_at hl 1 rfl) ?_
      refine lv_l2i hx hb dX6_narrowed_33 rfl ?_
      refine lv_topi (fun z_3 ez_3 => ?_)
      refine lv_i2b hx hb dX6_narrowed_34 rfl ?_
      refine lv_topi (fun z_4 ez_4 => ?_)
      refine lv_i2l hx hb dX6_narrowed_35 rfl ?_
      refine lv_topl (fun z_5 ez_5 => ?_)
      have tz_5 : z_5.toInt = z_4.toInt := by rw [ez_5]; exact wide_t z_4
      have az_5 := min_t z_4
      have bz_5 := max_t z_4
      exact ret_l hx hb hr hlocks ⟨rfl, _, rfl, trivial⟩ (fun _ h => absurd h List.not_mem_nil) (Nat.le_refl _) (Nat.le_refl _) dX6_narrowed_36
    · skip
      refine lv_tableIn (tgt := 37) hx hb dX6_narrowed_4 (by omega) (by omega) (by rw [sw_2_1]; rfl) (by decide) ?_
      refine lv_lload_n hx hb dX6_narrowed_37 rfl (lv_at hl 1 rfl) ?_
      refine lv_l2i hx hb dX6_narrowed_38 rfl ?_
      refine lv_topi (fun z_6 ez_6 => ?_)
      refine lv_i2s hx hb dX6_narrowed_39 rfl ?_
      refine lv_topi (fun z_7 ez_7 => ?_)
      refine lv_i2l hx hb dX6_narrowed_40 rfl ?_
      refine lv_topl (fun z_8 ez_8 => ?_)
      have tz_8 : z_8.toInt = z_7.toInt := by rw [ez_8]; exact wide_t z_7
      have az_8 := min_t z_7
      have bz_8 := max_t z_7
      exact ret_l hx hb hr hlocks ⟨rfl, _, rfl, trivial⟩ (fun _ h => absurd h List.not_mem_nil) (Nat.le_refl _) (Nat.le_refl _) dX6_narrowed_41
    · skip
      refine lv_tableIn (tgt := 42) hx hb dX6_narrowed_4 (by omega) (by omega) (by rw [sw_2_2]; rfl) (by decide) ?_
      refine lv_lload_n hx hb dX6_narrowed_42 rfl (lv_at hl 1 rfl) ?_
      refine lv_l2i hx hb dX6_narrowed_43 rfl ?_
      refine lv_topi (fun z_9 ez_9 => ?_)
      refine lv_i2l hx hb dX6_narrowed_44 rfl ?_
      refine lv_topl (fun z_10 ez_10 => ?_)
      have tz_10 : z_10.toInt = z_9.toInt := by rw [ez_10]; exact wide_t z_9
      have az_10 := min_t z_9
      have bz_10 := max_t z_9
      exact ret_l hx hb hr hlocks ⟨rfl, _, rfl, trivial⟩ (fun _ h => absurd h List.not_mem_nil) (Nat.le_refl _) (Nat.le_refl _) dX6_narrowed_45
set_option maxHeartbeats 4000000 in
set_option maxRecDepth 100000 in
theorem t_X6_total (l : Launch) (D : va_G) (cy : Nat → ClassId) (base : Nat) (τ : Nat → Nat) (G : Gh) (a : Nat) (h_a : τ a = 9) : MM l yX6_total cX6_total 4 (some .long) 0 0 0 D cy [.ref a] (PT D cy base τ G) (PuL (fun r => True)) noF := by
  refine MM.of (by decide) (Nat.le_of_ble_eq_true rfl) ?_
  intro p e s m below meth c C hPT ls hl
  obtain ⟨hx, hb, hr, hml, hown, hts, hlocks, hK, hnm⟩ := C
  obtain ⟨hZ, hT⟩ := hPT
  have hS : va_S (RA base) s.heap s.heap [] := va_S.rf
  have hl : lv_has ls 4 [(0, .ref a)] := hl
  refine lv_lconst (v := 0) hx hb dX6_total_0 (by decide) ?_
  refine lv_lstore_n (lv' := [(1, .long 0), (0, .ref a)]) hx hb dX6_total_1 rfl hl (by decide) rfl (fun ls hl => ?_)
  refine lv_iconst (v := 0) hx hb dX6_total_2 (by decide) ?_
  refine lv_istore_n (lv' := [(3, .int 0), (1, .long 0), (0, .ref a)]) hx hb dX6_total_3 rfl hl (by decide) rfl (fun ls hl => ?_)
  refine W.loop (σ := Int64 × Int32) (fun w1 H locs ls => 0 ≤ w1.2.toInt ∧ w1.2.toInt ≤ 60 ∧ H = s.heap ∧ locs = [] ∧ lv_has ls 4 [(1, .long w1.1), (3, .int w1.2), (0, .ref a)]) (fun w1 => (60 - w1.2.toInt).toNat) ?_ ((0 : Int64), (0 : Int32)) _ _ _ ⟨(by show 0 ≤ (0 : Int32).toInt; decide), (by show (0 : Int32).toInt ≤ 60; decide), rfl, rfl, lv_sub hl [1, 0, 2] rfl⟩
  intro w1 H locs ls hI ih1
  obtain ⟨x1_1, x1_3⟩ := w1
  obtain ⟨i1_0, i1_1, rfl, rfl, hl⟩ := hI
  have i1_0 : 0 ≤ x1_3.toInt := i1_0
  have i1_1 : x1_3.toInt ≤ 60 := i1_1
  have hl : lv_has ls 4 [(1, .long x1_1), (3, .int x1_3), (0, .ref a)] := hl
  refine lv_iload_n hx hb dX6_total_4 rfl (lv_at hl 1 rfl) ?_
  refine lv_aload_n hx hb dX6_total_5 rfl (lv_at hl 2 rfl) ?_
  refine t_getr cf_9 hx hb hts hown hK hT h_a (k := 1) (P := fun q => τ q = 40) rfl (fun _ h9 => h9) fl_X6_19 (fun _ h9 => h9) dX6_total_6 (fun q_2 eq_2 hq_2 => ?_)
  obtain ⟨n_3, en_3⟩ : ∃ y : Nat, y = G.2.2.2 q_2 := ⟨_, rfl⟩
  have rn_3 : n_3 ≤ 60 := by rw [en_3]; exact hT.len hq_2 (by decide)
  refine t_alen (v := Int32.ofNat n_3) rfl (by decide) hx hb hK hT hq_2 rfl (by rw [show _ = n_3 from (en_3.symm)]) dX6_total_9 ?_
  refine lv_topi (fun z_4 ez_4 => ?_)
  have tz_4 : z_4.toInt = n_3 := len_t ez_4 (by omega)
  refine lv_icmp_ge (tgt := 28) hx hb dX6_total_10 (by decide) (fun c_5 => ?_) (fun c_5 => ?_)
  · skip
    have tc_5 : z_4.toInt ≤ x1_3.toInt := (fa_le _ _).mp c_5
    refine lv_lload_n hx hb dX6_total_28 rfl (lv_at hl 0 rfl) ?_
    exact ret_l hx hb hr hlocks ⟨rfl, _, rfl, trivial⟩ (fun _ h => absurd h List.not_mem_nil) (Nat.le_refl _) (Nat.le_refl _) dX6_total_29
  · skip
    have tc_5 : ¬ z_4.toInt ≤ x1_3.toInt := fun h => c_5 ((fa_le _ _).mpr h)
    refine lv_lload_n hx hb dX6_total_13 rfl (lv_at hl 0 rfl) ?_
    refine lv_aload_n hx hb dX6_total_14 rfl (lv_at hl 2 rfl) ?_
    refine t_getr cf_9 hx hb hts hown hK hT h_a (k := 1) (P := fun q => τ q = 40) rfl (fun _ h9 => h9) fl_X6_19 (fun _ h9 => h9) dX6_total_15 (fun q_6 eq_6 hq_6 => ?_)
    have w_7 : q_2 = q_6 := Option.some.inj (eq_2.symm.trans eq_6)
    subst w_7
    refine lv_iload_n hx hb dX6_total_18 rfl (lv_at hl 1 rfl) ?_
    refine t_lald (n := n_3) (i := x1_3) rfl (by decide) hx hb hK hT hq_2 (en_3.symm) ⟨by omega, by omega⟩ dX6_total_19 (fun z_8 ez_8 => ?_)
    refine lv_ladd hx hb dX6_total_20 ?_
    refine lv_topl (fun z_9 ez_9 => ?_)
    refine lv_lstore_n (lv' := [(1, .long z_9), (3, .int x1_3), (0, .ref a)]) hx hb dX6_total_21 rfl hl (by decide) rfl (fun ls hl => ?_)
    obtain ⟨z_10, ez_10⟩ : ∃ y : Int32, y = x1_3 + 1 := ⟨_, rfl⟩
    have tz_10 : z_10.toInt = x1_3.toInt + 1 := add_t ez_10 (show -2147483648 ≤ x1_3.toInt + 1 by omega) (show x1_3.toInt + 1 < 2147483648 by omega)
    refine lv_iinc (v := z_10) (lv' := [(3, .int z_10), (1, .long z_9), (0, .ref a)]) hx hb dX6_total_22 hl (k := 1) rfl (by rw [ez_10]; rfl) (by decide) rfl (fun ls hl => ?_)
    refine lv_goto (tgt := 4) hx hb dX6_total_25 (by decide) ?_
    exact ih1 (z_9, z_10) _ _ _ (by show (60 - z_10.toInt).toNat < (60 - x1_3.toInt).toNat; omega) ⟨(by show 0 ≤ z_10.toInt; omega), (by show z_10.toInt ≤ 60; omega), rfl, rfl, lv_sub hl [1, 0, 2] rfl⟩
set_option maxHeartbeats 4000000 in
set_option maxRecDepth 100000 in
theorem t_X6_within (l : Launch) (D : va_G) (cy : Nat → ClassId) (base : Nat) (τ : Nat → Nat) (G : Gh) (a : Nat) (h_a : τ a = 9) (x : Int64) (y : Int64) : MM l yX6_within cX6_within 6 (some .boolean) 0 0 0 D cy [.ref a, .long x, .long y] (PT D cy base τ G) (PuI (fun r => ((r = 1 ∧ ∀ q : Nat, G.2.2.1 a 1 = some q → ∀ j : Nat, j < G.2.2.2 q → x.toInt ≤ (G.2.1 q j).toInt ∧ (G.2.1 q j).toInt ≤ y.toInt) ∨ (r = 0)))) noF := by
  refine MM.of (by decide) (Nat.le_of_ble_eq_true rfl) ?_
  intro p e s m below meth c C hPT ls hl
  obtain ⟨hx, hb, hr, hml, hown, hts, hlocks, hK, hnm⟩ := C
  obtain ⟨hZ, hT⟩ := hPT
  have hS : va_S (RA base) s.heap s.heap [] := va_S.rf
  have hl : lv_has ls 6 [(0, .ref a), (1, .long x), (3, .long y)] := hl
  obtain ⟨q0, eq0, hq0⟩ := (show ∃ q, G.2.2.1 a 1 = some q ∧ τ q = 40 from hT.rgr h_a (by decide) 1)
  obtain ⟨n_1, en_1⟩ : ∃ y : Nat, y = G.2.2.2 q0 := ⟨_, rfl⟩
  have rn_1 : n_1 ≤ 60 := by rw [en_1]; exact hT.len hq0 (by decide)
  refine lv_iconst (v := 0) hx hb dX6_within_0 (by decide) ?_
  refine lv_istore (lv' := [(5, .int 0), (0, .ref a), (1, .long x), (3, .long y)]) hx hb dX6_within_1 hl (by decide) rfl (fun ls hl => ?_)
  refine W.loop (σ := Int32) (fun w2 H locs ls => 0 ≤ w2.toInt ∧ w2.toInt ≤ 60 ∧ (∀ j : Nat, j < w2.toInt.toNat → x.toInt ≤ (G.2.1 q0 j).toInt ∧ (G.2.1 q0 j).toInt ≤ y.toInt) ∧ H = s.heap ∧ locs = [] ∧ lv_has ls 6 [(5, .int w2), (0, .ref a), (1, .long x), (3, .long y)]) (fun w2 => (60 - w2.toInt).toNat) ?_ ((0 : Int32)) _ _ _ ⟨(by show 0 ≤ (0 : Int32).toInt; decide), (by show (0 : Int32).toInt ≤ 60; decide), (by show ∀ j : Nat, j < (0 : Int).toNat → x.toInt ≤ (G.2.1 q0 j).toInt ∧ (G.2.1 q0 j).toInt ≤ y.toInt; exact fun j hj => absurd hj (by simp)), rfl, rfl, lv_sub hl [0, 1, 2, 3] rfl⟩
  intro w2 H locs ls hI ih2
  obtain ⟨x2_5, e9⟩ : ∃ y, y = w2 := ⟨_, rfl⟩
  subst e9
  obtain ⟨i2_0, i2_1, i2_2, rfl, rfl, hl⟩ := hI
  have i2_0 : 0 ≤ x2_5.toInt := i2_0
  have i2_1 : x2_5.toInt ≤ 60 := i2_1
  have i2_2 : (∀ j : Nat, j < x2_5.toInt.toNat → x.toInt ≤ (G.2.1 q0 j).toInt ∧ (G.2.1 q0 j).toInt ≤ y.toInt) := i2_2
  have hl : lv_has ls 6 [(5, .int x2_5), (0, .ref a), (1, .long x), (3, .long y)] := hl
  refine lv_iload hx hb dX6_within_3 (lv_at hl 0 rfl) ?_
  refine lv_aload_n hx hb dX6_within_5 rfl (lv_at hl 1 rfl) ?_
  refine t_getr cf_9 hx hb hts hown hK hT h_a (k := 1) (P := fun q => τ q = 40) rfl (fun _ h9 => h9) fl_X6_19 (fun _ h9 => h9) dX6_within_6 (fun q_3 eq_3 hq_3 => ?_)
  have w_4 : q0 = q_3 := Option.some.inj (eq0.symm.trans eq_3)
  subst w_4
  refine t_alen (v := Int32.ofNat n_1) rfl (by decide) hx hb hK hT hq0 rfl (by rw [show _ = n_1 from (en_1.symm)]) dX6_within_9 ?_
  refine lv_topi (fun z_5 ez_5 => ?_)
  have tz_5 : z_5.toInt = n_1 := len_t ez_5 (by omega)
  refine lv_icmp_ge (tgt := 45) hx hb dX6_within_10 (by decide) (fun c_6 => ?_) (fun c_6 => ?_)
  · skip
    have tc_6 : z_5.toInt ≤ x2_5.toInt := (fa_le _ _).mp c_6
    refine lv_iconst (v := 1) hx hb dX6_within_45 (by decide) ?_
    exact ret_z (ty := .boolean) hx hb hr rfl hlocks ⟨rfl, _, rfl, (Or.inl ⟨rfl, fun q hq j hj => by have e9 : q = q0 := Option.some.inj (hq.symm.trans eq0); subst e9; exact i2_2 j (by have e8 := en_1; omega)⟩)⟩ (fun _ h => absurd h List.not_mem_nil) (Nat.le_refl _) (Nat.le_refl _) dX6_within_46
  · skip
    have tc_6 : ¬ z_5.toInt ≤ x2_5.toInt := fun h => c_6 ((fa_le _ _).mpr h)
    refine lv_aload_n hx hb dX6_within_13 rfl (lv_at hl 1 rfl) ?_
    refine t_getr cf_9 hx hb hts hown hK hT h_a (k := 1) (P := fun q => τ q = 40) rfl (fun _ h9 => h9) fl_X6_19 (fun _ h9 => h9) dX6_within_14 (fun q_7 eq_7 hq_7 => ?_)
    have w_8 : q0 = q_7 := Option.some.inj (eq0.symm.trans eq_7)
    subst w_8
    refine lv_iload hx hb dX6_within_17 (lv_at hl 0 rfl) ?_
    refine t_lald (n := n_1) (i := x2_5) rfl (by decide) hx hb hK hT hq0 (en_1.symm) ⟨by omega, by omega⟩ dX6_within_19 (fun z_9 ez_9 => ?_)
    refine lv_lload_n hx hb dX6_within_20 rfl (lv_at hl 2 rfl) ?_
    refine W.lcmp hx hb dX6_within_21 ?_
    refine lv_topi (fun z_10 ez_10 => ?_)
    have tz_10 : (z_10.toInt < 0 ↔ z_9.toInt < x.toInt) ∧ (0 < z_10.toInt ↔ x.toInt < z_9.toInt) ∧ -1 ≤ z_10.toInt ∧ z_10.toInt ≤ 1 := cmp_t ez_10
    refine lv_if_lt (tgt := 37) hx hb dX6_within_22 (by decide) (fun c_11 => ?_) (fun c_11 => ?_)
    · skip
      have tc_11 : z_10.toInt < 0 := (fa_lt _ _).mp c_11
      refine lv_iconst (v := 0) hx hb dX6_within_37 (by decide) ?_
      exact ret_z (ty := .boolean) hx hb hr rfl hlocks ⟨rfl, _, rfl, (Or.inr rfl)⟩ (fun _ h => absurd h List.not_mem_nil) (Nat.le_refl _) (Nat.le_refl _) dX6_within_38
    · skip
      have tc_11 : ¬ z_10.toInt < 0 := fun h => c_11 ((fa_lt _ _).mpr h)
      refine lv_aload_n hx hb dX6_within_25 rfl (lv_at hl 1 rfl) ?_
      refine t_getr cf_9 hx hb hts hown hK hT h_a (k := 1) (P := fun q => τ q = 40) rfl (fun _ h9 => h9) fl_X6_19 (fun _ h9 => h9) dX6_within_26 (fun q_12 eq_12 hq_12 => ?_)
      have w_13 : q0 = q_12 := Option.some.inj (eq0.symm.trans eq_12)
      subst w_13
      refine lv_iload hx hb dX6_within_29 (lv_at hl 0 rfl) ?_
      refine t_lald (n := n_1) (i := x2_5) rfl (by decide) hx hb hK hT hq0 (en_1.symm) ⟨by omega, by omega⟩ dX6_within_31 (fun z_14 ez_14 => ?_)
      have w_15 : z_9 = z_14 := ez_9.trans ez_14.symm
      subst w_15
      refine lv_lload_n hx hb dX6_within_32 rfl (lv_at hl 3 rfl) ?_
      refine W.lcmp hx hb dX6_within_33 ?_
      refine lv_topi (fun z_16 ez_16 => ?_)
      have tz_16 : (z_16.toInt < 0 ↔ z_9.toInt < y.toInt) ∧ (0 < z_16.toInt ↔ y.toInt < z_9.toInt) ∧ -1 ≤ z_16.toInt ∧ z_16.toInt ≤ 1 := cmp_t ez_16
      refine lv_if_le (tgt := 39) hx hb dX6_within_34 (by decide) (fun c_17 => ?_) (fun c_17 => ?_)
      · skip
        have tc_17 : z_16.toInt ≤ 0 := (fa_le _ _).mp c_17
        obtain ⟨z_18, ez_18⟩ : ∃ y : Int32, y = x2_5 + 1 := ⟨_, rfl⟩
        have tz_18 : z_18.toInt = x2_5.toInt + 1 := add_t ez_18 (show -2147483648 ≤ x2_5.toInt + 1 by omega) (show x2_5.toInt + 1 < 2147483648 by omega)
        refine lv_iinc (v := z_18) (lv' := [(5, .int z_18), (0, .ref a), (1, .long x), (3, .long y)]) hx hb dX6_within_39 hl (k := 0) rfl (by rw [ez_18]; rfl) (by decide) rfl (fun ls hl => ?_)
        refine lv_goto (tgt := 3) hx hb dX6_within_42 (by decide) ?_
        exact ih2 (z_18) _ _ _ (by show (60 - z_18.toInt).toNat < (60 - x2_5.toInt).toNat; omega) ⟨(by show 0 ≤ z_18.toInt; omega), (by show z_18.toInt ≤ 60; omega), by show ∀ j : Nat, j < z_18.toInt.toNat → x.toInt ≤ (G.2.1 q0 j).toInt ∧ (G.2.1 q0 j).toInt ≤ y.toInt; exact fun j hj => by by_cases h9 : j < x2_5.toInt.toNat; exact i2_2 j h9; have e9 : j = x2_5.toNatClampNeg := (show j = x2_5.toInt.toNat by omega); rw [e9, ← ez_9]; omega, rfl, rfl, lv_sub hl [0, 1, 2, 3] rfl⟩
      · skip
        have tc_17 : ¬ z_16.toInt ≤ 0 := fun h => c_17 ((fa_le _ _).mpr h)
        refine lv_iconst (v := 0) hx hb dX6_within_37 (by decide) ?_
        exact ret_z (ty := .boolean) hx hb hr rfl hlocks ⟨rfl, _, rfl, (Or.inr rfl)⟩ (fun _ h => absurd h List.not_mem_nil) (Nat.le_refl _) (Nat.le_refl _) dX6_within_38
set_option maxHeartbeats 4000000 in
set_option maxRecDepth 100000 in
theorem t_X6_has (l : Launch) (D : va_G) (cy : Nat → ClassId) (base : Nat) (τ : Nat → Nat) (G : Gh) (a : Nat) (h_a : τ a = 9) (v : Int32) (w : Int32) : MM l yX6_has cX6_has 3 (some .boolean) 0 0 0 D cy [.ref a, .int v, .int w] (PT D cy base τ G) (PuI (fun r => ((r = 1 ∧ 0 ≤ v.toInt ∧ 0 ≤ w.toInt ∧ ∀ q : Nat, G.2.2.1 a 1 = some q → v.toInt + w.toInt ≤ G.2.2.2 q) ∨ (r = 0)))) noF := by
  refine MM.of (by decide) (Nat.le_of_ble_eq_true rfl) ?_
  intro p e s m below meth c C hPT ls hl
  obtain ⟨hx, hb, hr, hml, hown, hts, hlocks, hK, hnm⟩ := C
  obtain ⟨hZ, hT⟩ := hPT
  have hS : va_S (RA base) s.heap s.heap [] := va_S.rf
  have hl : lv_has ls 3 [(0, .ref a), (1, .int v), (2, .int w)] := hl
  obtain ⟨q0, eq0, hq0⟩ := (show ∃ q, G.2.2.1 a 1 = some q ∧ τ q = 40 from hT.rgr h_a (by decide) 1)
  obtain ⟨n_1, en_1⟩ : ∃ y : Nat, y = G.2.2.2 q0 := ⟨_, rfl⟩
  have rn_1 : n_1 ≤ 60 := by rw [en_1]; exact hT.len hq0 (by decide)
  refine lv_iload_n hx hb dX6_has_0 rfl (lv_at hl 1 rfl) ?_
  refine lv_if_lt (tgt := 32) hx hb dX6_has_1 (by decide) (fun c_2 => ?_) (fun c_2 => ?_)
  · skip
    have tc_2 : v.toInt < 0 := (fa_lt _ _).mp c_2
    refine lv_iconst (v := 0) hx hb dX6_has_32 (by decide) ?_
    exact ret_z (ty := .boolean) hx hb hr rfl hlocks ⟨rfl, _, rfl, (Or.inr rfl)⟩ (fun _ h => absurd h List.not_mem_nil) (Nat.le_refl _) (Nat.le_refl _) dX6_has_33
  · skip
    have tc_2 : ¬ v.toInt < 0 := fun h => c_2 ((fa_lt _ _).mpr h)
    refine lv_iload_n hx hb dX6_has_4 rfl (lv_at hl 2 rfl) ?_
    refine lv_if_lt (tgt := 32) hx hb dX6_has_5 (by decide) (fun c_3 => ?_) (fun c_3 => ?_)
    · skip
      have tc_3 : w.toInt < 0 := (fa_lt _ _).mp c_3
      refine lv_iconst (v := 0) hx hb dX6_has_32 (by decide) ?_
      exact ret_z (ty := .boolean) hx hb hr rfl hlocks ⟨rfl, _, rfl, (Or.inr rfl)⟩ (fun _ h => absurd h List.not_mem_nil) (Nat.le_refl _) (Nat.le_refl _) dX6_has_33
    · skip
      have tc_3 : ¬ w.toInt < 0 := fun h => c_3 ((fa_lt _ _).mpr h)
      refine lv_iload_n hx hb dX6_has_8 rfl (lv_at hl 1 rfl) ?_
      refine lv_aload_n hx hb dX6_has_9 rfl (lv_at hl 0 rfl) ?_
      refine t_getr cf_9 hx hb hts hown hK hT h_a (k := 1) (P := fun q => τ q = 40) rfl (fun _ h9 => h9) fl_X6_19 (fun _ h9 => h9) dX6_has_10 (fun q_4 eq_4 hq_4 => ?_)
      have w_5 : q0 = q_4 := Option.some.inj (eq0.symm.trans eq_4)
      subst w_5
      refine t_alen (v := Int32.ofNat n_1) rfl (by decide) hx hb hK hT hq0 rfl (by rw [show _ = n_1 from (en_1.symm)]) dX6_has_13 ?_
      refine lv_topi (fun z_6 ez_6 => ?_)
      have tz_6 : z_6.toInt = n_1 := len_t ez_6 (by omega)
      refine lv_icmp_gt (tgt := 32) hx hb dX6_has_14 (by decide) (fun c_7 => ?_) (fun c_7 => ?_)
      · skip
        have tc_7 : z_6.toInt < v.toInt := (fa_lt _ _).mp c_7
        have mc_7 : v.toInt ≤ 2147483647 := max_t v
        refine lv_iconst (v := 0) hx hb dX6_has_32 (by decide) ?_
        exact ret_z (ty := .boolean) hx hb hr rfl hlocks ⟨rfl, _, rfl, (Or.inr rfl)⟩ (fun _ h => absurd h List.not_mem_nil) (Nat.le_refl _) (Nat.le_refl _) dX6_has_33
      · skip
        have tc_7 : ¬ z_6.toInt < v.toInt := fun h => c_7 ((fa_lt _ _).mpr h)
        refine lv_iload_n hx hb dX6_has_17 rfl (lv_at hl 2 rfl) ?_
        refine lv_aload_n hx hb dX6_has_18 rfl (lv_at hl 0 rfl) ?_
        refine t_getr cf_9 hx hb hts hown hK hT h_a (k := 1) (P := fun q => τ q = 40) rfl (fun _ h9 => h9) fl_X6_19 (fun _ h9 => h9) dX6_has_19 (fun q_8 eq_8 hq_8 => ?_)
        have w_9 : q0 = q_8 := Option.some.inj (eq0.symm.trans eq_8)
        subst w_9
        refine t_alen (v := Int32.ofNat n_1) rfl (by decide) hx hb hK hT hq0 rfl (by rw [show _ = n_1 from (en_1.symm)]) dX6_has_22 ?_
        refine lv_topi (fun z_10 ez_10 => ?_)
        have tz_10 : z_10.toInt = n_1 := len_t ez_10 (by omega)
        refine lv_iload_n hx hb dX6_has_23 rfl (lv_at hl 1 rfl) ?_
        refine lv_isub hx hb dX6_has_24 ?_
        refine lv_topi (fun z_11 ez_11 => ?_)
        have tz_11 : z_11.toInt = z_10.toInt - v.toInt := sub_t ez_11 (show -2147483648 ≤ z_10.toInt - v.toInt by omega) (show z_10.toInt - v.toInt < 2147483648 by omega)
        refine lv_icmp_gt (tgt := 32) hx hb dX6_has_25 (by decide) (fun c_12 => ?_) (fun c_12 => ?_)
        · skip
          have tc_12 : z_11.toInt < w.toInt := (fa_lt _ _).mp c_12
          have mc_12 : w.toInt ≤ 2147483647 := max_t w
          refine lv_iconst (v := 0) hx hb dX6_has_32 (by decide) ?_
          exact ret_z (ty := .boolean) hx hb hr rfl hlocks ⟨rfl, _, rfl, (Or.inr rfl)⟩ (fun _ h => absurd h List.not_mem_nil) (Nat.le_refl _) (Nat.le_refl _) dX6_has_33
        · skip
          have tc_12 : ¬ z_11.toInt < w.toInt := fun h => c_12 ((fa_lt _ _).mpr h)
          refine lv_iconst (v := 1) hx hb dX6_has_28 (by decide) ?_
          refine lv_goto (tgt := 33) hx hb dX6_has_29 (by decide) ?_
          exact ret_z (ty := .boolean) hx hb hr rfl hlocks ⟨rfl, _, rfl, (Or.inl ⟨rfl, (by omega), (by omega), fun q hq => by have e9 : q = q0 := Option.some.inj (hq.symm.trans eq0); subst e9; omega⟩)⟩ (fun _ h => absurd h List.not_mem_nil) (Nat.le_refl _) (Nat.le_refl _) dX6_has_33
