theorem dJ6_bitCount_0f7a4_0 : decode cJ6_bitCount_0f7a4 0 = .ok (.iload_n 0, 1) := by decide +kernel
theorem dJ6_bitCount_0f7a4_1 : decode cJ6_bitCount_0f7a4 1 = .ok (.iload_n 0, 1) := by decide +kernel
theorem dJ6_bitCount_0f7a4_2 : decode cJ6_bitCount_0f7a4 2 = .ok (.iconst 1, 1) := by decide +kernel
theorem dJ6_bitCount_0f7a4_3 : decode cJ6_bitCount_0f7a4 3 = .ok (.iushr, 1) := by decide +kernel
theorem dJ6_bitCount_0f7a4_4 : decode cJ6_bitCount_0f7a4 4 = .ok (.ldc_w 265, 3) := by decide +kernel
theorem dJ6_bitCount_0f7a4_7 : decode cJ6_bitCount_0f7a4 7 = .ok (.iand, 1) := by decide +kernel
theorem dJ6_bitCount_0f7a4_8 : decode cJ6_bitCount_0f7a4 8 = .ok (.isub, 1) := by decide +kernel
theorem dJ6_bitCount_0f7a4_9 : decode cJ6_bitCount_0f7a4 9 = .ok (.istore_n 0, 1) := by decide +kernel
theorem dJ6_bitCount_0f7a4_10 : decode cJ6_bitCount_0f7a4 10 = .ok (.iload_n 0, 1) := by decide +kernel
theorem dJ6_bitCount_0f7a4_11 : decode cJ6_bitCount_0f7a4 11 = .ok (.ldc_w 266, 3) := by decide +kernel
theorem dJ6_bitCount_0f7a4_14 : decode cJ6_bitCount_0f7a4 14 = .ok (.iand, 1) := by decide +kernel
theorem dJ6_bitCount_0f7a4_15 : decode cJ6_bitCount_0f7a4 15 = .ok (.iload_n 0, 1) := by decide +kernel
theorem dJ6_bitCount_0f7a4_16 : decode cJ6_bitCount_0f7a4 16 = .ok (.iconst 2, 1) := by decide +kernel
theorem dJ6_bitCount_0f7a4_17 : decode cJ6_bitCount_0f7a4 17 = .ok (.iushr, 1) := by decide +kernel
theorem dJ6_bitCount_0f7a4_18 : decode cJ6_bitCount_0f7a4 18 = .ok (.ldc_w 266, 3) := by decide +kernel
theorem dJ6_bitCount_0f7a4_21 : decode cJ6_bitCount_0f7a4 21 = .ok (.iand, 1) := by decide +kernel
theorem dJ6_bitCount_0f7a4_22 : decode cJ6_bitCount_0f7a4 22 = .ok (.iadd, 1) := by decide +kernel
theorem dJ6_bitCount_0f7a4_23 : decode cJ6_bitCount_0f7a4 23 = .ok (.istore_n 0, 1) := by decide +kernel
theorem dJ6_bitCount_0f7a4_24 : decode cJ6_bitCount_0f7a4 24 = .ok (.iload_n 0, 1) := by decide +kernel
theorem dJ6_bitCount_0f7a4_25 : decode cJ6_bitCount_0f7a4 25 = .ok (.iload_n 0, 1) := by decide +kernel
theorem dJ6_bitCount_0f7a4_26 : decode cJ6_bitCount_0f7a4 26 = .ok (.iconst 4, 1) := by decide +kernel
theorem dJ6_bitCount_0f7a4_27 : decode cJ6_bitCount_0f7a4 27 = .ok (.iushr, 1) := by decide +kernel
theorem dJ6_bitCount_0f7a4_28 : decode cJ6_bitCount_0f7a4 28 = .ok (.iadd, 1) := by decide +kernel
theorem dJ6_bitCount_0f7a4_29 : decode cJ6_bitCount_0f7a4 29 = .ok (.ldc_w 267, 3) := by decide +kernel
theorem dJ6_bitCount_0f7a4_32 : decode cJ6_bitCount_0f7a4 32 = .ok (.iand, 1) := by decide +kernel
theorem dJ6_bitCount_0f7a4_33 : decode cJ6_bitCount_0f7a4 33 = .ok (.istore_n 0, 1) := by decide +kernel
theorem dJ6_bitCount_0f7a4_34 : decode cJ6_bitCount_0f7a4 34 = .ok (.iload_n 0, 1) := by decide +kernel
theorem dJ6_bitCount_0f7a4_35 : decode cJ6_bitCount_0f7a4 35 = .ok (.iload_n 0, 1) := by decide +kernel
theorem dJ6_bitCount_0f7a4_36 : decode cJ6_bitCount_0f7a4 36 = .ok (.bipush 8, 2) := by decide +kernel
theorem dJ6_bitCount_0f7a4_38 : decode cJ6_bitCount_0f7a4 38 = .ok (.iushr, 1) := by decide +kernel
theorem dJ6_bitCount_0f7a4_39 : decode cJ6_bitCount_0f7a4 39 = .ok (.iadd, 1) := by decide +kernel
theorem dJ6_bitCount_0f7a4_40 : decode cJ6_bitCount_0f7a4 40 = .ok (.istore_n 0, 1) := by decide +kernel
theorem dJ6_bitCount_0f7a4_41 : decode cJ6_bitCount_0f7a4 41 = .ok (.iload_n 0, 1) := by decide +kernel
theorem dJ6_bitCount_0f7a4_42 : decode cJ6_bitCount_0f7a4 42 = .ok (.iload_n 0, 1) := by decide +kernel
theorem dJ6_bitCount_0f7a4_43 : decode cJ6_bitCount_0f7a4 43 = .ok (.bipush 16, 2) := by decide +kernel
theorem dJ6_bitCount_0f7a4_45 : decode cJ6_bitCount_0f7a4 45 = .ok (.iushr, 1) := by decide +kernel
theorem dJ6_bitCount_0f7a4_46 : decode cJ6_bitCount_0f7a4 46 = .ok (.iadd, 1) := by decide +kernel
theorem dJ6_bitCount_0f7a4_47 : decode cJ6_bitCount_0f7a4 47 = .ok (.istore_n 0, 1) := by decide +kernel
theorem dJ6_bitCount_0f7a4_48 : decode cJ6_bitCount_0f7a4 48 = .ok (.iload_n 0, 1) := by decide +kernel
theorem dJ6_bitCount_0f7a4_49 : decode cJ6_bitCount_0f7a4 49 = .ok (.bipush 63, 2) := by decide +kernel
theorem dJ6_bitCount_0f7a4_51 : decode cJ6_bitCount_0f7a4 51 = .ok (.iand, 1) := by decide +kernel
theorem dJ6_bitCount_0f7a4_52 : decode cJ6_bitCount_0f7a4 52 = .ok (.ireturn, 1) := by decide +kernel
theorem dJ7_fill_d0a16_0 : decode cJ7_fill_d0a16 0 = .ok (.iconst 0, 1) := by decide +kernel
theorem dJ7_fill_d0a16_1 : decode cJ7_fill_d0a16 1 = .ok (.istore_n 3, 1) := by decide +kernel
theorem dJ7_fill_d0a16_2 : decode cJ7_fill_d0a16 2 = .ok (.aload_n 0, 1) := by decide +kernel
theorem dJ7_fill_d0a16_3 : decode cJ7_fill_d0a16 3 = .ok (.arraylength, 1) := by decide +kernel
theorem dJ7_fill_d0a16_4 : decode cJ7_fill_d0a16 4 = .ok (.istore 4, 2) := by decide +kernel
theorem dJ7_fill_d0a16_6 : decode cJ7_fill_d0a16 6 = .ok (.iload_n 3, 1) := by decide +kernel
theorem dJ7_fill_d0a16_7 : decode cJ7_fill_d0a16 7 = .ok (.iload 4, 2) := by decide +kernel
theorem dJ7_fill_d0a16_9 : decode cJ7_fill_d0a16 9 = .ok (.if_icmp .ge 13, 3) := by decide +kernel
theorem dJ7_fill_d0a16_22 : decode cJ7_fill_d0a16 22 = .ok (.return_, 1) := by decide +kernel
theorem dJ7_fill_d0a16_12 : decode cJ7_fill_d0a16 12 = .ok (.aload_n 0, 1) := by decide +kernel
theorem dJ7_fill_d0a16_13 : decode cJ7_fill_d0a16 13 = .ok (.iload_n 3, 1) := by decide +kernel
theorem dJ7_fill_d0a16_14 : decode cJ7_fill_d0a16 14 = .ok (.lload_n 1, 1) := by decide +kernel
theorem dJ7_fill_d0a16_15 : decode cJ7_fill_d0a16 15 = .ok (.lastore, 1) := by decide +kernel
theorem dJ7_fill_d0a16_16 : decode cJ7_fill_d0a16 16 = .ok (.iinc 3 1, 3) := by decide +kernel
theorem dJ7_fill_d0a16_19 : decode cJ7_fill_d0a16 19 = .ok (.goto (-13), 3) := by decide +kernel
theorem dJ7_fill_53178_0 : decode cJ7_fill_53178 0 = .ok (.iconst 0, 1) := by decide +kernel
theorem dJ7_fill_53178_1 : decode cJ7_fill_53178 1 = .ok (.istore_n 2, 1) := by decide +kernel
theorem dJ7_fill_53178_2 : decode cJ7_fill_53178 2 = .ok (.aload_n 0, 1) := by decide +kernel
theorem dJ7_fill_53178_3 : decode cJ7_fill_53178 3 = .ok (.arraylength, 1) := by decide +kernel
theorem dJ7_fill_53178_4 : decode cJ7_fill_53178 4 = .ok (.istore_n 3, 1) := by decide +kernel
theorem dJ7_fill_53178_5 : decode cJ7_fill_53178 5 = .ok (.iload_n 2, 1) := by decide +kernel
theorem dJ7_fill_53178_6 : decode cJ7_fill_53178 6 = .ok (.iload_n 3, 1) := by decide +kernel
theorem dJ7_fill_53178_7 : decode cJ7_fill_53178 7 = .ok (.if_icmp .ge 13, 3) := by decide +kernel
theorem dJ7_fill_53178_20 : decode cJ7_fill_53178 20 = .ok (.return_, 1) := by decide +kernel
theorem dJ7_fill_53178_10 : decode cJ7_fill_53178 10 = .ok (.aload_n 0, 1) := by decide +kernel
theorem dJ7_fill_53178_11 : decode cJ7_fill_53178 11 = .ok (.iload_n 2, 1) := by decide +kernel
theorem dJ7_fill_53178_12 : decode cJ7_fill_53178 12 = .ok (.iload_n 1, 1) := by decide +kernel
theorem dJ7_fill_53178_13 : decode cJ7_fill_53178 13 = .ok (.iastore, 1) := by decide +kernel
theorem dJ7_fill_53178_14 : decode cJ7_fill_53178 14 = .ok (.iinc 2 1, 3) := by decide +kernel
theorem dJ7_fill_53178_17 : decode cJ7_fill_53178 17 = .ok (.goto (-12), 3) := by decide +kernel
set_option maxHeartbeats 4000000 in
set_option maxRecDepth 100000 in
theorem t_J6_bitCount_0f7a4 (l : Launch) (D : va_G) (cy : Nat → ClassId) (base : Nat) (τ : Nat → Nat) (G : Gh) (a : Int32) : MM l yJ6_bitCount_0f7a4 cJ6_bitCount_0f7a4 1 (some .int) 0 0 0 D cy [.int a] (PT D cy base τ G) (PuI (fun r => True)) noF := by
  refine MM.of (by decide) (Nat.le_of_ble_eq_true rfl) ?_
  intro p e s m below meth c C hPT ls hl
  obtain ⟨hx, hb, hr, hml, hown, hts, hlocks, hK, hnm⟩ := C
  obtain ⟨hZ, hT⟩ := hPT
  have hS : va_S (RA base) s.heap s.heap [] := va_S.rf
  have hl : lv_has ls 1 [(0, .int a)] := hl
  refine lv_iload_n hx hb dJ6_bitCount_0f7a4_0 rfl (lv_at hl 0 rfl) ?_
  refine lv_iload_n hx hb dJ6_bitCount_0f7a4_1 rfl (lv_at hl 0 rfl) ?_
  refine lv_iconst (v := 1) hx hb dJ6_bitCount_0f7a4_2 (by decide) ?_
  refine lv_iushr hx hb dJ6_bitCount_0f7a4_3 rfl ?_
  refine lv_topi (fun z_1 ez_1 => ?_)
  refine lv_ldcw (v := 1431655765) hx hb hown (hts _ ki_J6_265) dJ6_bitCount_0f7a4_4 ?_
  refine lv_iand hx hb dJ6_bitCount_0f7a4_7 ?_
  refine lv_topi (fun z_2 ez_2 => ?_)
  have tz_2 : 0 ≤ z_2.toInt ∧ z_2.toInt ≤ 1431655765 := and_t ez_2 (by decide)
  refine lv_isub hx hb dJ6_bitCount_0f7a4_8 ?_
  refine lv_topi (fun z_3 ez_3 => ?_)
  refine lv_istore_n (lv' := [(0, .int z_3)]) hx hb dJ6_bitCount_0f7a4_9 rfl hl (by decide) rfl (fun ls hl => ?_)
  refine lv_iload_n hx hb dJ6_bitCount_0f7a4_10 rfl (lv_at hl 0 rfl) ?_
  refine lv_ldcw (v := 858993459) hx hb hown (hts _ ki_J6_266) dJ6_bitCount_0f7a4_11 ?_
  refine lv_iand hx hb dJ6_bitCount_0f7a4_14 ?_
  refine lv_topi (fun z_4 ez_4 => ?_)
  have tz_4 : 0 ≤ z_4.toInt ∧ z_4.toInt ≤ 858993459 := and_t ez_4 (by decide)
  refine lv_iload_n hx hb dJ6_bitCount_0f7a4_15 rfl (lv_at hl 0 rfl) ?_
  refine lv_iconst (v := 2) hx hb dJ6_bitCount_0f7a4_16 (by decide) ?_
  refine lv_iushr hx hb dJ6_bitCount_0f7a4_17 rfl ?_
  refine lv_topi (fun z_5 ez_5 => ?_)
  refine lv_ldcw (v := 858993459) hx hb hown (hts _ ki_J6_266) dJ6_bitCount_0f7a4_18 ?_
  refine lv_iand hx hb dJ6_bitCount_0f7a4_21 ?_
  refine lv_topi (fun z_6 ez_6 => ?_)
  have tz_6 : 0 ≤ z_6.toInt ∧ z_6.toInt ≤ 858993459 := and_t ez_6 (by decide)
  refine lv_iadd hx hb dJ6_bitCount_0f7a4_22 ?_
  refine lv_topi (fun z_7 ez_7 => ?_)
  have tz_7 : z_7.toInt = z_4.toInt + z_6.toInt := add_t ez_7 (show -2147483648 ≤ z_4.toInt + z_6.toInt by omega) (show z_4.toInt + z_6.toInt < 2147483648 by omega)
  refine lv_istore_n (lv' := [(0, .int z_7)]) hx hb dJ6_bitCount_0f7a4_23 rfl hl (by decide) rfl (fun ls hl => ?_)
  refine lv_iload_n hx hb dJ6_bitCount_0f7a4_24 rfl (lv_at hl 0 rfl) ?_
  refine lv_iload_n hx hb dJ6_bitCount_0f7a4_25 rfl (lv_at hl 0 rfl) ?_
  refine lv_iconst (v := 4) hx hb dJ6_bitCount_0f7a4_26 (by decide) ?_
  refine lv_iushr hx hb dJ6_bitCount_0f7a4_27 rfl ?_
  refine lv_topi (fun z_8 ez_8 => ?_)
  refine lv_iadd hx hb dJ6_bitCount_0f7a4_28 ?_
  refine lv_topi (fun z_9 ez_9 => ?_)
  refine lv_ldcw (v := 252645135) hx hb hown (hts _ ki_J6_267) dJ6_bitCount_0f7a4_29 ?_
  refine lv_iand hx hb dJ6_bitCount_0f7a4_32 ?_
  refine lv_topi (fun z_10 ez_10 => ?_)
  have tz_10 : 0 ≤ z_10.toInt ∧ z_10.toInt ≤ 252645135 := and_t ez_10 (by decide)
  refine lv_istore_n (lv' := [(0, .int z_10)]) hx hb dJ6_bitCount_0f7a4_33 rfl hl (by decide) rfl (fun ls hl => ?_)
  refine lv_iload_n hx hb dJ6_bitCount_0f7a4_34 rfl (lv_at hl 0 rfl) ?_
  refine lv_iload_n hx hb dJ6_bitCount_0f7a4_35 rfl (lv_at hl 0 rfl) ?_
  refine lv_bipush (v := 8) hx hb dJ6_bitCount_0f7a4_36 (by decide) ?_
  refine lv_iushr hx hb dJ6_bitCount_0f7a4_38 rfl ?_
  refine lv_topi (fun z_11 ez_11 => ?_)
  refine lv_iadd hx hb dJ6_bitCount_0f7a4_39 ?_
  refine lv_topi (fun z_12 ez_12 => ?_)
  refine lv_istore_n (lv' := [(0, .int z_12)]) hx hb dJ6_bitCount_0f7a4_40 rfl hl (by decide) rfl (fun ls hl => ?_)
  refine lv_iload_n hx hb dJ6_bitCount_0f7a4_41 rfl (lv_at hl 0 rfl) ?_
  refine lv_iload_n hx hb dJ6_bitCount_0f7a4_42 rfl (lv_at hl 0 rfl) ?_
  refine lv_bipush (v := 16) hx hb dJ6_bitCount_0f7a4_43 (by decide) ?_
  refine lv_iushr hx hb dJ6_bitCount_0f7a4_45 rfl ?_
  refine lv_topi (fun z_13 ez_13 => ?_)
  refine lv_iadd hx hb dJ6_bitCount_0f7a4_46 ?_
  refine lv_topi (fun z_14 ez_14 => ?_)
  refine lv_istore_n (lv' := [(0, .int z_14)]) hx hb dJ6_bitCount_0f7a4_47 rfl hl (by decide) rfl (fun ls hl => ?_)
  refine lv_iload_n hx hb dJ6_bitCount_0f7a4_48 rfl (lv_at hl 0 rfl) ?_
  refine lv_bipush (v := 63) hx hb dJ6_bitCount_0f7a4_49 (by decide) ?_
  refine lv_iand hx hb dJ6_bitCount_0f7a4_51 ?_
  refine lv_topi (fun z_15 ez_15 => ?_)
  have tz_15 : 0 ≤ z_15.toInt ∧ z_15.toInt ≤ 63 := and_t ez_15 (by decide)
  exact ret_i hx hb hr hlocks ⟨rfl, _, rfl, trivial⟩ (fun _ h => absurd h List.not_mem_nil) (Nat.le_refl _) (Nat.le_refl _) dJ6_bitCount_0f7a4_52
set_option maxHeartbeats 4000000 in
set_option maxRecDepth 100000 in
theorem t_J7_fill_d0a16_32 (l : Launch) (D : va_G) (cy : Nat → ClassId) (base : Nat) (τ : Nat → Nat) (G : Gh) (a : Nat) (h_a : τ a = 32) (x : Int64) : MM l yJ7_fill_d0a16 cJ7_fill_d0a16 5 none 0 0 0 D cy [.ref a, .long x] (PT D cy base τ G) (QT D cy base τ G [32] (fun v g => v = none ∧ (True))) (RA base) := by
  refine MM.of (by decide) (Nat.le_of_ble_eq_true rfl) ?_
  intro p e s m below meth c C hPT ls hl
  obtain ⟨hx, hb, hr, hml, hown, hts, hlocks, hK, hnm⟩ := C
  obtain ⟨hZ, hT⟩ := hPT
  have hS : va_S (RA base) s.heap s.heap [] := va_S.rf
  have hF : Fr τ [32] G G := Fr.rf
  have hl : lv_has ls 5 [(0, .ref a), (1, .long x)] := hl
  refine lv_iconst (v := 0) hx hb dJ7_fill_d0a16_0 (by decide) ?_
  refine lv_istore_n (lv' := [(3, .int 0), (0, .ref a), (1, .long x)]) hx hb dJ7_fill_d0a16_1 rfl hl (by decide) rfl (fun ls hl => ?_)
  refine lv_aload_n hx hb dJ7_fill_d0a16_2 rfl (lv_at hl 1 rfl) ?_
  refine t_alen (v := 61) rfl (by decide) hx hb hK hT h_a rfl (by rw [show _ = 61 from (hT.len h_a (by decide))]; rfl) dJ7_fill_d0a16_3 ?_
  refine lv_istore (lv' := [(4, .int 61), (3, .int 0), (0, .ref a), (1, .long x)]) hx hb dJ7_fill_d0a16_4 hl (by decide) rfl (fun ls hl => ?_)
  refine W.loop (σ := Int32 × Gh) (fun w1 H locs ls => 0 ≤ w1.1.toInt ∧ w1.1.toInt ≤ 61 ∧ Fr τ [32] G w1.2 ∧ TY D cy base τ w1.2 H ∧ va_S (RA base) s.heap H locs ∧ lv_has ls 5 [(3, .int w1.1), (4, .int 61), (0, .ref a), (1, .long x)]) (fun w1 => (61 - w1.1.toInt).toNat) ?_ ((0 : Int32), G) _ _ _ ⟨(by show 0 ≤ (0 : Int32).toInt; decide), (by show (0 : Int32).toInt ≤ 61; decide), hF, hT, hS, lv_sub hl [1, 0, 2, 3] rfl⟩
  intro w1 H locs ls hI ih1
  obtain ⟨x1_3, G_1⟩ := w1
  obtain ⟨i1_0, i1_1, hF, hT, hS, hl⟩ := hI
  have i1_0 : 0 ≤ x1_3.toInt := i1_0
  have i1_1 : x1_3.toInt ≤ 61 := i1_1
  have hF : Fr τ [32] G G_1 := hF
  have hT : TY D cy base τ G_1 H := hT
  have hS : va_S (RA base) s.heap H locs := hS
  have hl : lv_has ls 5 [(3, .int x1_3), (4, .int 61), (0, .ref a), (1, .long x)] := hl
  refine lv_iload_n hx hb dJ7_fill_d0a16_6 rfl (lv_at hl 0 rfl) ?_
  refine lv_iload hx hb dJ7_fill_d0a16_7 (lv_at hl 1 rfl) ?_
  refine lv_icmp_ge (tgt := 22) hx hb dJ7_fill_d0a16_9 (by decide) (fun c_2 => ?_) (fun c_2 => ?_)
  · skip
    have tc_2 : 61 ≤ x1_3.toInt := (fa_le _ _).mp c_2
    exact ret_v hx hb hr hlocks ⟨⟨hS.1, hS.2.1⟩, G_1, hF, ⟨rfl, trivial⟩, hT⟩ hS.2.2 (Nat.le_of_ble_eq_true rfl) (Nat.le_of_ble_eq_true rfl) dJ7_fill_d0a16_22
  · skip
    have tc_2 : ¬ 61 ≤ x1_3.toInt := fun h => c_2 ((fa_le _ _).mpr h)
    refine lv_aload_n hx hb dJ7_fill_d0a16_12 rfl (lv_at hl 2 rfl) ?_
    refine lv_iload_n hx hb dJ7_fill_d0a16_13 rfl (lv_at hl 0 rfl) ?_
    refine lv_lload_n hx hb dJ7_fill_d0a16_14 rfl (lv_at hl 3 rfl) ?_
    refine t_last (n := 61) (i := x1_3) (x := x) rfl (by decide) hx hb hK hT hS h_a (hT.len h_a (by decide)) ⟨by omega, by omega⟩ dJ7_fill_d0a16_15 (fun H locs G_3 eG_3 hT hS => ?_)
    have hF := hF.wL eG_3 h_a rfl
    obtain ⟨z_4, ez_4⟩ : ∃ y : Int32, y = x1_3 + 1 := ⟨_, rfl⟩
    have tz_4 : z_4.toInt = x1_3.toInt + 1 := add_t ez_4 (show -2147483648 ≤ x1_3.toInt + 1 by omega) (show x1_3.toInt + 1 < 2147483648 by omega)
    refine lv_iinc (v := z_4) (lv' := [(3, .int z_4), (4, .int 61), (0, .ref a), (1, .long x)]) hx hb dJ7_fill_d0a16_16 hl (k := 0) rfl (by rw [ez_4]; rfl) (by decide) rfl (fun ls hl => ?_)
    refine lv_goto (tgt := 6) hx hb dJ7_fill_d0a16_19 (by decide) ?_
    exact ih1 (z_4, G_3) _ _ _ (by show (61 - z_4.toInt).toNat < (61 - x1_3.toInt).toNat; omega) ⟨(by show 0 ≤ z_4.toInt; omega), (by show z_4.toInt ≤ 61; omega), hF, hT, hS, lv_sub hl [0, 1, 2, 3] rfl⟩
set_option maxHeartbeats 4000000 in
set_option maxRecDepth 100000 in
theorem t_J7_fill_d0a16_33 (l : Launch) (D : va_G) (cy : Nat → ClassId) (base : Nat) (τ : Nat → Nat) (G : Gh) (a : Nat) (h_a : τ a = 33) (x : Int64) : MM l yJ7_fill_d0a16 cJ7_fill_d0a16 5 none 0 0 0 D cy [.ref a, .long x] (PT D cy base τ G) (QT D cy base τ G [33] (fun v g => v = none ∧ (True))) (RA base) := by
  refine MM.of (by decide) (Nat.le_of_ble_eq_true rfl) ?_
  intro p e s m below meth c C hPT ls hl
  obtain ⟨hx, hb, hr, hml, hown, hts, hlocks, hK, hnm⟩ := C
  obtain ⟨hZ, hT⟩ := hPT
  have hS : va_S (RA base) s.heap s.heap [] := va_S.rf
  have hF : Fr τ [33] G G := Fr.rf
  have hl : lv_has ls 5 [(0, .ref a), (1, .long x)] := hl
  refine lv_iconst (v := 0) hx hb dJ7_fill_d0a16_0 (by decide) ?_
  refine lv_istore_n (lv' := [(3, .int 0), (0, .ref a), (1, .long x)]) hx hb dJ7_fill_d0a16_1 rfl hl (by decide) rfl (fun ls hl => ?_)
  refine lv_aload_n hx hb dJ7_fill_d0a16_2 rfl (lv_at hl 1 rfl) ?_
  refine t_alen (v := 3721) rfl (by decide) hx hb hK hT h_a rfl (by rw [show _ = 3721 from (hT.len h_a (by decide))]; rfl) dJ7_fill_d0a16_3 ?_
  refine lv_istore (lv' := [(4, .int 3721), (3, .int 0), (0, .ref a), (1, .long x)]) hx hb dJ7_fill_d0a16_4 hl (by decide) rfl (fun ls hl => ?_)
  refine W.loop (σ := Int32 × Gh) (fun w1 H locs ls => 0 ≤ w1.1.toInt ∧ w1.1.toInt ≤ 3721 ∧ Fr τ [33] G w1.2 ∧ TY D cy base τ w1.2 H ∧ va_S (RA base) s.heap H locs ∧ lv_has ls 5 [(3, .int w1.1), (4, .int 3721), (0, .ref a), (1, .long x)]) (fun w1 => (3721 - w1.1.toInt).toNat) ?_ ((0 : Int32), G) _ _ _ ⟨(by show 0 ≤ (0 : Int32).toInt; decide), (by show (0 : Int32).toInt ≤ 3721; decide), hF, hT, hS, lv_sub hl [1, 0, 2, 3] rfl⟩
  intro w1 H locs ls hI ih1
  obtain ⟨x1_3, G_1⟩ := w1
  obtain ⟨i1_0, i1_1, hF, hT, hS, hl⟩ := hI
  have i1_0 : 0 ≤ x1_3.toInt := i1_0
  have i1_1 : x1_3.toInt ≤ 3721 := i1_1
  have hF : Fr τ [33] G G_1 := hF
  have hT : TY D cy base τ G_1 H := hT
  have hS : va_S (RA base) s.heap H locs := hS
  have hl : lv_has ls 5 [(3, .int x1_3), (4, .int 3721), (0, .ref a), (1, .long x)] := hl
  refine lv_iload_n hx hb dJ7_fill_d0a16_6 rfl (lv_at hl 0 rfl) ?_
  refine lv_iload hx hb dJ7_fill_d0a16_7 (lv_at hl 1 rfl) ?_
  refine lv_icmp_ge (tgt := 22) hx hb dJ7_fill_d0a16_9 (by decide) (fun c_2 => ?_) (fun c_2 => ?_)
  · skip
    have tc_2 : 3721 ≤ x1_3.toInt := (fa_le _ _).mp c_2
    exact ret_v hx hb hr hlocks ⟨⟨hS.1, hS.2.1⟩, G_1, hF, ⟨rfl, trivial⟩, hT⟩ hS.2.2 (Nat.le_of_ble_eq_true rfl) (Nat.le_of_ble_eq_true rfl) dJ7_fill_d0a16_22
  · skip
    have tc_2 : ¬ 3721 ≤ x1_3.toInt := fun h => c_2 ((fa_le _ _).mpr h)
    refine lv_aload_n hx hb dJ7_fill_d0a16_12 rfl (lv_at hl 2 rfl) ?_
    refine lv_iload_n hx hb dJ7_fill_d0a16_13 rfl (lv_at hl 0 rfl) ?_
    refine lv_lload_n hx hb dJ7_fill_d0a16_14 rfl (lv_at hl 3 rfl) ?_
    refine t_last (n := 3721) (i := x1_3) (x := x) rfl (by decide) hx hb hK hT hS h_a (hT.len h_a (by decide)) ⟨by omega, by omega⟩ dJ7_fill_d0a16_15 (fun H locs G_3 eG_3 hT hS => ?_)
    have hF := hF.wL eG_3 h_a rfl
    obtain ⟨z_4, ez_4⟩ : ∃ y : Int32, y = x1_3 + 1 := ⟨_, rfl⟩
    have tz_4 : z_4.toInt = x1_3.toInt + 1 := add_t ez_4 (show -2147483648 ≤ x1_3.toInt + 1 by omega) (show x1_3.toInt + 1 < 2147483648 by omega)
    refine lv_iinc (v := z_4) (lv' := [(3, .int z_4), (4, .int 3721), (0, .ref a), (1, .long x)]) hx hb dJ7_fill_d0a16_16 hl (k := 0) rfl (by rw [ez_4]; rfl) (by decide) rfl (fun ls hl => ?_)
    refine lv_goto (tgt := 6) hx hb dJ7_fill_d0a16_19 (by decide) ?_
    exact ih1 (z_4, G_3) _ _ _ (by show (3721 - z_4.toInt).toNat < (3721 - x1_3.toInt).toNat; omega) ⟨(by show 0 ≤ z_4.toInt; omega), (by show z_4.toInt ≤ 3721; omega), hF, hT, hS, lv_sub hl [0, 1, 2, 3] rfl⟩
set_option maxHeartbeats 4000000 in
set_option maxRecDepth 100000 in
theorem t_J7_fill_d0a16_34 (l : Launch) (D : va_G) (cy : Nat → ClassId) (base : Nat) (τ : Nat → Nat) (G : Gh) (a : Nat) (h_a : τ a = 34) (x : Int64) : MM l yJ7_fill_d0a16 cJ7_fill_d0a16 5 none 0 0 0 D cy [.ref a, .long x] (PT D cy base τ G) (QT D cy base τ G [34] (fun v g => v = none ∧ (True))) (RA base) := by
  refine MM.of (by decide) (Nat.le_of_ble_eq_true rfl) ?_
  intro p e s m below meth c C hPT ls hl
  obtain ⟨hx, hb, hr, hml, hown, hts, hlocks, hK, hnm⟩ := C
  obtain ⟨hZ, hT⟩ := hPT
  have hS : va_S (RA base) s.heap s.heap [] := va_S.rf
  have hF : Fr τ [34] G G := Fr.rf
  have hl : lv_has ls 5 [(0, .ref a), (1, .long x)] := hl
  refine lv_iconst (v := 0) hx hb dJ7_fill_d0a16_0 (by decide) ?_
  refine lv_istore_n (lv' := [(3, .int 0), (0, .ref a), (1, .long x)]) hx hb dJ7_fill_d0a16_1 rfl hl (by decide) rfl (fun ls hl => ?_)
  refine lv_aload_n hx hb dJ7_fill_d0a16_2 rfl (lv_at hl 1 rfl) ?_
  refine t_alen (v := 122) rfl (by decide) hx hb hK hT h_a rfl (by rw [show _ = 122 from (hT.len h_a (by decide))]; rfl) dJ7_fill_d0a16_3 ?_
  refine lv_istore (lv' := [(4, .int 122), (3, .int 0), (0, .ref a), (1, .long x)]) hx hb dJ7_fill_d0a16_4 hl (by decide) rfl (fun ls hl => ?_)
  refine W.loop (σ := Int32 × Gh) (fun w1 H locs ls => 0 ≤ w1.1.toInt ∧ w1.1.toInt ≤ 122 ∧ Fr τ [34] G w1.2 ∧ TY D cy base τ w1.2 H ∧ va_S (RA base) s.heap H locs ∧ lv_has ls 5 [(3, .int w1.1), (4, .int 122), (0, .ref a), (1, .long x)]) (fun w1 => (122 - w1.1.toInt).toNat) ?_ ((0 : Int32), G) _ _ _ ⟨(by show 0 ≤ (0 : Int32).toInt; decide), (by show (0 : Int32).toInt ≤ 122; decide), hF, hT, hS, lv_sub hl [1, 0, 2, 3] rfl⟩
  intro w1 H locs ls hI ih1
  obtain ⟨x1_3, G_1⟩ := w1
  obtain ⟨i1_0, i1_1, hF, hT, hS, hl⟩ := hI
  have i1_0 : 0 ≤ x1_3.toInt := i1_0
  have i1_1 : x1_3.toInt ≤ 122 := i1_1
  have hF : Fr τ [34] G G_1 := hF
  have hT : TY D cy base τ G_1 H := hT
  have hS : va_S (RA base) s.heap H locs := hS
  have hl : lv_has ls 5 [(3, .int x1_3), (4, .int 122), (0, .ref a), (1, .long x)] := hl
  refine lv_iload_n hx hb dJ7_fill_d0a16_6 rfl (lv_at hl 0 rfl) ?_
  refine lv_iload hx hb dJ7_fill_d0a16_7 (lv_at hl 1 rfl) ?_
  refine lv_icmp_ge (tgt := 22) hx hb dJ7_fill_d0a16_9 (by decide) (fun c_2 => ?_) (fun c_2 => ?_)
  · skip
    have tc_2 : 122 ≤ x1_3.toInt := (fa_le _ _).mp c_2
    exact ret_v hx hb hr hlocks ⟨⟨hS.1, hS.2.1⟩, G_1, hF, ⟨rfl, trivial⟩, hT⟩ hS.2.2 (Nat.le_of_ble_eq_true rfl) (Nat.le_of_ble_eq_true rfl) dJ7_fill_d0a16_22
  · skip
    have tc_2 : ¬ 122 ≤ x1_3.toInt := fun h => c_2 ((fa_le _ _).mpr h)
    refine lv_aload_n hx hb dJ7_fill_d0a16_12 rfl (lv_at hl 2 rfl) ?_
    refine lv_iload_n hx hb dJ7_fill_d0a16_13 rfl (lv_at hl 0 rfl) ?_
    refine lv_lload_n hx hb dJ7_fill_d0a16_14 rfl (lv_at hl 3 rfl) ?_
    refine t_last (n := 122) (i := x1_3) (x := x) rfl (by decide) hx hb hK hT hS h_a (hT.len h_a (by decide)) ⟨by omega, by omega⟩ dJ7_fill_d0a16_15 (fun H locs G_3 eG_3 hT hS => ?_)
    have hF := hF.wL eG_3 h_a rfl
    obtain ⟨z_4, ez_4⟩ : ∃ y : Int32, y = x1_3 + 1 := ⟨_, rfl⟩
    have tz_4 : z_4.toInt = x1_3.toInt + 1 := add_t ez_4 (show -2147483648 ≤ x1_3.toInt + 1 by omega) (show x1_3.toInt + 1 < 2147483648 by omega)
    refine lv_iinc (v := z_4) (lv' := [(3, .int z_4), (4, .int 122), (0, .ref a), (1, .long x)]) hx hb dJ7_fill_d0a16_16 hl (k := 0) rfl (by rw [ez_4]; rfl) (by decide) rfl (fun ls hl => ?_)
    refine lv_goto (tgt := 6) hx hb dJ7_fill_d0a16_19 (by decide) ?_
    exact ih1 (z_4, G_3) _ _ _ (by show (122 - z_4.toInt).toNat < (122 - x1_3.toInt).toNat; omega) ⟨(by show 0 ≤ z_4.toInt; omega), (by show z_4.toInt ≤ 122; omega), hF, hT, hS, lv_sub hl [0, 1, 2, 3] rfl⟩
set_option maxHeartbeats 4000000 in
set_option maxRecDepth 100000 in
theorem t_J7_fill_d0a16_35 (l : Launch) (D : va_G) (cy : Nat → ClassId) (base : Nat) (τ : Nat → Nat) (G : Gh) (a : Nat) (h_a : τ a = 35) (x : Int64) : MM l yJ7_fill_d0a16 cJ7_fill_d0a16 5 none 0 0 0 D cy [.ref a, .long x] (PT D cy base τ G) (QT D cy base τ G [35] (fun v g => v = none ∧ (True))) (RA base) := by
  refine MM.of (by decide) (Nat.le_of_ble_eq_true rfl) ?_
  intro p e s m below meth c C hPT ls hl
  obtain ⟨hx, hb, hr, hml, hown, hts, hlocks, hK, hnm⟩ := C
  obtain ⟨hZ, hT⟩ := hPT
  have hS : va_S (RA base) s.heap s.heap [] := va_S.rf
  have hF : Fr τ [35] G G := Fr.rf
  have hl : lv_has ls 5 [(0, .ref a), (1, .long x)] := hl
  refine lv_iconst (v := 0) hx hb dJ7_fill_d0a16_0 (by decide) ?_
  refine lv_istore_n (lv' := [(3, .int 0), (0, .ref a), (1, .long x)]) hx hb dJ7_fill_d0a16_1 rfl hl (by decide) rfl (fun ls hl => ?_)
  refine lv_aload_n hx hb dJ7_fill_d0a16_2 rfl (lv_at hl 1 rfl) ?_
  refine t_alen (v := 64) rfl (by decide) hx hb hK hT h_a rfl (by rw [show _ = 64 from (hT.len h_a (by decide))]; rfl) dJ7_fill_d0a16_3 ?_
  refine lv_istore (lv' := [(4, .int 64), (3, .int 0), (0, .ref a), (1, .long x)]) hx hb dJ7_fill_d0a16_4 hl (by decide) rfl (fun ls hl => ?_)
  refine W.loop (σ := Int32 × Gh) (fun w1 H locs ls => 0 ≤ w1.1.toInt ∧ w1.1.toInt ≤ 64 ∧ Fr τ [35] G w1.2 ∧ TY D cy base τ w1.2 H ∧ va_S (RA base) s.heap H locs ∧ lv_has ls 5 [(3, .int w1.1), (4, .int 64), (0, .ref a), (1, .long x)]) (fun w1 => (64 - w1.1.toInt).toNat) ?_ ((0 : Int32), G) _ _ _ ⟨(by show 0 ≤ (0 : Int32).toInt; decide), (by show (0 : Int32).toInt ≤ 64; decide), hF, hT, hS, lv_sub hl [1, 0, 2, 3] rfl⟩
  intro w1 H locs ls hI ih1
  obtain ⟨x1_3, G_1⟩ := w1
  obtain ⟨i1_0, i1_1, hF, hT, hS, hl⟩ := hI
  have i1_0 : 0 ≤ x1_3.toInt := i1_0
  have i1_1 : x1_3.toInt ≤ 64 := i1_1
  have hF : Fr τ [35] G G_1 := hF
  have hT : TY D cy base τ G_1 H := hT
  have hS : va_S (RA base) s.heap H locs := hS
  have hl : lv_has ls 5 [(3, .int x1_3), (4, .int 64), (0, .ref a), (1, .long x)] := hl
  refine lv_iload_n hx hb dJ7_fill_d0a16_6 rfl (lv_at hl 0 rfl) ?_
  refine lv_iload hx hb dJ7_fill_d0a16_7 (lv_at hl 1 rfl) ?_
  refine lv_icmp_ge (tgt := 22) hx hb dJ7_fill_d0a16_9 (by decide) (fun c_2 => ?_) (fun c_2 => ?_)
  · skip
    have tc_2 : 64 ≤ x1_3.toInt := (fa_le _ _).mp c_2
    exact ret_v hx hb hr hlocks ⟨⟨hS.1, hS.2.1⟩, G_1, hF, ⟨rfl, trivial⟩, hT⟩ hS.2.2 (Nat.le_of_ble_eq_true rfl) (Nat.le_of_ble_eq_true rfl) dJ7_fill_d0a16_22
  · skip
    have tc_2 : ¬ 64 ≤ x1_3.toInt := fun h => c_2 ((fa_le _ _).mpr h)
    refine lv_aload_n hx hb dJ7_fill_d0a16_12 rfl (lv_at hl 2 rfl) ?_
    refine lv_iload_n hx hb dJ7_fill_d0a16_13 rfl (lv_at hl 0 rfl) ?_
    refine lv_lload_n hx hb dJ7_fill_d0a16_14 rfl (lv_at hl 3 rfl) ?_
    refine t_last (n := 64) (i := x1_3) (x := x) rfl (by decide) hx hb hK hT hS h_a (hT.len h_a (by decide)) ⟨by omega, by omega⟩ dJ7_fill_d0a16_15 (fun H locs G_3 eG_3 hT hS => ?_)
    have hF := hF.wL eG_3 h_a rfl
    obtain ⟨z_4, ez_4⟩ : ∃ y : Int32, y = x1_3 + 1 := ⟨_, rfl⟩
    have tz_4 : z_4.toInt = x1_3.toInt + 1 := add_t ez_4 (show -2147483648 ≤ x1_3.toInt + 1 by omega) (show x1_3.toInt + 1 < 2147483648 by omega)
    refine lv_iinc (v := z_4) (lv' := [(3, .int z_4), (4, .int 64), (0, .ref a), (1, .long x)]) hx hb dJ7_fill_d0a16_16 hl (k := 0) rfl (by rw [ez_4]; rfl) (by decide) rfl (fun ls hl => ?_)
    refine lv_goto (tgt := 6) hx hb dJ7_fill_d0a16_19 (by decide) ?_
    exact ih1 (z_4, G_3) _ _ _ (by show (64 - z_4.toInt).toNat < (64 - x1_3.toInt).toNat; omega) ⟨(by show 0 ≤ z_4.toInt; omega), (by show z_4.toInt ≤ 64; omega), hF, hT, hS, lv_sub hl [0, 1, 2, 3] rfl⟩
set_option maxHeartbeats 4000000 in
set_option maxRecDepth 100000 in
theorem t_J7_fill_d0a16_36 (l : Launch) (D : va_G) (cy : Nat → ClassId) (base : Nat) (τ : Nat → Nat) (G : Gh) (a : Nat) (h_a : τ a = 36) (x : Int64) : MM l yJ7_fill_d0a16 cJ7_fill_d0a16 5 none 0 0 0 D cy [.ref a, .long x] (PT D cy base τ G) (QT D cy base τ G [36] (fun v g => v = none ∧ (True))) (RA base) := by
  refine MM.of (by decide) (Nat.le_of_ble_eq_true rfl) ?_
  intro p e s m below meth c C hPT ls hl
  obtain ⟨hx, hb, hr, hml, hown, hts, hlocks, hK, hnm⟩ := C
  obtain ⟨hZ, hT⟩ := hPT
  have hS : va_S (RA base) s.heap s.heap [] := va_S.rf
  have hF : Fr τ [36] G G := Fr.rf
  have hl : lv_has ls 5 [(0, .ref a), (1, .long x)] := hl
  refine lv_iconst (v := 0) hx hb dJ7_fill_d0a16_0 (by decide) ?_
  refine lv_istore_n (lv' := [(3, .int 0), (0, .ref a), (1, .long x)]) hx hb dJ7_fill_d0a16_1 rfl hl (by decide) rfl (fun ls hl => ?_)
  refine lv_aload_n hx hb dJ7_fill_d0a16_2 rfl (lv_at hl 1 rfl) ?_
  refine t_alen (v := 1081) rfl (by decide) hx hb hK hT h_a rfl (by rw [show _ = 1081 from (hT.len h_a (by decide))]; rfl) dJ7_fill_d0a16_3 ?_
  refine lv_istore (lv' := [(4, .int 1081), (3, .int 0), (0, .ref a), (1, .long x)]) hx hb dJ7_fill_d0a16_4 hl (by decide) rfl (fun ls hl => ?_)
  refine W.loop (σ := Int32 × Gh) (fun w1 H locs ls => 0 ≤ w1.1.toInt ∧ w1.1.toInt ≤ 1081 ∧ Fr τ [36] G w1.2 ∧ TY D cy base τ w1.2 H ∧ va_S (RA base) s.heap H locs ∧ lv_has ls 5 [(3, .int w1.1), (4, .int 1081), (0, .ref a), (1, .long x)]) (fun w1 => (1081 - w1.1.toInt).toNat) ?_ ((0 : Int32), G) _ _ _ ⟨(by show 0 ≤ (0 : Int32).toInt; decide), (by show (0 : Int32).toInt ≤ 1081; decide), hF, hT, hS, lv_sub hl [1, 0, 2, 3] rfl⟩
  intro w1 H locs ls hI ih1
  obtain ⟨x1_3, G_1⟩ := w1
  obtain ⟨i1_0, i1_1, hF, hT, hS, hl⟩ := hI
  have i1_0 : 0 ≤ x1_3.toInt := i1_0
  have i1_1 : x1_3.toInt ≤ 1081 := i1_1
  have hF : Fr τ [36] G G_1 := hF
  have hT : TY D cy base τ G_1 H := hT
  have hS : va_S (RA base) s.heap H locs := hS
  have hl : lv_has ls 5 [(3, .int x1_3), (4, .int 1081), (0, .ref a), (1, .long x)] := hl
  refine lv_iload_n hx hb dJ7_fill_d0a16_6 rfl (lv_at hl 0 rfl) ?_
  refine lv_iload hx hb dJ7_fill_d0a16_7 (lv_at hl 1 rfl) ?_
  refine lv_icmp_ge (tgt := 22) hx hb dJ7_fill_d0a16_9 (by decide) (fun c_2 => ?_) (fun c_2 => ?_)
  · skip
    have tc_2 : 1081 ≤ x1_3.toInt := (fa_le _ _).mp c_2
    exact ret_v hx hb hr hlocks ⟨⟨hS.1, hS.2.1⟩, G_1, hF, ⟨rfl, trivial⟩, hT⟩ hS.2.2 (Nat.le_of_ble_eq_true rfl) (Nat.le_of_ble_eq_true rfl) dJ7_fill_d0a16_22
  · skip
    have tc_2 : ¬ 1081 ≤ x1_3.toInt := fun h => c_2 ((fa_le _ _).mpr h)
    refine lv_aload_n hx hb dJ7_fill_d0a16_12 rfl (lv_at hl 2 rfl) ?_
    refine lv_iload_n hx hb dJ7_fill_d0a16_13 rfl (lv_at hl 0 rfl) ?_
    refine lv_lload_n hx hb dJ7_fill_d0a16_14 rfl (lv_at hl 3 rfl) ?_
    refine t_last (n := 1081) (i := x1_3) (x := x) rfl (by decide) hx hb hK hT hS h_a (hT.len h_a (by decide)) ⟨by omega, by omega⟩ dJ7_fill_d0a16_15 (fun H locs G_3 eG_3 hT hS => ?_)
    have hF := hF.wL eG_3 h_a rfl
    obtain ⟨z_4, ez_4⟩ : ∃ y : Int32, y = x1_3 + 1 := ⟨_, rfl⟩
    have tz_4 : z_4.toInt = x1_3.toInt + 1 := add_t ez_4 (show -2147483648 ≤ x1_3.toInt + 1 by omega) (show x1_3.toInt + 1 < 2147483648 by omega)
    refine lv_iinc (v := z_4) (lv' := [(3, .int z_4), (4, .int 1081), (0, .ref a), (1, .long x)]) hx hb dJ7_fill_d0a16_16 hl (k := 0) rfl (by rw [ez_4]; rfl) (by decide) rfl (fun ls hl => ?_)
    refine lv_goto (tgt := 6) hx hb dJ7_fill_d0a16_19 (by decide) ?_
    exact ih1 (z_4, G_3) _ _ _ (by show (1081 - z_4.toInt).toNat < (1081 - x1_3.toInt).toNat; omega) ⟨(by show 0 ≤ z_4.toInt; omega), (by show z_4.toInt ≤ 1081; omega), hF, hT, hS, lv_sub hl [0, 1, 2, 3] rfl⟩
set_option maxHeartbeats 4000000 in
set_option maxRecDepth 100000 in
theorem t_J7_fill_53178_38 (l : Launch) (D : va_G) (cy : Nat → ClassId) (base : Nat) (τ : Nat → Nat) (G : Gh) (a : Nat) (h_a : τ a = 38) : MM l yJ7_fill_53178 cJ7_fill_53178 4 none 0 0 0 D cy [.ref a, .int 0] (PT D cy base τ G) (QT D cy base τ G [38] (fun v g => v = none ∧ (True))) (RA base) := by
  refine MM.of (by decide) (Nat.le_of_ble_eq_true rfl) ?_
  intro p e s m below meth c C hPT ls hl
  obtain ⟨hx, hb, hr, hml, hown, hts, hlocks, hK, hnm⟩ := C
  obtain ⟨hZ, hT⟩ := hPT
  have hS : va_S (RA base) s.heap s.heap [] := va_S.rf
  have hF : Fr τ [38] G G := Fr.rf
  have hl : lv_has ls 4 [(0, .ref a), (1, .int 0)] := hl
  refine lv_iconst (v := 0) hx hb dJ7_fill_53178_0 (by decide) ?_
  refine lv_istore_n (lv' := [(2, .int 0), (0, .ref a), (1, .int 0)]) hx hb dJ7_fill_53178_1 rfl hl (by decide) rfl (fun ls hl => ?_)
  refine lv_aload_n hx hb dJ7_fill_53178_2 rfl (lv_at hl 1 rfl) ?_
  refine t_alen (v := 3) rfl (by decide) hx hb hK hT h_a rfl (by rw [show _ = 3 from (hT.len h_a (by decide))]; rfl) dJ7_fill_53178_3 ?_
  refine lv_istore_n (lv' := [(3, .int 3), (2, .int 0), (0, .ref a), (1, .int 0)]) hx hb dJ7_fill_53178_4 rfl hl (by decide) rfl (fun ls hl => ?_)
  refine W.loop (σ := Int32 × Gh) (fun w1 H locs ls => 0 ≤ w1.1.toInt ∧ w1.1.toInt ≤ 3 ∧ Fr τ [38] G w1.2 ∧ TY D cy base τ w1.2 H ∧ va_S (RA base) s.heap H locs ∧ lv_has ls 4 [(2, .int w1.1), (3, .int 3), (0, .ref a), (1, .int 0)]) (fun w1 => (3 - w1.1.toInt).toNat) ?_ ((0 : Int32), G) _ _ _ ⟨(by show 0 ≤ (0 : Int32).toInt; decide), (by show (0 : Int32).toInt ≤ 3; decide), hF, hT, hS, lv_sub hl [1, 0, 2, 3] rfl⟩
  intro w1 H locs ls hI ih1
  obtain ⟨x1_2, G_1⟩ := w1
  obtain ⟨i1_0, i1_1, hF, hT, hS, hl⟩ := hI
  have i1_0 : 0 ≤ x1_2.toInt := i1_0
  have i1_1 : x1_2.toInt ≤ 3 := i1_1
  have hF : Fr τ [38] G G_1 := hF
  have hT : TY D cy base τ G_1 H := hT
  have hS : va_S (RA base) s.heap H locs := hS
  have hl : lv_has ls 4 [(2, .int x1_2), (3, .int 3), (0, .ref a), (1, .int 0)] := hl
  refine lv_iload_n hx hb dJ7_fill_53178_5 rfl (lv_at hl 0 rfl) ?_
  refine lv_iload_n hx hb dJ7_fill_53178_6 rfl (lv_at hl 1 rfl) ?_
  refine lv_icmp_ge (tgt := 20) hx hb dJ7_fill_53178_7 (by decide) (fun c_2 => ?_) (fun c_2 => ?_)
  · skip
    have tc_2 : 3 ≤ x1_2.toInt := (fa_le _ _).mp c_2
    exact ret_v hx hb hr hlocks ⟨⟨hS.1, hS.2.1⟩, G_1, hF, ⟨rfl, trivial⟩, hT⟩ hS.2.2 (Nat.le_of_ble_eq_true rfl) (Nat.le_of_ble_eq_true rfl) dJ7_fill_53178_20
  · skip
    have tc_2 : ¬ 3 ≤ x1_2.toInt := fun h => c_2 ((fa_le _ _).mpr h)
    refine lv_aload_n hx hb dJ7_fill_53178_10 rfl (lv_at hl 2 rfl) ?_
    refine lv_iload_n hx hb dJ7_fill_53178_11 rfl (lv_at hl 0 rfl) ?_
    refine lv_iload_n hx hb dJ7_fill_53178_12 rfl (lv_at hl 3 rfl) ?_
    refine t_iast (n := 3) (i := x1_2) (x := 0) rfl (by decide) hx hb hK hT hS h_a (hT.len h_a (by decide)) ⟨by omega, by omega⟩ trivial dJ7_fill_53178_13 (fun H locs G_3 eG_3 hT hS => ?_)
    have hF := hF.wI eG_3 h_a rfl
    obtain ⟨z_4, ez_4⟩ : ∃ y : Int32, y = x1_2 + 1 := ⟨_, rfl⟩
    have tz_4 : z_4.toInt = x1_2.toInt + 1 := add_t ez_4 (show -2147483648 ≤ x1_2.toInt + 1 by omega) (show x1_2.toInt + 1 < 2147483648 by omega)
    refine lv_iinc (v := z_4) (lv' := [(2, .int z_4), (3, .int 3), (0, .ref a), (1, .int 0)]) hx hb dJ7_fill_53178_14 hl (k := 0) rfl (by rw [ez_4]; rfl) (by decide) rfl (fun ls hl => ?_)
    refine lv_goto (tgt := 5) hx hb dJ7_fill_53178_17 (by decide) ?_
    exact ih1 (z_4, G_3) _ _ _ (by show (3 - z_4.toInt).toNat < (3 - x1_2.toInt).toNat; omega) ⟨(by show 0 ≤ z_4.toInt; omega), (by show z_4.toInt ≤ 3; omega), hF, hT, hS, lv_sub hl [0, 1, 2, 3] rfl⟩
set_option maxHeartbeats 4000000 in
set_option maxRecDepth 100000 in
theorem t_J7_fill_53178_39 (l : Launch) (D : va_G) (cy : Nat → ClassId) (base : Nat) (τ : Nat → Nat) (G : Gh) (a : Nat) (h_a : τ a = 39) : MM l yJ7_fill_53178 cJ7_fill_53178 4 none 0 0 0 D cy [.ref a, .int 0] (PT D cy base τ G) (QT D cy base τ G [39] (fun v g => v = none ∧ (True))) (RA base) := by
  refine MM.of (by decide) (Nat.le_of_ble_eq_true rfl) ?_
  intro p e s m below meth c C hPT ls hl
  obtain ⟨hx, hb, hr, hml, hown, hts, hlocks, hK, hnm⟩ := C
  obtain ⟨hZ, hT⟩ := hPT
  have hS : va_S (RA base) s.heap s.heap [] := va_S.rf
  have hF : Fr τ [39] G G := Fr.rf
  have hl : lv_has ls 4 [(0, .ref a), (1, .int 0)] := hl
  refine lv_iconst (v := 0) hx hb dJ7_fill_53178_0 (by decide) ?_
  refine lv_istore_n (lv' := [(2, .int 0), (0, .ref a), (1, .int 0)]) hx hb dJ7_fill_53178_1 rfl hl (by decide) rfl (fun ls hl => ?_)
  refine lv_aload_n hx hb dJ7_fill_53178_2 rfl (lv_at hl 1 rfl) ?_
  refine t_alen (v := 6) rfl (by decide) hx hb hK hT h_a rfl (by rw [show _ = 6 from (hT.len h_a (by decide))]; rfl) dJ7_fill_53178_3 ?_
  refine lv_istore_n (lv' := [(3, .int 6), (2, .int 0), (0, .ref a), (1, .int 0)]) hx hb dJ7_fill_53178_4 rfl hl (by decide) rfl (fun ls hl => ?_)
  refine W.loop (σ := Int32 × Gh) (fun w1 H locs ls => 0 ≤ w1.1.toInt ∧ w1.1.toInt ≤ 6 ∧ Fr τ [39] G w1.2 ∧ TY D cy base τ w1.2 H ∧ va_S (RA base) s.heap H locs ∧ lv_has ls 4 [(2, .int w1.1), (3, .int 6), (0, .ref a), (1, .int 0)]) (fun w1 => (6 - w1.1.toInt).toNat) ?_ ((0 : Int32), G) _ _ _ ⟨(by show 0 ≤ (0 : Int32).toInt; decide), (by show (0 : Int32).toInt ≤ 6; decide), hF, hT, hS, lv_sub hl [1, 0, 2, 3] rfl⟩
  intro w1 H locs ls hI ih1
  obtain ⟨x1_2, G_1⟩ := w1
  obtain ⟨i1_0, i1_1, hF, hT, hS, hl⟩ := hI
  have i1_0 : 0 ≤ x1_2.toInt := i1_0
  have i1_1 : x1_2.toInt ≤ 6 := i1_1
  have hF : Fr τ [39] G G_1 := hF
  have hT : TY D cy base τ G_1 H := hT
  have hS : va_S (RA base) s.heap H locs := hS
  have hl : lv_has ls 4 [(2, .int x1_2), (3, .int 6), (0, .ref a), (1, .int 0)] := hl
  refine lv_iload_n hx hb dJ7_fill_53178_5 rfl (lv_at hl 0 rfl) ?_
  refine lv_iload_n hx hb dJ7_fill_53178_6 rfl (lv_at hl 1 rfl) ?_
  refine lv_icmp_ge (tgt := 20) hx hb dJ7_fill_53178_7 (by decide) (fun c_2 => ?_) (fun c_2 => ?_)
  · skip
    have tc_2 : 6 ≤ x1_2.toInt := (fa_le _ _).mp c_2
    exact ret_v hx hb hr hlocks ⟨⟨hS.1, hS.2.1⟩, G_1, hF, ⟨rfl, trivial⟩, hT⟩ hS.2.2 (Nat.le_of_ble_eq_true rfl) (Nat.le_of_ble_eq_true rfl) dJ7_fill_53178_20
  · skip
    have tc_2 : ¬ 6 ≤ x1_2.toInt := fun h => c_2 ((fa_le _ _).mpr h)
    refine lv_aload_n hx hb dJ7_fill_53178_10 rfl (lv_at hl 2 rfl) ?_
    refine lv_iload_n hx hb dJ7_fill_53178_11 rfl (lv_at hl 0 rfl) ?_
    refine lv_iload_n hx hb dJ7_fill_53178_12 rfl (lv_at hl 3 rfl) ?_
    refine t_iast (n := 6) (i := x1_2) (x := 0) rfl (by decide) hx hb hK hT hS h_a (hT.len h_a (by decide)) ⟨by omega, by omega⟩ (show 0 ≤ (0 : Int32).toInt ∧ (0 : Int32).toInt ≤ 999 from by decide) dJ7_fill_53178_13 (fun H locs G_3 eG_3 hT hS => ?_)
    have hF := hF.wI eG_3 h_a rfl
    obtain ⟨z_4, ez_4⟩ : ∃ y : Int32, y = x1_2 + 1 := ⟨_, rfl⟩
    have tz_4 : z_4.toInt = x1_2.toInt + 1 := add_t ez_4 (show -2147483648 ≤ x1_2.toInt + 1 by omega) (show x1_2.toInt + 1 < 2147483648 by omega)
    refine lv_iinc (v := z_4) (lv' := [(2, .int z_4), (3, .int 6), (0, .ref a), (1, .int 0)]) hx hb dJ7_fill_53178_14 hl (k := 0) rfl (by rw [ez_4]; rfl) (by decide) rfl (fun ls hl => ?_)
    refine lv_goto (tgt := 5) hx hb dJ7_fill_53178_17 (by decide) ?_
    exact ih1 (z_4, G_3) _ _ _ (by show (6 - z_4.toInt).toNat < (6 - x1_2.toInt).toNat; omega) ⟨(by show 0 ≤ z_4.toInt; omega), (by show z_4.toInt ≤ 6; omega), hF, hT, hS, lv_sub hl [0, 1, 2, 3] rfl⟩
set_option maxHeartbeats 4000000 in
set_option maxRecDepth 100000 in
theorem t_J7_fill_53178_25 (l : Launch) (D : va_G) (cy : Nat → ClassId) (base : Nat) (τ : Nat → Nat) (G : Gh) (a : Nat) (h_a : τ a = 25) : MM l yJ7_fill_53178 cJ7_fill_53178 4 none 0 0 0 D cy [.ref a, .int 0] (PT D cy base τ G) (QT D cy base τ G [25] (fun v g => v = none ∧ (True))) (RA base) := by
  refine MM.of (by decide) (Nat.le_of_ble_eq_true rfl) ?_
  intro p e s m below meth c C hPT ls hl
  obtain ⟨hx, hb, hr, hml, hown, hts, hlocks, hK, hnm⟩ := C
  obtain ⟨hZ, hT⟩ := hPT
  have hS : va_S (RA base) s.heap s.heap [] := va_S.rf
  have hF : Fr τ [25] G G := Fr.rf
  have hl : lv_has ls 4 [(0, .ref a), (1, .int 0)] := hl
  refine lv_iconst (v := 0) hx hb dJ7_fill_53178_0 (by decide) ?_
  refine lv_istore_n (lv' := [(2, .int 0), (0, .ref a), (1, .int 0)]) hx hb dJ7_fill_53178_1 rfl hl (by decide) rfl (fun ls hl => ?_)
  refine lv_aload_n hx hb dJ7_fill_53178_2 rfl (lv_at hl 1 rfl) ?_
  refine t_alen (v := 6) rfl (by decide) hx hb hK hT h_a rfl (by rw [show _ = 6 from (hT.len h_a (by decide))]; rfl) dJ7_fill_53178_3 ?_
  refine lv_istore_n (lv' := [(3, .int 6), (2, .int 0), (0, .ref a), (1, .int 0)]) hx hb dJ7_fill_53178_4 rfl hl (by decide) rfl (fun ls hl => ?_)
  refine W.loop (σ := Int32 × Gh) (fun w1 H locs ls => 0 ≤ w1.1.toInt ∧ w1.1.toInt ≤ 6 ∧ Fr τ [25] G w1.2 ∧ TY D cy base τ w1.2 H ∧ va_S (RA base) s.heap H locs ∧ lv_has ls 4 [(2, .int w1.1), (3, .int 6), (0, .ref a), (1, .int 0)]) (fun w1 => (6 - w1.1.toInt).toNat) ?_ ((0 : Int32), G) _ _ _ ⟨(by show 0 ≤ (0 : Int32).toInt; decide), (by show (0 : Int32).toInt ≤ 6; decide), hF, hT, hS, lv_sub hl [1, 0, 2, 3] rfl⟩
  intro w1 H locs ls hI ih1
  obtain ⟨x1_2, G_1⟩ := w1
  obtain ⟨i1_0, i1_1, hF, hT, hS, hl⟩ := hI
  have i1_0 : 0 ≤ x1_2.toInt := i1_0
  have i1_1 : x1_2.toInt ≤ 6 := i1_1
  have hF : Fr τ [25] G G_1 := hF
  have hT : TY D cy base τ G_1 H := hT
  have hS : va_S (RA base) s.heap H locs := hS
  have hl : lv_has ls 4 [(2, .int x1_2), (3, .int 6), (0, .ref a), (1, .int 0)] := hl
  refine lv_iload_n hx hb dJ7_fill_53178_5 rfl (lv_at hl 0 rfl) ?_
  refine lv_iload_n hx hb dJ7_fill_53178_6 rfl (lv_at hl 1 rfl) ?_
  refine lv_icmp_ge (tgt := 20) hx hb dJ7_fill_53178_7 (by decide) (fun c_2 => ?_) (fun c_2 => ?_)
  · skip
    have tc_2 : 6 ≤ x1_2.toInt := (fa_le _ _).mp c_2
    exact ret_v hx hb hr hlocks ⟨⟨hS.1, hS.2.1⟩, G_1, hF, ⟨rfl, trivial⟩, hT⟩ hS.2.2 (Nat.le_of_ble_eq_true rfl) (Nat.le_of_ble_eq_true rfl) dJ7_fill_53178_20
  · skip
    have tc_2 : ¬ 6 ≤ x1_2.toInt := fun h => c_2 ((fa_le _ _).mpr h)
    refine lv_aload_n hx hb dJ7_fill_53178_10 rfl (lv_at hl 2 rfl) ?_
    refine lv_iload_n hx hb dJ7_fill_53178_11 rfl (lv_at hl 0 rfl) ?_
    refine lv_iload_n hx hb dJ7_fill_53178_12 rfl (lv_at hl 3 rfl) ?_
    refine t_iast (n := 6) (i := x1_2) (x := 0) rfl (by decide) hx hb hK hT hS h_a (hT.len h_a (by decide)) ⟨by omega, by omega⟩ trivial dJ7_fill_53178_13 (fun H locs G_3 eG_3 hT hS => ?_)
    have hF := hF.wI eG_3 h_a rfl
    obtain ⟨z_4, ez_4⟩ : ∃ y : Int32, y = x1_2 + 1 := ⟨_, rfl⟩
    have tz_4 : z_4.toInt = x1_2.toInt + 1 := add_t ez_4 (show -2147483648 ≤ x1_2.toInt + 1 by omega) (show x1_2.toInt + 1 < 2147483648 by omega)
    refine lv_iinc (v := z_4) (lv' := [(2, .int z_4), (3, .int 6), (0, .ref a), (1, .int 0)]) hx hb dJ7_fill_53178_14 hl (k := 0) rfl (by rw [ez_4]; rfl) (by decide) rfl (fun ls hl => ?_)
    refine lv_goto (tgt := 5) hx hb dJ7_fill_53178_17 (by decide) ?_
    exact ih1 (z_4, G_3) _ _ _ (by show (6 - z_4.toInt).toNat < (6 - x1_2.toInt).toNat; omega) ⟨(by show 0 ≤ z_4.toInt; omega), (by show z_4.toInt ≤ 6; omega), hF, hT, hS, lv_sub hl [0, 1, 2, 3] rfl⟩
