theorem dX7_sumUpTo_0 : decode cX7_sumUpTo 0 = .ok (.iconst 0, 1) := by decide +kernel
theorem dX7_sumUpTo_1 : decode cX7_sumUpTo 1 = .ok (.istore_n 2, 1) := by decide +kernel
theorem dX7_sumUpTo_2 : decode cX7_sumUpTo 2 = .ok (.iconst 0, 1) := by decide +kernel
theorem dX7_sumUpTo_3 : decode cX7_sumUpTo 3 = .ok (.istore_n 3, 1) := by decide +kernel
theorem dX7_sumUpTo_4 : decode cX7_sumUpTo 4 = .ok (.iload_n 3, 1) := by decide +kernel
theorem dX7_sumUpTo_5 : decode cX7_sumUpTo 5 = .ok (.bipush 6, 2) := by decide +kernel
theorem dX7_sumUpTo_7 : decode cX7_sumUpTo 7 = .ok (.if_icmp .ge 32, 3) := by decide +kernel
theorem dX7_sumUpTo_39 : decode cX7_sumUpTo 39 = .ok (.iload_n 2, 1) := by decide +kernel
theorem dX7_sumUpTo_40 : decode cX7_sumUpTo 40 = .ok (.ireturn, 1) := by decide +kernel
theorem dX7_sumUpTo_10 : decode cX7_sumUpTo 10 = .ok (.iload_n 2, 1) := by decide +kernel
theorem dX7_sumUpTo_11 : decode cX7_sumUpTo 11 = .ok (.aload_n 0, 1) := by decide +kernel
theorem dX7_sumUpTo_12 : decode cX7_sumUpTo 12 = .ok (.getfield 9, 3) := by decide +kernel
theorem dX7_sumUpTo_15 : decode cX7_sumUpTo 15 = .ok (.iload_n 3, 1) := by decide +kernel
theorem dX7_sumUpTo_16 : decode cX7_sumUpTo 16 = .ok (.iaload, 1) := by decide +kernel
theorem dX7_sumUpTo_17 : decode cX7_sumUpTo 17 = .ok (.iload_n 1, 1) := by decide +kernel
theorem dX7_sumUpTo_18 : decode cX7_sumUpTo 18 = .ok (.if_icmp .ge 12, 3) := by decide +kernel
theorem dX7_sumUpTo_30 : decode cX7_sumUpTo 30 = .ok (.iload_n 1, 1) := by decide +kernel
theorem dX7_sumUpTo_31 : decode cX7_sumUpTo 31 = .ok (.iadd, 1) := by decide +kernel
theorem dX7_sumUpTo_32 : decode cX7_sumUpTo 32 = .ok (.istore_n 2, 1) := by decide +kernel
theorem dX7_sumUpTo_33 : decode cX7_sumUpTo 33 = .ok (.iinc 3 1, 3) := by decide +kernel
theorem dX7_sumUpTo_36 : decode cX7_sumUpTo 36 = .ok (.goto (-32), 3) := by decide +kernel
theorem dX7_sumUpTo_21 : decode cX7_sumUpTo 21 = .ok (.aload_n 0, 1) := by decide +kernel
theorem dX7_sumUpTo_22 : decode cX7_sumUpTo 22 = .ok (.getfield 9, 3) := by decide +kernel
theorem dX7_sumUpTo_25 : decode cX7_sumUpTo 25 = .ok (.iload_n 3, 1) := by decide +kernel
theorem dX7_sumUpTo_26 : decode cX7_sumUpTo 26 = .ok (.iaload, 1) := by decide +kernel
theorem dX7_sumUpTo_27 : decode cX7_sumUpTo 27 = .ok (.goto 4, 3) := by decide +kernel
theorem dX7_level_0 : decode cX7_level 0 = .ok (.iconst 0, 1) := by decide +kernel
theorem dX7_level_1 : decode cX7_level 1 = .ok (.istore_n 2, 1) := by decide +kernel
theorem dX7_level_2 : decode cX7_level 2 = .ok (.sipush 999, 3) := by decide +kernel
theorem dX7_level_5 : decode cX7_level 5 = .ok (.istore_n 3, 1) := by decide +kernel
theorem dX7_level_6 : decode cX7_level 6 = .ok (.iconst 0, 1) := by decide +kernel
theorem dX7_level_7 : decode cX7_level 7 = .ok (.istore 4, 2) := by decide +kernel
theorem dX7_level_9 : decode cX7_level 9 = .ok (.iload 4, 2) := by decide +kernel
theorem dX7_level_11 : decode cX7_level 11 = .ok (.bipush 10, 2) := by decide +kernel
theorem dX7_level_13 : decode cX7_level 13 = .ok (.if_icmp .ge 44, 3) := by decide +kernel
theorem dX7_level_57 : decode cX7_level 57 = .ok (.iload_n 2, 1) := by decide +kernel
theorem dX7_level_58 : decode cX7_level 58 = .ok (.ireturn, 1) := by decide +kernel
theorem dX7_level_16 : decode cX7_level 16 = .ok (.iload_n 2, 1) := by decide +kernel
theorem dX7_level_17 : decode cX7_level 17 = .ok (.iload_n 3, 1) := by decide +kernel
theorem dX7_level_18 : decode cX7_level 18 = .ok (.if_icmp .ge 39, 3) := by decide +kernel
theorem dX7_level_21 : decode cX7_level 21 = .ok (.iload_n 2, 1) := by decide +kernel
theorem dX7_level_22 : decode cX7_level 22 = .ok (.iload_n 3, 1) := by decide +kernel
theorem dX7_level_23 : decode cX7_level 23 = .ok (.iadd, 1) := by decide +kernel
theorem dX7_level_24 : decode cX7_level 24 = .ok (.iconst 1, 1) := by decide +kernel
theorem dX7_level_25 : decode cX7_level 25 = .ok (.iadd, 1) := by decide +kernel
theorem dX7_level_26 : decode cX7_level 26 = .ok (.iconst 2, 1) := by decide +kernel
theorem dX7_level_27 : decode cX7_level 27 = .ok (.idiv, 1) := by decide +kernel
theorem dX7_level_28 : decode cX7_level 28 = .ok (.istore 5, 2) := by decide +kernel
theorem dX7_level_30 : decode cX7_level 30 = .ok (.aload_n 0, 1) := by decide +kernel
theorem dX7_level_31 : decode cX7_level 31 = .ok (.iload 5, 2) := by decide +kernel
theorem dX7_level_33 : decode cX7_level 33 = .ok (.invokevirtual 38, 3) := by decide +kernel
theorem dX7_level_36 : decode cX7_level 36 = .ok (.iload_n 1, 1) := by decide +kernel
theorem dX7_level_37 : decode cX7_level 37 = .ok (.if_icmp .gt 9, 3) := by decide +kernel
theorem dX7_level_46 : decode cX7_level 46 = .ok (.iload 5, 2) := by decide +kernel
theorem dX7_level_48 : decode cX7_level 48 = .ok (.iconst 1, 1) := by decide +kernel
theorem dX7_level_49 : decode cX7_level 49 = .ok (.isub, 1) := by decide +kernel
theorem dX7_level_50 : decode cX7_level 50 = .ok (.istore_n 3, 1) := by decide +kernel
theorem dX7_level_51 : decode cX7_level 51 = .ok (.iinc 4 1, 3) := by decide +kernel
theorem dX7_level_54 : decode cX7_level 54 = .ok (.goto (-45), 3) := by decide +kernel
theorem dX7_level_40 : decode cX7_level 40 = .ok (.iload 5, 2) := by decide +kernel
theorem dX7_level_42 : decode cX7_level 42 = .ok (.istore_n 2, 1) := by decide +kernel
theorem dX7_level_43 : decode cX7_level 43 = .ok (.goto 8, 3) := by decide +kernel
theorem dX7_byParts_0 : decode cX7_byParts 0 = .ok (.aload_n 0, 1) := by decide +kernel
theorem dX7_byParts_1 : decode cX7_byParts 1 = .ok (.sipush 999, 3) := by decide +kernel
theorem dX7_byParts_4 : decode cX7_byParts 4 = .ok (.invokevirtual 38, 3) := by decide +kernel
theorem dX7_byParts_7 : decode cX7_byParts 7 = .ok (.istore_n 3, 1) := by decide +kernel
theorem dX7_byParts_8 : decode cX7_byParts 8 = .ok (.iload_n 3, 1) := by decide +kernel
theorem dX7_byParts_9 : decode cX7_byParts 9 = .ok (.iconst 1, 1) := by decide +kernel
theorem dX7_byParts_10 : decode cX7_byParts 10 = .ok (.if_icmp .ge 7, 3) := by decide +kernel
theorem dX7_byParts_17 : decode cX7_byParts 17 = .ok (.iload_n 1, 1) := by decide +kernel
theorem dX7_byParts_18 : decode cX7_byParts 18 = .ok (.i2l, 1) := by decide +kernel
theorem dX7_byParts_19 : decode cX7_byParts 19 = .ok (.aload_n 0, 1) := by decide +kernel
theorem dX7_byParts_20 : decode cX7_byParts 20 = .ok (.getfield 9, 3) := by decide +kernel
theorem dX7_byParts_23 : decode cX7_byParts 23 = .ok (.iload_n 2, 1) := by decide +kernel
theorem dX7_byParts_24 : decode cX7_byParts 24 = .ok (.iaload, 1) := by decide +kernel
theorem dX7_byParts_25 : decode cX7_byParts 25 = .ok (.i2l, 1) := by decide +kernel
theorem dX7_byParts_26 : decode cX7_byParts 26 = .ok (.lmul, 1) := by decide +kernel
theorem dX7_byParts_27 : decode cX7_byParts 27 = .ok (.iload_n 3, 1) := by decide +kernel
theorem dX7_byParts_28 : decode cX7_byParts 28 = .ok (.i2l, 1) := by decide +kernel
theorem dX7_byParts_29 : decode cX7_byParts 29 = .ok (.ldiv, 1) := by decide +kernel
theorem dX7_byParts_30 : decode cX7_byParts 30 = .ok (.l2i, 1) := by decide +kernel
theorem dX7_byParts_31 : decode cX7_byParts 31 = .ok (.ireturn, 1) := by decide +kernel
theorem dX7_byParts_13 : decode cX7_byParts 13 = .ok (.iconst 0, 1) := by decide +kernel
theorem dX7_byParts_14 : decode cX7_byParts 14 = .ok (.goto 17, 3) := by decide +kernel
theorem dX7_part_0 : decode cX7_part 0 = .ok (.iload_n 3, 1) := by decide +kernel
theorem dX7_part_1 : decode cX7_part 1 = .ok (.ifCond .lt 9, 3) := by decide +kernel
theorem dX7_part_10 : decode cX7_part 10 = .ok (.iconst 0, 1) := by decide +kernel
theorem dX7_part_11 : decode cX7_part 11 = .ok (.ireturn, 1) := by decide +kernel
theorem dX7_part_4 : decode cX7_part 4 = .ok (.iload_n 3, 1) := by decide +kernel
theorem dX7_part_5 : decode cX7_part 5 = .ok (.bipush 6, 2) := by decide +kernel
theorem dX7_part_7 : decode cX7_part 7 = .ok (.if_icmp .lt 5, 3) := by decide +kernel
theorem dX7_part_12 : decode cX7_part 12 = .ok (.iload_n 1, 1) := by decide +kernel
theorem dX7_part_13 : decode cX7_part 13 = .ok (.ifCond .ne 12, 3) := by decide +kernel
theorem dX7_part_25 : decode cX7_part 25 = .ok (.aload_n 0, 1) := by decide +kernel
theorem dX7_part_26 : decode cX7_part 26 = .ok (.getfield 9, 3) := by decide +kernel
theorem dX7_part_29 : decode cX7_part 29 = .ok (.iload_n 3, 1) := by decide +kernel
theorem dX7_part_30 : decode cX7_part 30 = .ok (.iaload, 1) := by decide +kernel
theorem dX7_part_31 : decode cX7_part 31 = .ok (.aload_n 0, 1) := by decide +kernel
theorem dX7_part_32 : decode cX7_part 32 = .ok (.iload_n 2, 1) := by decide +kernel
theorem dX7_part_33 : decode cX7_part 33 = .ok (.invokevirtual 25, 3) := by decide +kernel
theorem dX7_part_36 : decode cX7_part 36 = .ok (.invokestatic 29, 3) := by decide +kernel
theorem dX7_part_39 : decode cX7_part 39 = .ok (.ireturn, 1) := by decide +kernel
theorem dX7_part_16 : decode cX7_part 16 = .ok (.aload_n 0, 1) := by decide +kernel
theorem dX7_part_17 : decode cX7_part 17 = .ok (.iload_n 2, 1) := by decide +kernel
theorem dX7_part_18 : decode cX7_part 18 = .ok (.iload_n 3, 1) := by decide +kernel
theorem dX7_part_19 : decode cX7_part 19 = .ok (.invokevirtual 21, 3) := by decide +kernel
theorem dX7_part_22 : decode cX7_part 22 = .ok (.goto 17, 3) := by decide +kernel
theorem dX7_partIfAsked_0 : decode cX7_partIfAsked 0 = .ok (.iload_n 3, 1) := by decide +kernel
theorem dX7_partIfAsked_1 : decode cX7_partIfAsked 1 = .ok (.ifCond .lt 9, 3) := by decide +kernel
theorem dX7_partIfAsked_10 : decode cX7_partIfAsked 10 = .ok (.iconst 0, 1) := by decide +kernel
theorem dX7_partIfAsked_11 : decode cX7_partIfAsked 11 = .ok (.ireturn, 1) := by decide +kernel
theorem dX7_partIfAsked_4 : decode cX7_partIfAsked 4 = .ok (.iload_n 3, 1) := by decide +kernel
theorem dX7_partIfAsked_5 : decode cX7_partIfAsked 5 = .ok (.bipush 6, 2) := by decide +kernel
theorem dX7_partIfAsked_7 : decode cX7_partIfAsked 7 = .ok (.if_icmp .lt 5, 3) := by decide +kernel
theorem dX7_partIfAsked_12 : decode cX7_partIfAsked 12 = .ok (.aload_n 0, 1) := by decide +kernel
theorem dX7_partIfAsked_13 : decode cX7_partIfAsked 13 = .ok (.getfield 9, 3) := by decide +kernel
theorem dX7_partIfAsked_16 : decode cX7_partIfAsked 16 = .ok (.iload_n 3, 1) := by decide +kernel
theorem dX7_partIfAsked_17 : decode cX7_partIfAsked 17 = .ok (.iaload, 1) := by decide +kernel
theorem dX7_partIfAsked_18 : decode cX7_partIfAsked 18 = .ok (.istore 5, 2) := by decide +kernel
theorem dX7_partIfAsked_20 : decode cX7_partIfAsked 20 = .ok (.aload_n 0, 1) := by decide +kernel
theorem dX7_partIfAsked_21 : decode cX7_partIfAsked 21 = .ok (.getfield 9, 3) := by decide +kernel
theorem dX7_partIfAsked_24 : decode cX7_partIfAsked 24 = .ok (.iload_n 3, 1) := by decide +kernel
theorem dX7_partIfAsked_25 : decode cX7_partIfAsked 25 = .ok (.iload 4, 2) := by decide +kernel
theorem dX7_partIfAsked_27 : decode cX7_partIfAsked 27 = .ok (.iastore, 1) := by decide +kernel
theorem dX7_partIfAsked_28 : decode cX7_partIfAsked 28 = .ok (.aload_n 0, 1) := by decide +kernel
theorem dX7_partIfAsked_29 : decode cX7_partIfAsked 29 = .ok (.iload_n 1, 1) := by decide +kernel
theorem dX7_partIfAsked_30 : decode cX7_partIfAsked 30 = .ok (.iload_n 2, 1) := by decide +kernel
theorem dX7_partIfAsked_31 : decode cX7_partIfAsked 31 = .ok (.iload_n 3, 1) := by decide +kernel
theorem dX7_partIfAsked_32 : decode cX7_partIfAsked 32 = .ok (.invokevirtual 34, 3) := by decide +kernel
theorem dX7_partIfAsked_35 : decode cX7_partIfAsked 35 = .ok (.istore 6, 2) := by decide +kernel
theorem dX7_partIfAsked_37 : decode cX7_partIfAsked 37 = .ok (.aload_n 0, 1) := by decide +kernel
theorem dX7_partIfAsked_38 : decode cX7_partIfAsked 38 = .ok (.getfield 9, 3) := by decide +kernel
theorem dX7_partIfAsked_41 : decode cX7_partIfAsked 41 = .ok (.iload_n 3, 1) := by decide +kernel
theorem dX7_partIfAsked_42 : decode cX7_partIfAsked 42 = .ok (.iload 5, 2) := by decide +kernel
theorem dX7_partIfAsked_44 : decode cX7_partIfAsked 44 = .ok (.iastore, 1) := by decide +kernel
theorem dX7_partIfAsked_45 : decode cX7_partIfAsked 45 = .ok (.iload 6, 2) := by decide +kernel
theorem dX7_partIfAsked_47 : decode cX7_partIfAsked 47 = .ok (.ireturn, 1) := by decide +kernel
theorem dX7_take_0 : decode cX7_take 0 = .ok (.aload_n 0, 1) := by decide +kernel
theorem dX7_take_1 : decode cX7_take 1 = .ok (.getfield 9, 3) := by decide +kernel
theorem dX7_take_4 : decode cX7_take 4 = .ok (.iconst 0, 1) := by decide +kernel
theorem dX7_take_5 : decode cX7_take 5 = .ok (.invokestatic 15, 3) := by decide +kernel
theorem dX7_take_8 : decode cX7_take 8 = .ok (.iconst 0, 1) := by decide +kernel
theorem dX7_take_9 : decode cX7_take 9 = .ok (.istore_n 2, 1) := by decide +kernel
theorem dX7_take_10 : decode cX7_take 10 = .ok (.iload_n 2, 1) := by decide +kernel
theorem dX7_take_11 : decode cX7_take 11 = .ok (.aload_n 1, 1) := by decide +kernel
theorem dX7_take_12 : decode cX7_take 12 = .ok (.arraylength, 1) := by decide +kernel
theorem dX7_take_13 : decode cX7_take 13 = .ok (.if_icmp .ge 25, 3) := by decide +kernel
theorem dX7_take_38 : decode cX7_take 38 = .ok (.return_, 1) := by decide +kernel
theorem dX7_take_16 : decode cX7_take 16 = .ok (.iload_n 2, 1) := by decide +kernel
theorem dX7_take_17 : decode cX7_take 17 = .ok (.bipush 6, 2) := by decide +kernel
theorem dX7_take_19 : decode cX7_take 19 = .ok (.if_icmp .ge 19, 3) := by decide +kernel
theorem dX7_take_22 : decode cX7_take 22 = .ok (.aload_n 0, 1) := by decide +kernel
theorem dX7_take_23 : decode cX7_take 23 = .ok (.getfield 9, 3) := by decide +kernel
theorem dX7_take_26 : decode cX7_take 26 = .ok (.iload_n 2, 1) := by decide +kernel
theorem dX7_take_27 : decode cX7_take 27 = .ok (.aload_n 1, 1) := by decide +kernel
theorem dX7_take_28 : decode cX7_take 28 = .ok (.iload_n 2, 1) := by decide +kernel
theorem dX7_take_29 : decode cX7_take 29 = .ok (.laload, 1) := by decide +kernel
theorem dX7_take_30 : decode cX7_take 30 = .ok (.l2i, 1) := by decide +kernel
theorem dX7_take_31 : decode cX7_take 31 = .ok (.iastore, 1) := by decide +kernel
theorem dX7_take_32 : decode cX7_take 32 = .ok (.iinc 2 1, 3) := by decide +kernel
theorem dX7_take_35 : decode cX7_take 35 = .ok (.goto (-25), 3) := by decide +kernel
theorem sV_X7_38 : SiteV RX7 38 yX7_sumUpTo cX7_sumUpTo 4 (some .int) 1 := ⟨ml_X7_38, im_X7_sumUpTo, se_X7_sumUpTo, ini_X7, co_X7_sumUpTo, by decide +kernel⟩
theorem sV_X7_25 : SiteV RX7 25 yX7_level cX7_level 6 (some .int) 1 := ⟨ml_X7_25, im_X7_level, se_X7_level, ini_X7, co_X7_level, by decide +kernel⟩
theorem sV_X7_21 : SiteV RX7 21 yX7_byParts cX7_byParts 4 (some .int) 2 := ⟨ml_X7_21, im_X7_byParts, se_X7_byParts, ini_X7, co_X7_byParts, by decide +kernel⟩
theorem sV_X7_34 : SiteV RX7 34 yX7_part cX7_part 4 (some .int) 3 := ⟨ml_X7_34, im_X7_part, se_X7_part, ini_X7, co_X7_part, by decide +kernel⟩
theorem sS_X7_15 : SiteS RX7 15 yJ7_fill_53178 cJ7_fill_53178 4 none 2 := ⟨ml_X7_15, st_J7_fill_53178, ini_J7, co_J7_fill_53178, by decide +kernel⟩
set_option maxHeartbeats 4000000 in
set_option maxRecDepth 100000 in
theorem t_X7_sumUpTo (l : Launch) (D : va_G) (cy : Nat → ClassId) (base : Nat) (τ : Nat → Nat) (G : Gh) (a : Nat) (h_a : τ a = 5) (v : Int32) (r_v : 0 ≤ v.toInt ∧ v.toInt ≤ 999) : MM l yX7_sumUpTo cX7_sumUpTo 4 (some .int) 0 0 0 D cy [.ref a, .int v] (PT D cy base τ G) (PuI (fun r => 0 ≤ r.toInt ∧ r.toInt ≤ 5994)) noF := by
  refine MM.of (by decide) (Nat.le_of_ble_eq_true rfl) ?_
  intro p e s m below meth c C hPT ls hl
  obtain ⟨hx, hb, hr, hml, hown, hts, hlocks, hK, hnm⟩ := C
  obtain ⟨hZ, hT⟩ := hPT
  have hS : va_S (RA base) s.heap s.heap [] := va_S.rf
  have hl : lv_has ls 4 [(0, .ref a), (1, .int v)] := hl
  refine lv_iconst (v := 0) hx hb dX7_sumUpTo_0 (by decide) ?_
  refine lv_istore_n (lv' := [(2, .int 0), (0, .ref a), (1, .int v)]) hx hb dX7_sumUpTo_1 rfl hl (by decide) rfl (fun ls hl => ?_)
  refine lv_iconst (v := 0) hx hb dX7_sumUpTo_2 (by decide) ?_
  refine lv_istore_n (lv' := [(3, .int 0), (2, .int 0), (0, .ref a), (1, .int v)]) hx hb dX7_sumUpTo_3 rfl hl (by decide) rfl (fun ls hl => ?_)
  refine W.loop (σ := Int32 × Int32) (fun w1 H locs ls => 0 ≤ w1.1.toInt ∧ w1.1.toInt ≤ 5994 ∧ 0 ≤ w1.2.toInt ∧ w1.2.toInt ≤ 6 ∧ (w1.1.toInt ≤ 999 * w1.2.toInt) ∧ H = s.heap ∧ locs = [] ∧ lv_has ls 4 [(2, .int w1.1), (3, .int w1.2), (0, .ref a), (1, .int v)]) (fun w1 => (6 - w1.2.toInt).toNat) ?_ ((0 : Int32), (0 : Int32)) _ _ _ ⟨(by show 0 ≤ (0 : Int32).toInt; decide), (by show (0 : Int32).toInt ≤ 5994; decide), (by show 0 ≤ (0 : Int32).toInt; decide), (by show (0 : Int32).toInt ≤ 6; decide), (by show (0 : Int) ≤ 999 * (0 : Int); first | omega | assumption | exact rfl), rfl, rfl, lv_sub hl [1, 0, 2, 3] rfl⟩
  intro w1 H locs ls hI ih1
  obtain ⟨x1_2, x1_3⟩ := w1
  obtain ⟨i1_0, i1_1, i1_2, i1_3, i1_4, rfl, rfl, hl⟩ := hI
  have i1_0 : 0 ≤ x1_2.toInt := i1_0
  have i1_1 : x1_2.toInt ≤ 5994 := i1_1
  have i1_2 : 0 ≤ x1_3.toInt := i1_2
  have i1_3 : x1_3.toInt ≤ 6 := i1_3
  have i1_4 : (x1_2.toInt ≤ 999 * x1_3.toInt) := i1_4
  have hl : lv_has ls 4 [(2, .int x1_2), (3, .int x1_3), (0, .ref a), (1, .int v)] := hl
  refine lv_iload_n hx hb dX7_sumUpTo_4 rfl (lv_at hl 1 rfl) ?_
  refine lv_bipush (v := 6) hx hb dX7_sumUpTo_5 (by decide) ?_
  refine lv_icmp_ge (tgt := 39) hx hb dX7_sumUpTo_7 (by decide) (fun c_2 => ?_) (fun c_2 => ?_)
  · skip
    have tc_2 : 6 ≤ x1_3.toInt := (fa_le _ _).mp c_2
    refine lv_iload_n hx hb dX7_sumUpTo_39 rfl (lv_at hl 0 rfl) ?_
    exact ret_i hx hb hr hlocks ⟨rfl, _, rfl, ⟨(by omega), (by omega)⟩⟩ (fun _ h => absurd h List.not_mem_nil) (Nat.le_refl _) (Nat.le_refl _) dX7_sumUpTo_40
  · skip
    have tc_2 : ¬ 6 ≤ x1_3.toInt := fun h => c_2 ((fa_le _ _).mpr h)
    refine lv_iload_n hx hb dX7_sumUpTo_10 rfl (lv_at hl 0 rfl) ?_
    refine lv_aload_n hx hb dX7_sumUpTo_11 rfl (lv_at hl 2 rfl) ?_
    refine t_getr cf_5 hx hb hts hown hK hT h_a (k := 0) (P := fun q => τ q = 39) rfl (fun _ h9 => h9) fl_X7_9 (fun _ h9 => h9) dX7_sumUpTo_12 (fun q_3 eq_3 hq_3 => ?_)
    refine lv_iload_n hx hb dX7_sumUpTo_15 rfl (lv_at hl 1 rfl) ?_
    refine t_iald (n := 6) (i := x1_3) rfl (by decide) hx hb hK hT hq_3 (hT.len hq_3 (by decide)) ⟨by omega, by omega⟩ dX7_sumUpTo_16 (fun z_4 ez_4 rz_4 => ?_)
    have rz_4 : 0 ≤ z_4.toInt ∧ z_4.toInt ≤ 999 := rz_4
    refine lv_iload_n hx hb dX7_sumUpTo_17 rfl (lv_at hl 3 rfl) ?_
    refine lv_icmp_ge (tgt := 30) hx hb dX7_sumUpTo_18 (by decide) (fun c_5 => ?_) (fun c_5 => ?_)
    · skip
      have tc_5 : v.toInt ≤ z_4.toInt := (fa_le _ _).mp c_5
      refine lv_iload_n hx hb dX7_sumUpTo_30 rfl (lv_at hl 3 rfl) ?_
      refine lv_iadd hx hb dX7_sumUpTo_31 ?_
      refine lv_topi (fun z_6 ez_6 => ?_)
      have tz_6 : z_6.toInt = x1_2.toInt + v.toInt := add_t ez_6 (show -2147483648 ≤ x1_2.toInt + v.toInt by omega) (show x1_2.toInt + v.toInt < 2147483648 by omega)
      refine lv_istore_n (lv' := [(2, .int z_6), (3, .int x1_3), (0, .ref a), (1, .int v)]) hx hb dX7_sumUpTo_32 rfl hl (by decide) rfl (fun ls hl => ?_)
      obtain ⟨z_7, ez_7⟩ : ∃ y : Int32, y = x1_3 + 1 := ⟨_, rfl⟩
      have tz_7 : z_7.toInt = x1_3.toInt + 1 := add_t ez_7 (show -2147483648 ≤ x1_3.toInt + 1 by omega) (show x1_3.toInt + 1 < 2147483648 by omega)
      refine lv_iinc (v := z_7) (lv' := [(3, .int z_7), (2, .int z_6), (0, .ref a), (1, .int v)]) hx hb dX7_sumUpTo_33 hl (k := 1) rfl (by rw [ez_7]; rfl) (by decide) rfl (fun ls hl => ?_)
      refine lv_goto (tgt := 4) hx hb dX7_sumUpTo_36 (by decide) ?_
      exact ih1 (z_6, z_7) _ _ _ (by show (6 - z_7.toInt).toNat < (6 - x1_3.toInt).toNat; omega) ⟨(by show 0 ≤ z_6.toInt; omega), (by show z_6.toInt ≤ 5994; omega), (by show 0 ≤ z_7.toInt; omega), (by show z_7.toInt ≤ 6; omega), by show z_6.toInt ≤ 999 * z_7.toInt; first | omega | assumption, rfl, rfl, lv_sub hl [1, 0, 2, 3] rfl⟩
    · skip
      have tc_5 : ¬ v.toInt ≤ z_4.toInt := fun h => c_5 ((fa_le _ _).mpr h)
      refine lv_aload_n hx hb dX7_sumUpTo_21 rfl (lv_at hl 2 rfl) ?_
      refine t_getr cf_5 hx hb hts hown hK hT h_a (k := 0) (P := fun q => τ q = 39) rfl (fun _ h9 => h9) fl_X7_9 (fun _ h9 => h9) dX7_sumUpTo_22 (fun q_8 eq_8 hq_8 => ?_)
      have w_9 : q_3 = q_8 := Option.some.inj (eq_3.symm.trans eq_8)
      subst w_9
      refine lv_iload_n hx hb dX7_sumUpTo_25 rfl (lv_at hl 1 rfl) ?_
      refine t_iald (n := 6) (i := x1_3) rfl (by decide) hx hb hK hT hq_3 (hT.len hq_3 (by decide)) ⟨by omega, by omega⟩ dX7_sumUpTo_26 (fun z_10 ez_10 rz_10 => ?_)
      have w_11 : z_4 = z_10 := ez_4.trans ez_10.symm
      subst w_11
      refine lv_goto (tgt := 31) hx hb dX7_sumUpTo_27 (by decide) ?_
      refine lv_iadd hx hb dX7_sumUpTo_31 ?_
      refine lv_topi (fun z_12 ez_12 => ?_)
      have tz_12 : z_12.toInt = x1_2.toInt + z_4.toInt := add_t ez_12 (show -2147483648 ≤ x1_2.toInt + z_4.toInt by omega) (show x1_2.toInt + z_4.toInt < 2147483648 by omega)
      refine lv_istore_n (lv' := [(2, .int z_12), (3, .int x1_3), (0, .ref a), (1, .int v)]) hx hb dX7_sumUpTo_32 rfl hl (by decide) rfl (fun ls hl => ?_)
      obtain ⟨z_13, ez_13⟩ : ∃ y : Int32, y = x1_3 + 1 := ⟨_, rfl⟩
      have tz_13 : z_13.toInt = x1_3.toInt + 1 := add_t ez_13 (show -2147483648 ≤ x1_3.toInt + 1 by omega) (show x1_3.toInt + 1 < 2147483648 by omega)
      refine lv_iinc (v := z_13) (lv' := [(3, .int z_13), (2, .int z_12), (0, .ref a), (1, .int v)]) hx hb dX7_sumUpTo_33 hl (k := 1) rfl (by rw [ez_13]; rfl) (by decide) rfl (fun ls hl => ?_)
      refine lv_goto (tgt := 4) hx hb dX7_sumUpTo_36 (by decide) ?_
      exact ih1 (z_12, z_13) _ _ _ (by show (6 - z_13.toInt).toNat < (6 - x1_3.toInt).toNat; omega) ⟨(by show 0 ≤ z_12.toInt; omega), (by show z_12.toInt ≤ 5994; omega), (by show 0 ≤ z_13.toInt; omega), (by show z_13.toInt ≤ 6; omega), by show z_12.toInt ≤ 999 * z_13.toInt; first | omega | assumption, rfl, rfl, lv_sub hl [1, 0, 2, 3] rfl⟩
set_option maxHeartbeats 4000000 in
set_option maxRecDepth 100000 in
theorem t_X7_level (l : Launch) (D : va_G) (cy : Nat → ClassId) (base : Nat) (τ : Nat → Nat) (G : Gh) (a : Nat) (h_a : τ a = 5) (v : Int32) : MM l yX7_level cX7_level 6 (some .int) 1 0 0 D cy [.ref a, .int v] (PT D cy base τ G) (PuI (fun r => 0 ≤ r.toInt ∧ r.toInt ≤ 999)) noF := by
  refine MM.of (by decide) (Nat.le_of_ble_eq_true rfl) ?_
  intro p e s m below meth c C hPT ls hl
  obtain ⟨hx, hb, hr, hml, hown, hts, hlocks, hK, hnm⟩ := C
  obtain ⟨hZ, hT⟩ := hPT
  have hS : va_S (RA base) s.heap s.heap [] := va_S.rf
  have hl : lv_has ls 6 [(0, .ref a), (1, .int v)] := hl
  refine lv_iconst (v := 0) hx hb dX7_level_0 (by decide) ?_
  refine lv_istore_n (lv' := [(2, .int 0), (0, .ref a), (1, .int v)]) hx hb dX7_level_1 rfl hl (by decide) rfl (fun ls hl => ?_)
  refine lv_sipush (v := 999) hx hb dX7_level_2 (by decide) ?_
  refine lv_istore_n (lv' := [(3, .int 999), (2, .int 0), (0, .ref a), (1, .int v)]) hx hb dX7_level_5 rfl hl (by decide) rfl (fun ls hl => ?_)
  refine lv_iconst (v := 0) hx hb dX7_level_6 (by decide) ?_
  refine lv_istore (lv' := [(4, .int 0), (3, .int 999), (2, .int 0), (0, .ref a), (1, .int v)]) hx hb dX7_level_7 hl (by decide) rfl (fun ls hl => ?_)
  refine W.loop (σ := Int32 × Int32 × Int32) (fun w1 H locs ls => 0 ≤ w1.1.toInt ∧ w1.1.toInt ≤ 999 ∧ 0 ≤ w1.2.1.toInt ∧ w1.2.1.toInt ≤ 999 ∧ 0 ≤ w1.2.2.toInt ∧ w1.2.2.toInt ≤ 10 ∧ H = s.heap ∧ locs = [] ∧ lv_has ls 6 [(2, .int w1.1), (3, .int w1.2.1), (4, .int w1.2.2), (0, .ref a), (1, .int v)]) (fun w1 => (10 - w1.2.2.toInt).toNat) ?_ ((0 : Int32), (999 : Int32), (0 : Int32)) _ _ _ ⟨(by show 0 ≤ (0 : Int32).toInt; decide), (by show (0 : Int32).toInt ≤ 999; decide), (by show 0 ≤ (999 : Int32).toInt; decide), (by show (999 : Int32).toInt ≤ 999; decide), (by show 0 ≤ (0 : Int32).toInt; decide), (by show (0 : Int32).toInt ≤ 10; decide), rfl, rfl, lv_sub hl [2, 1, 0, 3, 4] rfl⟩
  intro w1 H locs ls hI ih1
  obtain ⟨x1_2, x1_3, x1_4⟩ := w1
  obtain ⟨i1_0, i1_1, i1_2, i1_3, i1_4, i1_5, rfl, rfl, hl⟩ := hI
  have i1_0 : 0 ≤ x1_2.toInt := i1_0
  have i1_1 : x1_2.toInt ≤ 999 := i1_1
  have i1_2 : 0 ≤ x1_3.toInt := i1_2
  have i1_3 : x1_3.toInt ≤ 999 := i1_3
  have i1_4 : 0 ≤ x1_4.toInt := i1_4
  have i1_5 : x1_4.toInt ≤ 10 := i1_5
  have hl : lv_has ls 6 [(2, .int x1_2), (3, .int x1_3), (4, .int x1_4), (0, .ref a), (1, .int v)] := hl
  refine lv_iload hx hb dX7_level_9 (lv_at hl 2 rfl) ?_
  refine lv_bipush (v := 10) hx hb dX7_level_11 (by decide) ?_
  refine lv_icmp_ge (tgt := 57) hx hb dX7_level_13 (by decide) (fun c_2 => ?_) (fun c_2 => ?_)
  · skip
    have tc_2 : 10 ≤ x1_4.toInt := (fa_le _ _).mp c_2
    refine lv_iload_n hx hb dX7_level_57 rfl (lv_at hl 0 rfl) ?_
    exact ret_i hx hb hr hlocks ⟨rfl, _, rfl, ⟨(by omega), (by omega)⟩⟩ (fun _ h => absurd h List.not_mem_nil) (Nat.le_refl _) (Nat.le_refl _) dX7_level_58
  · skip
    have tc_2 : ¬ 10 ≤ x1_4.toInt := fun h => c_2 ((fa_le _ _).mpr h)
    refine lv_iload_n hx hb dX7_level_16 rfl (lv_at hl 0 rfl) ?_
    refine lv_iload_n hx hb dX7_level_17 rfl (lv_at hl 1 rfl) ?_
    refine lv_icmp_ge (tgt := 57) hx hb dX7_level_18 (by decide) (fun c_3 => ?_) (fun c_3 => ?_)
    · skip
      have tc_3 : x1_3.toInt ≤ x1_2.toInt := (fa_le _ _).mp c_3
      refine lv_iload_n hx hb dX7_level_57 rfl (lv_at hl 0 rfl) ?_
      exact ret_i hx hb hr hlocks ⟨rfl, _, rfl, ⟨(by omega), (by omega)⟩⟩ (fun _ h => absurd h List.not_mem_nil) (Nat.le_refl _) (Nat.le_refl _) dX7_level_58
    · skip
      have tc_3 : ¬ x1_3.toInt ≤ x1_2.toInt := fun h => c_3 ((fa_le _ _).mpr h)
      refine lv_iload_n hx hb dX7_level_21 rfl (lv_at hl 0 rfl) ?_
      refine lv_iload_n hx hb dX7_level_22 rfl (lv_at hl 1 rfl) ?_
      refine lv_iadd hx hb dX7_level_23 ?_
      refine lv_topi (fun z_4 ez_4 => ?_)
      have tz_4 : z_4.toInt = x1_2.toInt + x1_3.toInt := add_t ez_4 (show -2147483648 ≤ x1_2.toInt + x1_3.toInt by omega) (show x1_2.toInt + x1_3.toInt < 2147483648 by omega)
      refine lv_iconst (v := 1) hx hb dX7_level_24 (by decide) ?_
      refine lv_iadd hx hb dX7_level_25 ?_
      refine lv_topi (fun z_5 ez_5 => ?_)
      have tz_5 : z_5.toInt = z_4.toInt + 1 := add_t ez_5 (show -2147483648 ≤ z_4.toInt + 1 by omega) (show z_4.toInt + 1 < 2147483648 by omega)
      refine lv_iconst (v := 2) hx hb dX7_level_26 (by decide) ?_
      refine lv_idiv hx hb dX7_level_27 (by decide) ?_
      refine lv_topi (fun z_6 ez_6 => ?_)
      have tz_6 : z_6.toInt = z_5.toInt / 2 := div_t ez_6 (by omega) (by decide)
      refine lv_istore (lv' := [(5, .int z_6), (2, .int x1_2), (3, .int x1_3), (4, .int x1_4), (0, .ref a), (1, .int v)]) hx hb dX7_level_28 hl (by decide) rfl (fun ls hl => ?_)
      refine lv_aload_n hx hb dX7_level_30 rfl (lv_at hl 4 rfl) ?_
      refine lv_iload hx hb dX7_level_31 (lv_at hl 0 rfl) ?_
      refine pu_calli (runV (As := [.int z_6]) (rest := []) ⟨hx, hb, hml, hown, hts⟩ (t_X7_sumUpTo l D cy base τ G a h_a z_6 ⟨by omega, by omega⟩) sV_X7_38 hK (t_recv cf_5 hK hT h_a) ⟨Nat.le_trans hZ hS.1, hT⟩ ⟨Nat.le_of_ble_eq_true rfl, Nat.le_of_ble_eq_true rfl⟩ rfl hl.1 rfl (Nat.le_of_ble_eq_true rfl) dX7_level_33 ⟨Nat.le_of_ble_eq_true rfl, Nat.le_of_ble_eq_true rfl⟩) (fun r_7 hr_7 => ?_)
      obtain ⟨hr_7_lo, hr_7_hi⟩ := hr_7
      have hr_7_lo : 0 ≤ r_7.toInt := hr_7_lo
      have hr_7_hi : r_7.toInt ≤ 5994 := hr_7_hi
      refine lv_iload_n hx hb dX7_level_36 rfl (lv_at hl 5 rfl) ?_
      refine lv_icmp_gt (tgt := 46) hx hb dX7_level_37 (by decide) (fun c_8 => ?_) (fun c_8 => ?_)
      · skip
        have tc_8 : v.toInt < r_7.toInt := (fa_lt _ _).mp c_8
        refine lv_iload hx hb dX7_level_46 (lv_at hl 0 rfl) ?_
        refine lv_iconst (v := 1) hx hb dX7_level_48 (by decide) ?_
        refine lv_isub hx hb dX7_level_49 ?_
        refine lv_topi (fun z_9 ez_9 => ?_)
        have tz_9 : z_9.toInt = z_6.toInt - 1 := sub_t ez_9 (show -2147483648 ≤ z_6.toInt - 1 by omega) (show z_6.toInt - 1 < 2147483648 by omega)
        refine lv_istore_n (lv' := [(3, .int z_9), (5, .int z_6), (2, .int x1_2), (4, .int x1_4), (0, .ref a), (1, .int v)]) hx hb dX7_level_50 rfl hl (by decide) rfl (fun ls hl => ?_)
        obtain ⟨z_10, ez_10⟩ : ∃ y : Int32, y = x1_4 + 1 := ⟨_, rfl⟩
        have tz_10 : z_10.toInt = x1_4.toInt + 1 := add_t ez_10 (show -2147483648 ≤ x1_4.toInt + 1 by omega) (show x1_4.toInt + 1 < 2147483648 by omega)
        refine lv_iinc (v := z_10) (lv' := [(4, .int z_10), (3, .int z_9), (5, .int z_6), (2, .int x1_2), (0, .ref a), (1, .int v)]) hx hb dX7_level_51 hl (k := 3) rfl (by rw [ez_10]; rfl) (by decide) rfl (fun ls hl => ?_)
        refine lv_goto (tgt := 9) hx hb dX7_level_54 (by decide) ?_
        exact ih1 (x1_2, z_9, z_10) _ _ _ (by show (10 - z_10.toInt).toNat < (10 - x1_4.toInt).toNat; omega) ⟨(by show 0 ≤ x1_2.toInt; omega), (by show x1_2.toInt ≤ 999; omega), (by show 0 ≤ z_9.toInt; omega), (by show z_9.toInt ≤ 999; omega), (by show 0 ≤ z_10.toInt; omega), (by show z_10.toInt ≤ 10; omega), rfl, rfl, lv_sub hl [3, 1, 0, 4, 5] rfl⟩
      · skip
        have tc_8 : ¬ v.toInt < r_7.toInt := fun h => c_8 ((fa_lt _ _).mpr h)
        refine lv_iload hx hb dX7_level_40 (lv_at hl 0 rfl) ?_
        refine lv_istore_n (lv' := [(2, .int z_6), (5, .int z_6), (3, .int x1_3), (4, .int x1_4), (0, .ref a), (1, .int v)]) hx hb dX7_level_42 rfl hl (by decide) rfl (fun ls hl => ?_)
        refine lv_goto (tgt := 51) hx hb dX7_level_43 (by decide) ?_
        obtain ⟨z_11, ez_11⟩ : ∃ y : Int32, y = x1_4 + 1 := ⟨_, rfl⟩
        have tz_11 : z_11.toInt = x1_4.toInt + 1 := add_t ez_11 (show -2147483648 ≤ x1_4.toInt + 1 by omega) (show x1_4.toInt + 1 < 2147483648 by omega)
        refine lv_iinc (v := z_11) (lv' := [(4, .int z_11), (2, .int z_6), (5, .int z_6), (3, .int x1_3), (0, .ref a), (1, .int v)]) hx hb dX7_level_51 hl (k := 3) rfl (by rw [ez_11]; rfl) (by decide) rfl (fun ls hl => ?_)
        refine lv_goto (tgt := 9) hx hb dX7_level_54 (by decide) ?_
        exact ih1 (z_6, x1_3, z_11) _ _ _ (by show (10 - z_11.toInt).toNat < (10 - x1_4.toInt).toNat; omega) ⟨(by show 0 ≤ z_6.toInt; omega), (by show z_6.toInt ≤ 999; omega), (by show 0 ≤ x1_3.toInt; omega), (by show x1_3.toInt ≤ 999; omega), (by show 0 ≤ z_11.toInt; omega), (by show z_11.toInt ≤ 10; omega), rfl, rfl, lv_sub hl [1, 3, 0, 4, 5] rfl⟩
set_option maxHeartbeats 4000000 in
set_option maxRecDepth 100000 in
theorem t_X7_byParts (l : Launch) (D : va_G) (cy : Nat → ClassId) (base : Nat) (τ : Nat → Nat) (G : Gh) (a : Nat) (h_a : τ a = 5) (v : Int32) (r_v : 0 ≤ v.toInt ∧ v.toInt ≤ 99999) (w : Int32) (r_w : 0 ≤ w.toInt ∧ w.toInt ≤ 5) : MM l yX7_byParts cX7_byParts 4 (some .int) 1 0 0 D cy [.ref a, .int v, .int w] (PT D cy base τ G) (PuI (fun r => 0 ≤ r.toInt ∧ r.toInt ≤ 99899001)) noF := by
  refine MM.of (by decide) (Nat.le_of_ble_eq_true rfl) ?_
  intro p e s m below meth c C hPT ls hl
  obtain ⟨hx, hb, hr, hml, hown, hts, hlocks, hK, hnm⟩ := C
  obtain ⟨hZ, hT⟩ := hPT
  have hS : va_S (RA base) s.heap s.heap [] := va_S.rf
  have hl : lv_has ls 4 [(0, .ref a), (1, .int v), (2, .int w)] := hl
  refine lv_aload_n hx hb dX7_byParts_0 rfl (lv_at hl 0 rfl) ?_
  refine lv_sipush (v := 999) hx hb dX7_byParts_1 (by decide) ?_
  refine pu_calli (runV (As := [.int 999]) (rest := []) ⟨hx, hb, hml, hown, hts⟩ (t_X7_sumUpTo l D cy base τ G a h_a 999 (by decide)) sV_X7_38 hK (t_recv cf_5 hK hT h_a) ⟨Nat.le_trans hZ hS.1, hT⟩ ⟨Nat.le_of_ble_eq_true rfl, Nat.le_of_ble_eq_true rfl⟩ rfl hl.1 rfl (Nat.le_of_ble_eq_true rfl) dX7_byParts_4 ⟨Nat.le_of_ble_eq_true rfl, Nat.le_of_ble_eq_true rfl⟩) (fun r_1 hr_1 => ?_)
  obtain ⟨hr_1_lo, hr_1_hi⟩ := hr_1
  have hr_1_lo : 0 ≤ r_1.toInt := hr_1_lo
  have hr_1_hi : r_1.toInt ≤ 5994 := hr_1_hi
  refine lv_istore_n (lv' := [(3, .int r_1), (0, .ref a), (1, .int v), (2, .int w)]) hx hb dX7_byParts_7 rfl hl (by decide) rfl (fun ls hl => ?_)
  refine lv_iload_n hx hb dX7_byParts_8 rfl (lv_at hl 0 rfl) ?_
  refine lv_iconst (v := 1) hx hb dX7_byParts_9 (by decide) ?_
  refine lv_icmp_ge (tgt := 17) hx hb dX7_byParts_10 (by decide) (fun c_2 => ?_) (fun c_2 => ?_)
  · skip
    have tc_2 : 1 ≤ r_1.toInt := (fa_le _ _).mp c_2
    refine lv_iload_n hx hb dX7_byParts_17 rfl (lv_at hl 2 rfl) ?_
    refine lv_i2l hx hb dX7_byParts_18 rfl ?_
    refine lv_topl (fun z_3 ez_3 => ?_)
    have tz_3 : z_3.toInt = v.toInt := by rw [ez_3]; exact wide_t v
    refine lv_aload_n hx hb dX7_byParts_19 rfl (lv_at hl 1 rfl) ?_
    refine t_getr cf_5 hx hb hts hown hK hT h_a (k := 0) (P := fun q => τ q = 39) rfl (fun _ h9 => h9) fl_X7_9 (fun _ h9 => h9) dX7_byParts_20 (fun q_4 eq_4 hq_4 => ?_)
    refine lv_iload_n hx hb dX7_byParts_23 rfl (lv_at hl 3 rfl) ?_
    refine t_iald (n := 6) (i := w) rfl (by decide) hx hb hK hT hq_4 (hT.len hq_4 (by decide)) ⟨by omega, by omega⟩ dX7_byParts_24 (fun z_5 ez_5 rz_5 => ?_)
    have rz_5 : 0 ≤ z_5.toInt ∧ z_5.toInt ≤ 999 := rz_5
    refine lv_i2l hx hb dX7_byParts_25 rfl ?_
    refine lv_topl (fun z_6 ez_6 => ?_)
    have tz_6 : z_6.toInt = z_5.toInt := by rw [ez_6]; exact wide_t z_5
    refine lv_lmul hx hb dX7_byParts_26 ?_
    refine lv_topl (fun z_7 ez_7 => ?_)
    have tz_7 : 0 ≤ z_7.toInt ∧ z_7.toInt ≤ 99899001 ∧ z_7.toInt = z_3.toInt * z_6.toInt := mulb_t64 (a := 99999) (b := 999) ez_7 (by omega) (by omega) (by omega) (by omega) (by decide)
    refine lv_iload_n hx hb dX7_byParts_27 rfl (lv_at hl 0 rfl) ?_
    refine lv_i2l hx hb dX7_byParts_28 rfl ?_
    refine lv_topl (fun z_8 ez_8 => ?_)
    have tz_8 : z_8.toInt = r_1.toInt := by rw [ez_8]; exact wide_t r_1
    refine lv_ldiv hx hb dX7_byParts_29 (ne0_l (by omega)) ?_
    refine lv_topl (fun z_9 ez_9 => ?_)
    have tz_9 : 0 ≤ z_9.toInt ∧ z_9.toInt ≤ z_7.toInt := divb_t64 ez_9 (by omega) (by omega)
    refine lv_l2i hx hb dX7_byParts_30 rfl ?_
    refine lv_topi (fun z_10 ez_10 => ?_)
    have tz_10 : z_10.toInt = z_9.toInt := l2i_t ez_10 (by omega) (by omega)
    exact ret_i hx hb hr hlocks ⟨rfl, _, rfl, ⟨(by omega), (by omega)⟩⟩ (fun _ h => absurd h List.not_mem_nil) (Nat.le_refl _) (Nat.le_refl _) dX7_byParts_31
  · skip
    have tc_2 : ¬ 1 ≤ r_1.toInt := fun h => c_2 ((fa_le _ _).mpr h)
    refine lv_iconst (v := 0) hx hb dX7_byParts_13 (by decide) ?_
    refine lv_goto (tgt := 31) hx hb dX7_byParts_14 (by decide) ?_
    exact ret_i hx hb hr hlocks ⟨rfl, _, rfl, ⟨(by decide), (by decide)⟩⟩ (fun _ h => absurd h List.not_mem_nil) (Nat.le_refl _) (Nat.le_refl _) dX7_byParts_31
set_option maxHeartbeats 4000000 in
set_option maxRecDepth 100000 in
theorem t_X7_part (l : Launch) (D : va_G) (cy : Nat → ClassId) (base : Nat) (τ : Nat → Nat) (G : Gh) (a : Nat) (h_a : τ a = 5) (z : Int32) (v : Int32) (r_v : 0 ≤ v.toInt ∧ v.toInt ≤ 99999) (w : Int32) : MM l yX7_part cX7_part 4 (some .int) 2 0 0 D cy [.ref a, .int z, .int v, .int w] (PT D cy base τ G) (PuI (fun r => 0 ≤ r.toInt ∧ r.toInt ≤ 99899001)) noF := by
  refine MM.of (by decide) (Nat.le_of_ble_eq_true rfl) ?_
  intro p e s m below meth c C hPT ls hl
  obtain ⟨hx, hb, hr, hml, hown, hts, hlocks, hK, hnm⟩ := C
  obtain ⟨hZ, hT⟩ := hPT
  have hS : va_S (RA base) s.heap s.heap [] := va_S.rf
  have hl : lv_has ls 4 [(0, .ref a), (1, .int z), (2, .int v), (3, .int w)] := hl
  refine lv_iload_n hx hb dX7_part_0 rfl (lv_at hl 3 rfl) ?_
  refine lv_if_lt (tgt := 10) hx hb dX7_part_1 (by decide) (fun c_1 => ?_) (fun c_1 => ?_)
  · skip
    have tc_1 : w.toInt < 0 := (fa_lt _ _).mp c_1
    refine lv_iconst (v := 0) hx hb dX7_part_10 (by decide) ?_
    exact ret_i hx hb hr hlocks ⟨rfl, _, rfl, ⟨(by decide), (by decide)⟩⟩ (fun _ h => absurd h List.not_mem_nil) (Nat.le_refl _) (Nat.le_refl _) dX7_part_11
  · skip
    have tc_1 : ¬ w.toInt < 0 := fun h => c_1 ((fa_lt _ _).mpr h)
    refine lv_iload_n hx hb dX7_part_4 rfl (lv_at hl 3 rfl) ?_
    refine lv_bipush (v := 6) hx hb dX7_part_5 (by decide) ?_
    refine lv_icmp_lt (tgt := 12) hx hb dX7_part_7 (by decide) (fun c_2 => ?_) (fun c_2 => ?_)
    · skip
      have tc_2 : w.toInt < 6 := (fa_lt _ _).mp c_2
      refine lv_iload_n hx hb dX7_part_12 rfl (lv_at hl 1 rfl) ?_
      refine lv_if_ne (tgt := 25) hx hb dX7_part_13 (by decide) (fun c_3 => ?_) (fun c_3 => ?_)
      · skip
        have tc_3 : ¬ z.toInt = 0 := fun h => c_3 ((fa_eq _ _).mpr h)
        refine lv_aload_n hx hb dX7_part_25 rfl (lv_at hl 0 rfl) ?_
        refine t_getr cf_5 hx hb hts hown hK hT h_a (k := 0) (P := fun q => τ q = 39) rfl (fun _ h9 => h9) fl_X7_9 (fun _ h9 => h9) dX7_part_26 (fun q_4 eq_4 hq_4 => ?_)
        refine lv_iload_n hx hb dX7_part_29 rfl (lv_at hl 3 rfl) ?_
        refine t_iald (n := 6) (i := w) rfl (by decide) hx hb hK hT hq_4 (hT.len hq_4 (by decide)) ⟨by omega, by omega⟩ dX7_part_30 (fun z_5 ez_5 rz_5 => ?_)
        have rz_5 : 0 ≤ z_5.toInt ∧ z_5.toInt ≤ 999 := rz_5
        refine lv_aload_n hx hb dX7_part_31 rfl (lv_at hl 0 rfl) ?_
        refine lv_iload_n hx hb dX7_part_32 rfl (lv_at hl 2 rfl) ?_
        refine pu_calli (runV (As := [.int v]) (rest := [.int z_5]) ⟨hx, hb, hml, hown, hts⟩ (t_X7_level l D cy base τ G a h_a v) sV_X7_25 hK (t_recv cf_5 hK hT h_a) ⟨Nat.le_trans hZ hS.1, hT⟩ ⟨Nat.le_of_ble_eq_true rfl, Nat.le_of_ble_eq_true rfl⟩ rfl hl.1 rfl (Nat.le_of_ble_eq_true rfl) dX7_part_33 ⟨Nat.le_of_ble_eq_true rfl, Nat.le_of_ble_eq_true rfl⟩) (fun r_6 hr_6 => ?_)
        obtain ⟨hr_6_lo, hr_6_hi⟩ := hr_6
        have hr_6_lo : 0 ≤ r_6.toInt := hr_6_lo
        have hr_6_hi : r_6.toInt ≤ 999 := hr_6_hi
        refine va_mmin hx hb (by rw [hml]; exact hl.1.symm) hown (hts _ ml_X7_29) (hts _ st_math_min) (hts _ ini_J9) (hts _ co_math_min) (Nat.le_of_ble_eq_true rfl) (Nat.le_of_ble_eq_true rfl) (Nat.le_of_ble_eq_true rfl) (Nat.le_of_ble_eq_true rfl) dX7_part_36 ?_
        refine lv_topi (fun z_7 ez_7 => ?_)
        have tz_7 : (z_5.toInt ≥ z_7.toInt ∧ r_6.toInt ≥ z_7.toInt ∧ (z_7.toInt = z_5.toInt ∨ z_7.toInt = r_6.toInt)) := mmin_t ez_7
        exact ret_i hx hb hr hlocks ⟨rfl, _, rfl, ⟨(by omega), (by omega)⟩⟩ (fun _ h => absurd h List.not_mem_nil) (Nat.le_refl _) (Nat.le_refl _) dX7_part_39
      · skip
        have tc_3 : z.toInt = 0 := (fa_eq _ _).mp c_3
        refine lv_aload_n hx hb dX7_part_16 rfl (lv_at hl 0 rfl) ?_
        refine lv_iload_n hx hb dX7_part_17 rfl (lv_at hl 2 rfl) ?_
        refine lv_iload_n hx hb dX7_part_18 rfl (lv_at hl 3 rfl) ?_
        refine pu_calli (runV (As := [.int v, .int w]) (rest := []) ⟨hx, hb, hml, hown, hts⟩ (t_X7_byParts l D cy base τ G a h_a v ⟨by omega, by omega⟩ w ⟨by omega, by omega⟩) sV_X7_21 hK (t_recv cf_5 hK hT h_a) ⟨Nat.le_trans hZ hS.1, hT⟩ ⟨Nat.le_of_ble_eq_true rfl, Nat.le_of_ble_eq_true rfl⟩ rfl hl.1 rfl (Nat.le_of_ble_eq_true rfl) dX7_part_19 ⟨Nat.le_of_ble_eq_true rfl, Nat.le_of_ble_eq_true rfl⟩) (fun r_8 hr_8 => ?_)
        obtain ⟨hr_8_lo, hr_8_hi⟩ := hr_8
        have hr_8_lo : 0 ≤ r_8.toInt := hr_8_lo
        have hr_8_hi : r_8.toInt ≤ 99899001 := hr_8_hi
        refine lv_goto (tgt := 39) hx hb dX7_part_22 (by decide) ?_
        exact ret_i hx hb hr hlocks ⟨rfl, _, rfl, ⟨(by omega), (by omega)⟩⟩ (fun _ h => absurd h List.not_mem_nil) (Nat.le_refl _) (Nat.le_refl _) dX7_part_39
    · skip
      have tc_2 : ¬ w.toInt < 6 := fun h => c_2 ((fa_lt _ _).mpr h)
      refine lv_iconst (v := 0) hx hb dX7_part_10 (by decide) ?_
      exact ret_i hx hb hr hlocks ⟨rfl, _, rfl, ⟨(by decide), (by decide)⟩⟩ (fun _ h => absurd h List.not_mem_nil) (Nat.le_refl _) (Nat.le_refl _) dX7_part_11
set_option maxHeartbeats 4000000 in
set_option maxRecDepth 100000 in
theorem t_X7_partIfAsked (l : Launch) (D : va_G) (cy : Nat → ClassId) (base : Nat) (τ : Nat → Nat) (G : Gh) (a : Nat) (h_a : τ a = 5) (z : Int32) (v : Int32) (r_v : 0 ≤ v.toInt ∧ v.toInt ≤ 99999) (w : Int32) (y : Int32) (r_y : 0 ≤ y.toInt ∧ y.toInt ≤ 999) : MM l yX7_partIfAsked cX7_partIfAsked 7 (some .int) 3 0 0 D cy [.ref a, .int z, .int v, .int w, .int y] (PT D cy base τ G) (QT D cy base τ G [39] (fun v g => ∃ r : Int32, v = some (.int r) ∧ (0 ≤ r.toInt ∧ r.toInt ≤ 99899001))) (RA base) := by
  refine MM.of (by decide) (Nat.le_of_ble_eq_true rfl) ?_
  intro p e s m below meth c C hPT ls hl
  obtain ⟨hx, hb, hr, hml, hown, hts, hlocks, hK, hnm⟩ := C
  obtain ⟨hZ, hT⟩ := hPT
  have hS : va_S (RA base) s.heap s.heap [] := va_S.rf
  have hF : Fr τ [39] G G := Fr.rf
  have hl : lv_has ls 7 [(0, .ref a), (1, .int z), (2, .int v), (3, .int w), (4, .int y)] := hl
  refine lv_iload_n hx hb dX7_partIfAsked_0 rfl (lv_at hl 3 rfl) ?_
  refine lv_if_lt (tgt := 10) hx hb dX7_partIfAsked_1 (by decide) (fun c_1 => ?_) (fun c_1 => ?_)
  · skip
    have tc_1 : w.toInt < 0 := (fa_lt _ _).mp c_1
    refine lv_iconst (v := 0) hx hb dX7_partIfAsked_10 (by decide) ?_
    exact ret_i hx hb hr hlocks ⟨⟨hS.1, hS.2.1⟩, G, hF, ⟨_, rfl, ⟨(by decide), (by decide)⟩⟩, hT⟩ hS.2.2 (Nat.le_of_ble_eq_true rfl) (Nat.le_of_ble_eq_true rfl) dX7_partIfAsked_11
  · skip
    have tc_1 : ¬ w.toInt < 0 := fun h => c_1 ((fa_lt _ _).mpr h)
    refine lv_iload_n hx hb dX7_partIfAsked_4 rfl (lv_at hl 3 rfl) ?_
    refine lv_bipush (v := 6) hx hb dX7_partIfAsked_5 (by decide) ?_
    refine lv_icmp_lt (tgt := 12) hx hb dX7_partIfAsked_7 (by decide) (fun c_2 => ?_) (fun c_2 => ?_)
    · skip
      have tc_2 : w.toInt < 6 := (fa_lt _ _).mp c_2
      refine lv_aload_n hx hb dX7_partIfAsked_12 rfl (lv_at hl 0 rfl) ?_
      refine t_getr cf_5 hx hb hts hown hK hT h_a (k := 0) (P := fun q => τ q = 39) rfl (fun _ h9 => h9) fl_X7_9 (fun _ h9 => h9) dX7_partIfAsked_13 (fun q_3 eq_3 hq_3 => ?_)
      refine lv_iload_n hx hb dX7_partIfAsked_16 rfl (lv_at hl 3 rfl) ?_
      refine t_iald (n := 6) (i := w) rfl (by decide) hx hb hK hT hq_3 (hT.len hq_3 (by decide)) ⟨by omega, by omega⟩ dX7_partIfAsked_17 (fun z_4 ez_4 rz_4 => ?_)
      have rz_4 : 0 ≤ z_4.toInt ∧ z_4.toInt ≤ 999 := rz_4
      refine lv_istore (lv' := [(5, .int z_4), (0, .ref a), (1, .int z), (2, .int v), (3, .int w), (4, .int y)]) hx hb dX7_partIfAsked_18 hl (by decide) rfl (fun ls hl => ?_)
      refine lv_aload_n hx hb dX7_partIfAsked_20 rfl (lv_at hl 1 rfl) ?_
      refine t_getr cf_5 hx hb hts hown hK hT h_a (k := 0) (P := fun q => τ q = 39) rfl (fun _ h9 => h9) fl_X7_9 (fun _ h9 => h9) dX7_partIfAsked_21 (fun q_5 eq_5 hq_5 => ?_)
      have w_6 : q_3 = q_5 := Option.some.inj (eq_3.symm.trans eq_5)
      subst w_6
      refine lv_iload_n hx hb dX7_partIfAsked_24 rfl (lv_at hl 4 rfl) ?_
      refine lv_iload hx hb dX7_partIfAsked_25 (lv_at hl 5 rfl) ?_
      refine t_iast (n := 6) (i := w) (x := y) rfl (by decide) hx hb hK hT hS hq_3 (hT.len hq_3 (by decide)) ⟨by omega, by omega⟩ (show 0 ≤ y.toInt ∧ y.toInt ≤ 999 from ⟨by omega, by omega⟩) dX7_partIfAsked_27 (fun H locs G_7 eG_7 hT hS => ?_)
      have hF := hF.wI eG_7 hq_3 rfl
      refine lv_aload_n hx hb dX7_partIfAsked_28 rfl (lv_at hl 1 rfl) ?_
      refine lv_iload_n hx hb dX7_partIfAsked_29 rfl (lv_at hl 2 rfl) ?_
      refine lv_iload_n hx hb dX7_partIfAsked_30 rfl (lv_at hl 3 rfl) ?_
      refine lv_iload_n hx hb dX7_partIfAsked_31 rfl (lv_at hl 4 rfl) ?_
      refine pu_calli (runV (As := [.int z, .int v, .int w]) (rest := []) ⟨hx, hb, hml, hown, hts⟩ (t_X7_part l D cy base τ G_7 a h_a z v ⟨by omega, by omega⟩ w) sV_X7_34 hK (t_recv cf_5 hK hT h_a) ⟨Nat.le_trans hZ hS.1, hT⟩ ⟨Nat.le_of_ble_eq_true rfl, Nat.le_of_ble_eq_true rfl⟩ rfl hl.1 rfl (Nat.le_of_ble_eq_true rfl) dX7_partIfAsked_32 ⟨Nat.le_of_ble_eq_true rfl, Nat.le_of_ble_eq_true rfl⟩) (fun r_8 hr_8 => ?_)
      obtain ⟨hr_8_lo, hr_8_hi⟩ := hr_8
      have hr_8_lo : 0 ≤ r_8.toInt := hr_8_lo
      have hr_8_hi : r_8.toInt ≤ 99899001 := hr_8_hi
      refine lv_istore (lv' := [(6, .int r_8), (5, .int z_4), (0, .ref a), (1, .int z), (2, .int v), (3, .int w), (4, .int y)]) hx hb dX7_partIfAsked_35 hl (by decide) rfl (fun ls hl => ?_)
      refine lv_aload_n hx hb dX7_partIfAsked_37 rfl (lv_at hl 2 rfl) ?_
      refine t_getr cf_5 hx hb hts hown hK hT h_a (k := 0) (P := fun q => τ q = 39) rfl (fun _ h9 => h9) fl_X7_9 (fun _ h9 => h9) dX7_partIfAsked_38 (fun q_9 eq_9 hq_9 => ?_)
      have w_10 : q_3 = q_9 := Option.some.inj (eq_3.symm.trans ((hF.r h_a (by decide) rfl _).symm.trans eq_9))
      subst w_10
      refine lv_iload_n hx hb dX7_partIfAsked_41 rfl (lv_at hl 5 rfl) ?_
      refine lv_iload hx hb dX7_partIfAsked_42 (lv_at hl 1 rfl) ?_
      refine t_iast (n := 6) (i := w) (x := z_4) rfl (by decide) hx hb hK hT hS hq_3 (hT.len hq_3 (by decide)) ⟨by omega, by omega⟩ (show 0 ≤ z_4.toInt ∧ z_4.toInt ≤ 999 from ⟨by omega, by omega⟩) dX7_partIfAsked_44 (fun H locs G_11 eG_11 hT hS => ?_)
      have hF := hF.wI eG_11 hq_3 rfl
      refine lv_iload hx hb dX7_partIfAsked_45 (lv_at hl 0 rfl) ?_
      exact ret_i hx hb hr hlocks ⟨⟨hS.1, hS.2.1⟩, G_11, hF, ⟨_, rfl, ⟨(by omega), (by omega)⟩⟩, hT⟩ hS.2.2 (Nat.le_of_ble_eq_true rfl) (Nat.le_of_ble_eq_true rfl) dX7_partIfAsked_47
    · skip
      have tc_2 : ¬ w.toInt < 6 := fun h => c_2 ((fa_lt _ _).mpr h)
      refine lv_iconst (v := 0) hx hb dX7_partIfAsked_10 (by decide) ?_
      exact ret_i hx hb hr hlocks ⟨⟨hS.1, hS.2.1⟩, G, hF, ⟨_, rfl, ⟨(by decide), (by decide)⟩⟩, hT⟩ hS.2.2 (Nat.le_of_ble_eq_true rfl) (Nat.le_of_ble_eq_true rfl) dX7_partIfAsked_11
set_option maxHeartbeats 4000000 in
set_option maxRecDepth 100000 in
theorem t_X7_take (l : Launch) (D : va_G) (cy : Nat → ClassId) (base : Nat) (τ : Nat → Nat) (G : Gh) (a : Nat) (h_a : τ a = 5) (b : Nat) (h_b : τ b = 40) (hn : ∀ j : Nat, j < G.2.2.2 b → 0 ≤ (G.2.1 b j).toInt ∧ (G.2.1 b j).toInt ≤ 999) : MM l yX7_take cX7_take 3 none 1 0 0 D cy [.ref a, .ref b] (PT D cy base τ G) (QT D cy base τ G [39] (fun v g => v = none ∧ (True))) (RA base) := by
  refine MM.of (by decide) (Nat.le_of_ble_eq_true rfl) ?_
  intro p e s m below meth c C hPT ls hl
  obtain ⟨hx, hb, hr, hml, hown, hts, hlocks, hK, hnm⟩ := C
  obtain ⟨hZ, hT⟩ := hPT
  have hS : va_S (RA base) s.heap s.heap [] := va_S.rf
  have hF : Fr τ [39] G G := Fr.rf
  have hl : lv_has ls 3 [(0, .ref a), (1, .ref b)] := hl
  refine lv_aload_n hx hb dX7_take_0 rfl (lv_at hl 0 rfl) ?_
  refine t_getr cf_5 hx hb hts hown hK hT h_a (k := 0) (P := fun q => τ q = 39) rfl (fun _ h9 => h9) fl_X7_9 (fun _ h9 => h9) dX7_take_1 (fun q_1 eq_1 hq_1 => ?_)
  refine lv_iconst (v := 0) hx hb dX7_take_4 (by decide) ?_
  refine t_callv (runS (As := [.ref q_1, .int 0]) (rest := []) ⟨hx, hb, hml, hown, hts⟩ (t_J7_fill_53178_39 l D cy base τ G q_1 hq_1) sS_X7_15 hK ⟨Nat.le_trans hZ hS.1, hT⟩ ⟨Nat.le_of_ble_eq_true rfl, Nat.le_of_ble_eq_true rfl⟩ rfl hl.1 rfl (Nat.le_of_ble_eq_true rfl) dX7_take_5 ⟨Nat.le_of_ble_eq_true rfl, Nat.le_of_ble_eq_true rfl⟩) hS (fun G_2 H locs hF_2 hr_2 hT hS => ?_)
  have hF := hF.tr hF_2 rfl
  refine lv_iconst (v := 0) hx hb dX7_take_8 (by decide) ?_
  refine lv_istore_n (lv' := [(2, .int 0), (0, .ref a), (1, .ref b)]) hx hb dX7_take_9 rfl hl (by decide) rfl (fun ls hl => ?_)
  refine W.loop (σ := Int32 × Gh) (fun w3 H locs ls => 0 ≤ w3.1.toInt ∧ w3.1.toInt ≤ 6 ∧ Fr τ [39] G w3.2 ∧ TY D cy base τ w3.2 H ∧ va_S (RA base) s.heap H locs ∧ lv_has ls 3 [(2, .int w3.1), (0, .ref a), (1, .ref b)]) (fun w3 => (6 - w3.1.toInt).toNat) ?_ ((0 : Int32), G_2) _ _ _ ⟨(by show 0 ≤ (0 : Int32).toInt; decide), (by show (0 : Int32).toInt ≤ 6; decide), hF, hT, hS, lv_sub hl [0, 1, 2] rfl⟩
  intro w3 H locs ls hI ih3
  obtain ⟨x3_2, G_3⟩ := w3
  obtain ⟨i3_0, i3_1, hF, hT, hS, hl⟩ := hI
  have i3_0 : 0 ≤ x3_2.toInt := i3_0
  have i3_1 : x3_2.toInt ≤ 6 := i3_1
  have hF : Fr τ [39] G G_3 := hF
  have hT : TY D cy base τ G_3 H := hT
  have hS : va_S (RA base) s.heap H locs := hS
  have hl : lv_has ls 3 [(2, .int x3_2), (0, .ref a), (1, .ref b)] := hl
  refine lv_iload_n hx hb dX7_take_10 rfl (lv_at hl 0 rfl) ?_
  refine lv_aload_n hx hb dX7_take_11 rfl (lv_at hl 2 rfl) ?_
  obtain ⟨n_4, en_4⟩ : ∃ y : Nat, y = G.2.2.2 b := ⟨_, rfl⟩
  have rn_4 : n_4 ≤ 60 := by rw [en_4]; rw [← hF.n h_b (by decide)]; exact hT.len h_b (by decide)
  refine t_alen (v := Int32.ofNat n_4) rfl (by decide) hx hb hK hT h_b rfl (by rw [show _ = n_4 from ((hF.n h_b (by decide)).trans en_4.symm)]) dX7_take_12 ?_
  refine lv_topi (fun z_5 ez_5 => ?_)
  have tz_5 : z_5.toInt = n_4 := len_t ez_5 (by omega)
  refine lv_icmp_ge (tgt := 38) hx hb dX7_take_13 (by decide) (fun c_6 => ?_) (fun c_6 => ?_)
  · skip
    have tc_6 : z_5.toInt ≤ x3_2.toInt := (fa_le _ _).mp c_6
    exact ret_v hx hb hr hlocks ⟨⟨hS.1, hS.2.1⟩, G_3, hF, ⟨rfl, trivial⟩, hT⟩ hS.2.2 (Nat.le_of_ble_eq_true rfl) (Nat.le_of_ble_eq_true rfl) dX7_take_38
  · skip
    have tc_6 : ¬ z_5.toInt ≤ x3_2.toInt := fun h => c_6 ((fa_le _ _).mpr h)
    refine lv_iload_n hx hb dX7_take_16 rfl (lv_at hl 0 rfl) ?_
    refine lv_bipush (v := 6) hx hb dX7_take_17 (by decide) ?_
    refine lv_icmp_ge (tgt := 38) hx hb dX7_take_19 (by decide) (fun c_7 => ?_) (fun c_7 => ?_)
    · skip
      have tc_7 : 6 ≤ x3_2.toInt := (fa_le _ _).mp c_7
      exact ret_v hx hb hr hlocks ⟨⟨hS.1, hS.2.1⟩, G_3, hF, ⟨rfl, trivial⟩, hT⟩ hS.2.2 (Nat.le_of_ble_eq_true rfl) (Nat.le_of_ble_eq_true rfl) dX7_take_38
    · skip
      have tc_7 : ¬ 6 ≤ x3_2.toInt := fun h => c_7 ((fa_le _ _).mpr h)
      refine lv_aload_n hx hb dX7_take_22 rfl (lv_at hl 1 rfl) ?_
      refine t_getr cf_5 hx hb hts hown hK hT h_a (k := 0) (P := fun q => τ q = 39) rfl (fun _ h9 => h9) fl_X7_9 (fun _ h9 => h9) dX7_take_23 (fun q_8 eq_8 hq_8 => ?_)
      have w_9 : q_1 = q_8 := Option.some.inj (eq_1.symm.trans ((hF.r h_a (by decide) rfl _).symm.trans eq_8))
      subst w_9
      refine lv_iload_n hx hb dX7_take_26 rfl (lv_at hl 0 rfl) ?_
      refine lv_aload_n hx hb dX7_take_27 rfl (lv_at hl 2 rfl) ?_
      refine lv_iload_n hx hb dX7_take_28 rfl (lv_at hl 0 rfl) ?_
      refine t_lald (n := n_4) (i := x3_2) rfl (by decide) hx hb hK hT h_b ((hF.n h_b (by decide)).trans en_4.symm) ⟨by omega, by omega⟩ dX7_take_29 (fun z_10 ez_10 => ?_)
      have ez_10 := ez_10.trans (hF.l h_b (by decide) rfl _)
      have rz_10 : 0 ≤ z_10.toInt ∧ z_10.toInt ≤ 999 := by rw [ez_10]; exact hn _ (by have e8 := en_4; have e9 : x3_2.toNatClampNeg = x3_2.toInt.toNat := rfl; rw [e9]; omega)
      refine lv_l2i hx hb dX7_take_30 rfl ?_
      refine lv_topi (fun z_11 ez_11 => ?_)
      have tz_11 : z_11.toInt = z_10.toInt := l2i_t ez_11 (by omega) (by omega)
      refine t_iast (n := 6) (i := x3_2) (x := z_11) rfl (by decide) hx hb hK hT hS hq_1 (hT.len hq_1 (by decide)) ⟨by omega, by omega⟩ (show 0 ≤ z_11.toInt ∧ z_11.toInt ≤ 999 from ⟨by omega, by omega⟩) dX7_take_31 (fun H locs G_12 eG_12 hT hS => ?_)
      have hF := hF.wI eG_12 hq_1 rfl
      obtain ⟨z_13, ez_13⟩ : ∃ y : Int32, y = x3_2 + 1 := ⟨_, rfl⟩
      have tz_13 : z_13.toInt = x3_2.toInt + 1 := add_t ez_13 (show -2147483648 ≤ x3_2.toInt + 1 by omega) (show x3_2.toInt + 1 < 2147483648 by omega)
      refine lv_iinc (v := z_13) (lv' := [(2, .int z_13), (0, .ref a), (1, .ref b)]) hx hb dX7_take_32 hl (k := 0) rfl (by rw [ez_13]; rfl) (by decide) rfl (fun ls hl => ?_)
      refine lv_goto (tgt := 10) hx hb dX7_take_35 (by decide) ?_
      exact ih3 (z_13, G_12) _ _ _ (by show (6 - z_13.toInt).toNat < (6 - x3_2.toInt).toNat; omega) ⟨(by show 0 ≤ z_13.toInt; omega), (by show z_13.toInt ≤ 6; omega), hF, hT, hS, lv_sub hl [0, 1, 2] rfl⟩
