theorem dJ3_checkIndex_8e157_0 : decode cJ3_checkIndex_8e157 0 = .ok (.iload_n 0, 1) := by decide +kernel
theorem dJ3_checkIndex_8e157_1 : decode cJ3_checkIndex_8e157 1 = .ok (.ifCond .lt 8, 3) := by decide +kernel
theorem dJ3_checkIndex_8e157_4 : decode cJ3_checkIndex_8e157 4 = .ok (.iload_n 0, 1) := by decide +kernel
theorem dJ3_checkIndex_8e157_5 : decode cJ3_checkIndex_8e157 5 = .ok (.iload_n 1, 1) := by decide +kernel
theorem dJ3_checkIndex_8e157_6 : decode cJ3_checkIndex_8e157 6 = .ok (.if_icmp .lt 10, 3) := by decide +kernel
theorem dJ3_checkIndex_8e157_16 : decode cJ3_checkIndex_8e157 16 = .ok (.iload_n 0, 1) := by decide +kernel
theorem dJ3_checkIndex_8e157_17 : decode cJ3_checkIndex_8e157 17 = .ok (.ireturn, 1) := by decide +kernel
theorem dJ0_checkIndex_df160_0 : decode cJ0_checkIndex_df160 0 = .ok (.iload_n 0, 1) := by decide +kernel
theorem dJ0_checkIndex_df160_1 : decode cJ0_checkIndex_df160 1 = .ok (.iload_n 1, 1) := by decide +kernel
theorem dJ0_checkIndex_df160_2 : decode cJ0_checkIndex_df160 2 = .ok (.getstatic 1053, 3) := by decide +kernel
theorem dJ0_checkIndex_df160_5 : decode cJ0_checkIndex_df160 5 = .ok (.invokestatic 1059, 3) := by decide +kernel
theorem dJ0_checkIndex_df160_8 : decode cJ0_checkIndex_df160 8 = .ok (.pop, 1) := by decide +kernel
theorem dJ0_checkIndex_df160_9 : decode cJ0_checkIndex_df160 9 = .ok (.return_, 1) := by decide +kernel
theorem dJ0_coder_7d493_0 : decode cJ0_coder_7d493 0 = .ok (.getstatic 38, 3) := by decide +kernel
theorem dJ0_coder_7d493_3 : decode cJ0_coder_7d493 3 = .ok (.ifCond .eq 10, 3) := by decide +kernel
theorem dJ0_coder_7d493_6 : decode cJ0_coder_7d493 6 = .ok (.aload_n 0, 1) := by decide +kernel
theorem dJ0_coder_7d493_7 : decode cJ0_coder_7d493 7 = .ok (.getfield 15, 3) := by decide +kernel
theorem dJ0_coder_7d493_10 : decode cJ0_coder_7d493 10 = .ok (.goto 4, 3) := by decide +kernel
theorem dJ0_coder_7d493_14 : decode cJ0_coder_7d493 14 = .ok (.ireturn, 1) := by decide +kernel
theorem dJ0_isLatin1_aae02_0 : decode cJ0_isLatin1_aae02 0 = .ok (.getstatic 38, 3) := by decide +kernel
theorem dJ0_isLatin1_aae02_3 : decode cJ0_isLatin1_aae02 3 = .ok (.ifCond .eq 14, 3) := by decide +kernel
theorem dJ0_isLatin1_aae02_6 : decode cJ0_isLatin1_aae02 6 = .ok (.aload_n 0, 1) := by decide +kernel
theorem dJ0_isLatin1_aae02_7 : decode cJ0_isLatin1_aae02 7 = .ok (.getfield 15, 3) := by decide +kernel
theorem dJ0_isLatin1_aae02_10 : decode cJ0_isLatin1_aae02 10 = .ok (.ifCond .ne 7, 3) := by decide +kernel
theorem dJ0_isLatin1_aae02_13 : decode cJ0_isLatin1_aae02 13 = .ok (.iconst 1, 1) := by decide +kernel
theorem dJ0_isLatin1_aae02_14 : decode cJ0_isLatin1_aae02 14 = .ok (.goto 4, 3) := by decide +kernel
theorem dJ0_isLatin1_aae02_18 : decode cJ0_isLatin1_aae02 18 = .ok (.ireturn, 1) := by decide +kernel
theorem dJ0_length_8abf5_0 : decode cJ0_length_8abf5 0 = .ok (.aload_n 0, 1) := by decide +kernel
theorem dJ0_length_8abf5_1 : decode cJ0_length_8abf5 1 = .ok (.getfield 9, 3) := by decide +kernel
theorem dJ0_length_8abf5_4 : decode cJ0_length_8abf5 4 = .ok (.arraylength, 1) := by decide +kernel
theorem dJ0_length_8abf5_5 : decode cJ0_length_8abf5 5 = .ok (.aload_n 0, 1) := by decide +kernel
theorem dJ0_length_8abf5_6 : decode cJ0_length_8abf5 6 = .ok (.invokevirtual 335, 3) := by decide +kernel
theorem dJ0_length_8abf5_9 : decode cJ0_length_8abf5 9 = .ok (.ishr, 1) := by decide +kernel
theorem dJ0_length_8abf5_10 : decode cJ0_length_8abf5 10 = .ok (.ireturn, 1) := by decide +kernel
theorem dJ1_charAt_3b067_0 : decode cJ1_charAt_3b067 0 = .ok (.iload_n 1, 1) := by decide +kernel
theorem dJ1_charAt_3b067_1 : decode cJ1_charAt_3b067 1 = .ok (.aload_n 0, 1) := by decide +kernel
theorem dJ1_charAt_3b067_2 : decode cJ1_charAt_3b067 2 = .ok (.arraylength, 1) := by decide +kernel
theorem dJ1_charAt_3b067_3 : decode cJ1_charAt_3b067 3 = .ok (.invokestatic 9, 3) := by decide +kernel
theorem dJ1_charAt_3b067_6 : decode cJ1_charAt_3b067 6 = .ok (.aload_n 0, 1) := by decide +kernel
theorem dJ1_charAt_3b067_7 : decode cJ1_charAt_3b067 7 = .ok (.iload_n 1, 1) := by decide +kernel
theorem dJ1_charAt_3b067_8 : decode cJ1_charAt_3b067 8 = .ok (.baload, 1) := by decide +kernel
theorem dJ1_charAt_3b067_9 : decode cJ1_charAt_3b067 9 = .ok (.sipush 255, 3) := by decide +kernel
theorem dJ1_charAt_3b067_12 : decode cJ1_charAt_3b067 12 = .ok (.iand, 1) := by decide +kernel
theorem dJ1_charAt_3b067_13 : decode cJ1_charAt_3b067 13 = .ok (.i2c, 1) := by decide +kernel
theorem dJ1_charAt_3b067_14 : decode cJ1_charAt_3b067 14 = .ok (.ireturn, 1) := by decide +kernel
theorem dJ0_charAt_5068e_0 : decode cJ0_charAt_5068e 0 = .ok (.aload_n 0, 1) := by decide +kernel
theorem dJ0_charAt_5068e_1 : decode cJ0_charAt_5068e 1 = .ok (.invokevirtual 492, 3) := by decide +kernel
theorem dJ0_charAt_5068e_4 : decode cJ0_charAt_5068e 4 = .ok (.ifCond .eq 12, 3) := by decide +kernel
theorem dJ0_charAt_5068e_7 : decode cJ0_charAt_5068e 7 = .ok (.aload_n 0, 1) := by decide +kernel
theorem dJ0_charAt_5068e_8 : decode cJ0_charAt_5068e 8 = .ok (.getfield 9, 3) := by decide +kernel
theorem dJ0_charAt_5068e_11 : decode cJ0_charAt_5068e 11 = .ok (.iload_n 1, 1) := by decide +kernel
theorem dJ0_charAt_5068e_12 : decode cJ0_charAt_5068e 12 = .ok (.invokestatic 495, 3) := by decide +kernel
theorem dJ0_charAt_5068e_15 : decode cJ0_charAt_5068e 15 = .ok (.ireturn, 1) := by decide +kernel
theorem dX4_isWord_0 : decode cX4_isWord 0 = .ok (.aload_n 0, 1) := by decide +kernel
theorem dX4_isWord_1 : decode cX4_isWord 1 = .ok (.getfield 33, 3) := by decide +kernel
theorem dX4_isWord_4 : decode cX4_isWord 4 = .ok (.iconst 1, 1) := by decide +kernel
theorem dX4_isWord_5 : decode cX4_isWord 5 = .ok (.if_icmp .ne 19, 3) := by decide +kernel
theorem dX4_isWord_24 : decode cX4_isWord 24 = .ok (.iconst 0, 1) := by decide +kernel
theorem dX4_isWord_25 : decode cX4_isWord 25 = .ok (.ireturn, 1) := by decide +kernel
theorem dX4_isWord_8 : decode cX4_isWord 8 = .ok (.aload_n 1, 1) := by decide +kernel
theorem dX4_isWord_9 : decode cX4_isWord 9 = .ok (.invokevirtual 213, 3) := by decide +kernel
theorem dX4_isWord_12 : decode cX4_isWord 12 = .ok (.aload_n 0, 1) := by decide +kernel
theorem dX4_isWord_13 : decode cX4_isWord 13 = .ok (.getfield 92, 3) := by decide +kernel
theorem dX4_isWord_16 : decode cX4_isWord 16 = .ok (.aload_n 0, 1) := by decide +kernel
theorem dX4_isWord_17 : decode cX4_isWord 17 = .ok (.getfield 210, 3) := by decide +kernel
theorem dX4_isWord_20 : decode cX4_isWord 20 = .ok (.isub, 1) := by decide +kernel
theorem dX4_isWord_21 : decode cX4_isWord 21 = .ok (.if_icmp .eq 5, 3) := by decide +kernel
theorem dX4_isWord_26 : decode cX4_isWord 26 = .ok (.iconst 0, 1) := by decide +kernel
theorem dX4_isWord_27 : decode cX4_isWord 27 = .ok (.istore_n 2, 1) := by decide +kernel
theorem dX4_isWord_28 : decode cX4_isWord 28 = .ok (.iload_n 2, 1) := by decide +kernel
theorem dX4_isWord_29 : decode cX4_isWord 29 = .ok (.aload_n 1, 1) := by decide +kernel
theorem dX4_isWord_30 : decode cX4_isWord 30 = .ok (.invokevirtual 213, 3) := by decide +kernel
theorem dX4_isWord_33 : decode cX4_isWord 33 = .ok (.if_icmp .ge 29, 3) := by decide +kernel
theorem dX4_isWord_62 : decode cX4_isWord 62 = .ok (.iconst 1, 1) := by decide +kernel
theorem dX4_isWord_63 : decode cX4_isWord 63 = .ok (.ireturn, 1) := by decide +kernel
theorem dX4_isWord_36 : decode cX4_isWord 36 = .ok (.aload_n 0, 1) := by decide +kernel
theorem dX4_isWord_37 : decode cX4_isWord 37 = .ok (.aload_n 0, 1) := by decide +kernel
theorem dX4_isWord_38 : decode cX4_isWord 38 = .ok (.getfield 210, 3) := by decide +kernel
theorem dX4_isWord_41 : decode cX4_isWord 41 = .ok (.iload_n 2, 1) := by decide +kernel
theorem dX4_isWord_42 : decode cX4_isWord 42 = .ok (.iadd, 1) := by decide +kernel
theorem dX4_isWord_43 : decode cX4_isWord 43 = .ok (.invokevirtual 218, 3) := by decide +kernel
theorem dX4_isWord_46 : decode cX4_isWord 46 = .ok (.aload_n 1, 1) := by decide +kernel
theorem dX4_isWord_47 : decode cX4_isWord 47 = .ok (.iload_n 2, 1) := by decide +kernel
theorem dX4_isWord_48 : decode cX4_isWord 48 = .ok (.invokevirtual 222, 3) := by decide +kernel
theorem dX4_isWord_51 : decode cX4_isWord 51 = .ok (.if_icmp .eq 5, 3) := by decide +kernel
theorem dX4_isWord_56 : decode cX4_isWord 56 = .ok (.iinc 2 1, 3) := by decide +kernel
theorem dX4_isWord_59 : decode cX4_isWord 59 = .ok (.goto (-31), 3) := by decide +kernel
theorem dX4_isWord_54 : decode cX4_isWord 54 = .ok (.iconst 0, 1) := by decide +kernel
theorem dX4_isWord_55 : decode cX4_isWord 55 = .ok (.ireturn, 1) := by decide +kernel
theorem dX4_takeWord_0 : decode cX4_takeWord 0 = .ok (.aload_n 0, 1) := by decide +kernel
theorem dX4_takeWord_1 : decode cX4_takeWord 1 = .ok (.aload_n 1, 1) := by decide +kernel
theorem dX4_takeWord_2 : decode cX4_takeWord 2 = .ok (.invokevirtual 47, 3) := by decide +kernel
theorem dX4_takeWord_5 : decode cX4_takeWord 5 = .ok (.ifCond .eq 10, 3) := by decide +kernel
theorem dX4_takeWord_8 : decode cX4_takeWord 8 = .ok (.aload_n 0, 1) := by decide +kernel
theorem dX4_takeWord_9 : decode cX4_takeWord 9 = .ok (.invokevirtual 105, 3) := by decide +kernel
theorem dX4_takeWord_12 : decode cX4_takeWord 12 = .ok (.goto 8, 3) := by decide +kernel
theorem dX4_takeWord_20 : decode cX4_takeWord 20 = .ok (.return_, 1) := by decide +kernel
theorem dX4_takeWord_15 : decode cX4_takeWord 15 = .ok (.aload_n 0, 1) := by decide +kernel
theorem dX4_takeWord_16 : decode cX4_takeWord 16 = .ok (.iconst 1, 1) := by decide +kernel
theorem dX4_takeWord_17 : decode cX4_takeWord 17 = .ok (.invokevirtual 79, 3) := by decide +kernel
theorem dX4_takeNamed_0 : decode cX4_takeNamed 0 = .ok (.aload_n 0, 1) := by decide +kernel
theorem dX4_takeNamed_1 : decode cX4_takeNamed 1 = .ok (.aload_n 1, 1) := by decide +kernel
theorem dX4_takeNamed_2 : decode cX4_takeNamed 2 = .ok (.invokevirtual 110, 3) := by decide +kernel
theorem dX4_takeNamed_5 : decode cX4_takeNamed 5 = .ok (.aload_n 0, 1) := by decide +kernel
theorem dX4_takeNamed_6 : decode cX4_takeNamed 6 = .ok (.iload_n 2, 1) := by decide +kernel
theorem dX4_takeNamed_7 : decode cX4_takeNamed 7 = .ok (.iload_n 3, 1) := by decide +kernel
theorem dX4_takeNamed_8 : decode cX4_takeNamed 8 = .ok (.invokevirtual 168, 3) := by decide +kernel
theorem dX4_takeNamed_11 : decode cX4_takeNamed 11 = .ok (.ireturn, 1) := by decide +kernel
theorem sS_J0_1059 : SiteS RJ0 1059 yJ3_checkIndex_8e157 cJ3_checkIndex_8e157 3 (some .int) 3 := ⟨ml_J0_1059, st_J3_checkIndex_8e157, ini_J3, co_J3_checkIndex_8e157, by decide +kernel⟩
theorem sV_J0_335 : SiteV RJ0 335 yJ0_coder_7d493 cJ0_coder_7d493 1 (some .byte) 0 := ⟨ml_J0_335, im_J0_coder_7d493, se_J0_coder_7d493, ini_J0, co_J0_coder_7d493, by decide +kernel⟩
theorem sS_J1_9 : SiteS RJ1 9 yJ0_checkIndex_df160 cJ0_checkIndex_df160 2 none 2 := ⟨ml_J1_9, st_J0_checkIndex_df160, ini_J0, co_J0_checkIndex_df160, by decide +kernel⟩
theorem sV_J0_492 : SiteV RJ0 492 yJ0_isLatin1_aae02 cJ0_isLatin1_aae02 1 (some .boolean) 0 := ⟨ml_J0_492, im_J0_isLatin1_aae02, se_J0_isLatin1_aae02, ini_J0, co_J0_isLatin1_aae02, by decide +kernel⟩
theorem sS_J0_495 : SiteS RJ0 495 yJ1_charAt_3b067 cJ1_charAt_3b067 2 (some .char) 2 := ⟨ml_J0_495, st_J1_charAt_3b067, ini_J1, co_J1_charAt_3b067, by decide +kernel⟩
theorem sV_X4_213 : SiteV RX4 213 yJ0_length_8abf5 cJ0_length_8abf5 1 (some .int) 0 := ⟨ml_X4_213, im_J0_length_8abf5, se_J0_length_8abf5, ini_J0, co_J0_length_8abf5, by decide +kernel⟩
theorem sV_X4_222 : SiteV RX4 222 yJ0_charAt_5068e cJ0_charAt_5068e 2 (some .char) 1 := ⟨ml_X4_222, im_J0_charAt_5068e, se_J0_charAt_5068e, ini_J0, co_J0_charAt_5068e, by decide +kernel⟩
theorem sV_X4_47 : SiteV RX4 47 yX4_isWord cX4_isWord 3 (some .boolean) 1 := ⟨ml_X4_47, im_X4_isWord, se_X4_isWord, ini_X4, co_X4_isWord, by decide +kernel⟩
theorem sV_X4_110 : SiteV RX4 110 yX4_takeWord cX4_takeWord 2 none 1 := ⟨ml_X4_110, im_X4_takeWord, se_X4_takeWord, ini_X4, co_X4_takeWord, by decide +kernel⟩
theorem sV_X4_168 : SiteV RX4 168 yX4_takeNumber cX4_takeNumber 4 (some .int) 2 := ⟨ml_X4_168, im_X4_takeNumber, se_X4_takeNumber, ini_X4, co_X4_takeNumber, by decide +kernel⟩
set_option maxHeartbeats 4000000 in
set_option maxRecDepth 100000 in
theorem t_J3_checkIndex_n (l : Launch) (D : va_G) (cy : Nat → ClassId) (base : Nat) (τ : Nat → Nat) (G : Gh)  (i : Int32) (r_i : 0 ≤ i.toInt) (n : Int32) (hin : i.toInt < n.toInt) : MM l yJ3_checkIndex_8e157 cJ3_checkIndex_8e157 3 (some .int) 0 0 0 D cy [.int i, .int n, .null] (PT D cy base τ G) (PuI (fun r => True)) noF := by
  refine MM.of (by decide) (Nat.le_of_ble_eq_true rfl) ?_
  intro p e s m below meth c C hPT ls hl
  obtain ⟨hx, hb, hr, hml, hown, hts, hlocks, hK, hnm⟩ := C
  obtain ⟨hZ, hT⟩ := hPT
  have hS : va_S (RA base) s.heap s.heap [] := va_S.rf
  have hl : lv_has ls 3 [(0, .int i), (1, .int n), (2, .null)] := hl
  refine lv_iload_n hx hb dJ3_checkIndex_8e157_0 rfl (lv_at hl 0 rfl) ?_
  refine lv_if_lt (tgt := 9) hx hb dJ3_checkIndex_8e157_1 (by decide) (fun c_1 => ?_) (fun c_1 => ?_)
  · skip
    have tc_1 : i.toInt < 0 := (fa_lt _ _).mp c_1
    exfalso; omega
  · skip
    have tc_1 : ¬ i.toInt < 0 := fun h => c_1 ((fa_lt _ _).mpr h)
    refine lv_iload_n hx hb dJ3_checkIndex_8e157_4 rfl (lv_at hl 0 rfl) ?_
    refine lv_iload_n hx hb dJ3_checkIndex_8e157_5 rfl (lv_at hl 1 rfl) ?_
    refine lv_icmp_lt (tgt := 16) hx hb dJ3_checkIndex_8e157_6 (by decide) (fun c_2 => ?_) (fun c_2 => ?_)
    · skip
      have tc_2 : i.toInt < n.toInt := (fa_lt _ _).mp c_2
      have mc_2 : n.toInt ≤ 2147483647 := max_t n
      refine lv_iload_n hx hb dJ3_checkIndex_8e157_16 rfl (lv_at hl 0 rfl) ?_
      exact ret_i hx hb hr hlocks ⟨rfl, _, rfl, trivial⟩ (fun _ h => absurd h List.not_mem_nil) (Nat.le_refl _) (Nat.le_refl _) dJ3_checkIndex_8e157_17
    · skip
      have tc_2 : ¬ i.toInt < n.toInt := fun h => c_2 ((fa_lt _ _).mpr h)
      exfalso; omega
set_option maxHeartbeats 4000000 in
set_option maxRecDepth 100000 in
theorem t_J3_checkIndex_r (l : Launch) (D : va_G) (cy : Nat → ClassId) (base : Nat) (τ : Nat → Nat) (G : Gh) (x : Nat) (i : Int32) (r_i : 0 ≤ i.toInt) (n : Int32) (hin : i.toInt < n.toInt) : MM l yJ3_checkIndex_8e157 cJ3_checkIndex_8e157 3 (some .int) 0 0 0 D cy [.int i, .int n, .ref x] (PT D cy base τ G) (PuI (fun r => True)) noF := by
  refine MM.of (by decide) (Nat.le_of_ble_eq_true rfl) ?_
  intro p e s m below meth c C hPT ls hl
  obtain ⟨hx, hb, hr, hml, hown, hts, hlocks, hK, hnm⟩ := C
  obtain ⟨hZ, hT⟩ := hPT
  have hS : va_S (RA base) s.heap s.heap [] := va_S.rf
  have hl : lv_has ls 3 [(0, .int i), (1, .int n), (2, .ref x)] := hl
  refine lv_iload_n hx hb dJ3_checkIndex_8e157_0 rfl (lv_at hl 0 rfl) ?_
  refine lv_if_lt (tgt := 9) hx hb dJ3_checkIndex_8e157_1 (by decide) (fun c_1 => ?_) (fun c_1 => ?_)
  · skip
    have tc_1 : i.toInt < 0 := (fa_lt _ _).mp c_1
    exfalso; omega
  · skip
    have tc_1 : ¬ i.toInt < 0 := fun h => c_1 ((fa_lt _ _).mpr h)
    refine lv_iload_n hx hb dJ3_checkIndex_8e157_4 rfl (lv_at hl 0 rfl) ?_
    refine lv_iload_n hx hb dJ3_checkIndex_8e157_5 rfl (lv_at hl 1 rfl) ?_
    refine lv_icmp_lt (tgt := 16) hx hb dJ3_checkIndex_8e157_6 (by decide) (fun c_2 => ?_) (fun c_2 => ?_)
    · skip
      have tc_2 : i.toInt < n.toInt := (fa_lt _ _).mp c_2
      have mc_2 : n.toInt ≤ 2147483647 := max_t n
      refine lv_iload_n hx hb dJ3_checkIndex_8e157_16 rfl (lv_at hl 0 rfl) ?_
      exact ret_i hx hb hr hlocks ⟨rfl, _, rfl, trivial⟩ (fun _ h => absurd h List.not_mem_nil) (Nat.le_refl _) (Nat.le_refl _) dJ3_checkIndex_8e157_17
    · skip
      have tc_2 : ¬ i.toInt < n.toInt := fun h => c_2 ((fa_lt _ _).mpr h)
      exfalso; omega
set_option maxHeartbeats 4000000 in
set_option maxRecDepth 100000 in
theorem t_J0_checkIndex_df160 (l : Launch) (D : va_G) (cy : Nat → ClassId) (base : Nat) (τ : Nat → Nat) (G : Gh) (adK adV : Nat → Nat)  (i : Int32) (r_i : 0 ≤ i.toInt) (n : Int32) (hin : i.toInt < n.toInt) : MS l yJ0_checkIndex_df160 cJ0_checkIndex_df160 2 none 1 0 0 D cy adK adV base [.int i, .int n] (PT D cy base τ G) (Pu (fun v => v = none)) noF := by
  refine MS.of (by decide) (Nat.le_of_ble_eq_true rfl) ?_
  intro p e s m below meth c C hPT hSS ls hl
  obtain ⟨hx, hb, hr, hml, hown, hts, hlocks, hK, hnm⟩ := C
  obtain ⟨hZ, hT⟩ := hPT
  have hS : va_S (RA base) s.heap s.heap [] := va_S.rf
  have hl : lv_has ls 2 [(0, .int i), (1, .int n)] := hl
  refine lv_iload_n hx hb dJ0_checkIndex_df160_0 rfl (lv_at hl 0 rfl) ?_
  refine lv_iload_n hx hb dJ0_checkIndex_df160_1 rfl (lv_at hl 1 rfl) ?_
  rcases hSS.2.2.2 with hzq_1 | ⟨q_1, hzq_1⟩
  · skip
    refine va_gets hx hb hzq_1 hS hown (hts _ fl_J0_1053) (fun _ h9 => h9) dJ0_checkIndex_df160_2 ?_
    refine pu_calli (runS (As := [.int i, .int n, .null]) (rest := []) ⟨hx, hb, hml, hown, hts⟩ (t_J3_checkIndex_n l D cy base τ G i (by omega) n (by show i.toInt < n.toInt; first | assumption | omega | decide)) sS_J0_1059 hK ⟨Nat.le_trans hZ hS.1, hT⟩ ⟨Nat.le_of_ble_eq_true rfl, Nat.le_of_ble_eq_true rfl⟩ rfl hl.1 rfl (Nat.le_of_ble_eq_true rfl) dJ0_checkIndex_df160_5 ⟨Nat.le_of_ble_eq_true rfl, Nat.le_of_ble_eq_true rfl⟩) (fun r_2 hr_2 => ?_)
    refine lv_pop hx hb dJ0_checkIndex_df160_8 rfl ?_
    exact ret_v hx hb hr hlocks ⟨rfl, rfl⟩ (fun _ h => absurd h List.not_mem_nil) (Nat.le_refl _) (Nat.le_refl _) dJ0_checkIndex_df160_9
  · skip
    refine va_gets hx hb hzq_1 hS hown (hts _ fl_J0_1053) (fun _ h9 => h9) dJ0_checkIndex_df160_2 ?_
    refine pu_calli (runS (As := [.int i, .int n, .ref q_1]) (rest := []) ⟨hx, hb, hml, hown, hts⟩ (t_J3_checkIndex_r l D cy base τ G q_1 i (by omega) n (by show i.toInt < n.toInt; first | assumption | omega | decide)) sS_J0_1059 hK ⟨Nat.le_trans hZ hS.1, hT⟩ ⟨Nat.le_of_ble_eq_true rfl, Nat.le_of_ble_eq_true rfl⟩ rfl hl.1 rfl (Nat.le_of_ble_eq_true rfl) dJ0_checkIndex_df160_5 ⟨Nat.le_of_ble_eq_true rfl, Nat.le_of_ble_eq_true rfl⟩) (fun r_3 hr_3 => ?_)
    refine lv_pop hx hb dJ0_checkIndex_df160_8 rfl ?_
    exact ret_v hx hb hr hlocks ⟨rfl, rfl⟩ (fun _ h => absurd h List.not_mem_nil) (Nat.le_refl _) (Nat.le_refl _) dJ0_checkIndex_df160_9
set_option maxHeartbeats 4000000 in
set_option maxRecDepth 100000 in
theorem t_J0_coder_7d493 (l : Launch) (D : va_G) (cy : Nat → ClassId) (base : Nat) (τ : Nat → Nat) (G : Gh) (adK adV : Nat → Nat) (sx : Nat) (hi_sx : sx < 20)  : MS l yJ0_coder_7d493 cJ0_coder_7d493 1 (some .byte) 0 0 0 D cy adK adV base [.ref (adK sx)] (PT D cy base τ G) (PuI (fun r => r = 0)) noF := by
  refine MS.of (by decide) (Nat.le_of_ble_eq_true rfl) ?_
  intro p e s m below meth c C hPT hSS ls hl
  obtain ⟨hx, hb, hr, hml, hown, hts, hlocks, hK, hnm⟩ := C
  obtain ⟨hZ, hT⟩ := hPT
  have hS : va_S (RA base) s.heap s.heap [] := va_S.rf
  have hl : lv_has ls 1 [(0, .ref (adK sx))] := hl
  refine va_gets hx hb hSS.2.2.1 hS hown (hts _ fl_J0_38) (fun _ h9 => h9) dJ0_coder_7d493_0 ?_
  refine lv_if_eq (tgt := 13) hx hb dJ0_coder_7d493_3 (by decide) (fun c_1 => absurd c_1 (by decide)) (fun _ => ?_)
  refine lv_aload_n hx hb dJ0_coder_7d493_6 rfl (lv_at hl 0 rfl) ?_
  refine vk_getf hx hb (hSS.1 sx hi_sx).2.1 hS hown (hts _ fl_J0_15) (fun _ h9 => h9) dJ0_coder_7d493_7 ?_
  refine lv_goto (tgt := 14) hx hb dJ0_coder_7d493_10 (by decide) ?_
  exact ret_z (ty := .byte) hx hb hr rfl hlocks ⟨rfl, _, rfl, rfl⟩ (fun _ h => absurd h List.not_mem_nil) (Nat.le_refl _) (Nat.le_refl _) dJ0_coder_7d493_14
set_option maxHeartbeats 4000000 in
set_option maxRecDepth 100000 in
theorem t_J0_isLatin1_aae02 (l : Launch) (D : va_G) (cy : Nat → ClassId) (base : Nat) (τ : Nat → Nat) (G : Gh) (adK adV : Nat → Nat) (sx : Nat) (hi_sx : sx < 20)  : MS l yJ0_isLatin1_aae02 cJ0_isLatin1_aae02 1 (some .boolean) 0 0 0 D cy adK adV base [.ref (adK sx)] (PT D cy base τ G) (PuI (fun r => r = 1)) noF := by
  refine MS.of (by decide) (Nat.le_of_ble_eq_true rfl) ?_
  intro p e s m below meth c C hPT hSS ls hl
  obtain ⟨hx, hb, hr, hml, hown, hts, hlocks, hK, hnm⟩ := C
  obtain ⟨hZ, hT⟩ := hPT
  have hS : va_S (RA base) s.heap s.heap [] := va_S.rf
  have hl : lv_has ls 1 [(0, .ref (adK sx))] := hl
  refine va_gets hx hb hSS.2.2.1 hS hown (hts _ fl_J0_38) (fun _ h9 => h9) dJ0_isLatin1_aae02_0 ?_
  refine lv_if_eq (tgt := 17) hx hb dJ0_isLatin1_aae02_3 (by decide) (fun c_1 => absurd c_1 (by decide)) (fun _ => ?_)
  refine lv_aload_n hx hb dJ0_isLatin1_aae02_6 rfl (lv_at hl 0 rfl) ?_
  refine vk_getf hx hb (hSS.1 sx hi_sx).2.1 hS hown (hts _ fl_J0_15) (fun _ h9 => h9) dJ0_isLatin1_aae02_7 ?_
  refine lv_if_ne (tgt := 17) hx hb dJ0_isLatin1_aae02_10 (by decide) (fun c_2 => absurd rfl c_2) (fun _ => ?_)
  refine lv_iconst (v := 1) hx hb dJ0_isLatin1_aae02_13 (by decide) ?_
  refine lv_goto (tgt := 18) hx hb dJ0_isLatin1_aae02_14 (by decide) ?_
  exact ret_z (ty := .boolean) hx hb hr rfl hlocks ⟨rfl, _, rfl, rfl⟩ (fun _ h => absurd h List.not_mem_nil) (Nat.le_refl _) (Nat.le_refl _) dJ0_isLatin1_aae02_18
set_option maxHeartbeats 4000000 in
set_option maxRecDepth 100000 in
theorem t_J0_length_8abf5 (l : Launch) (D : va_G) (cy : Nat → ClassId) (base : Nat) (τ : Nat → Nat) (G : Gh) (adK adV : Nat → Nat) (sx : Nat) (hi_sx : sx < 20)  : MS l yJ0_length_8abf5 cJ0_length_8abf5 1 (some .int) 1 0 0 D cy adK adV base [.ref (adK sx)] (PT D cy base τ G) (PuI (fun r => (r.toInt = (lenS.getD sx 0 : Nat)) ∧ (lenS.getD sx 0 ≤ 6))) noF := by
  refine MS.of (by decide) (Nat.le_of_ble_eq_true rfl) ?_
  intro p e s m below meth c C hPT hSS ls hl
  obtain ⟨hx, hb, hr, hml, hown, hts, hlocks, hK, hnm⟩ := C
  obtain ⟨hZ, hT⟩ := hPT
  have hS : va_S (RA base) s.heap s.heap [] := va_S.rf
  have hl : lv_has ls 1 [(0, .ref (adK sx))] := hl
  refine lv_aload_n hx hb dJ0_length_8abf5_0 rfl (lv_at hl 0 rfl) ?_
  refine vk_getf hx hb (hSS.1 sx hi_sx).2.2.1 hS hown (hts _ fl_J0_9) (fun _ h9 => h9) dJ0_length_8abf5_1 ?_
  obtain ⟨z_1, ez_1⟩ : ∃ y : Int32, Int32.ofNat (lenS.getD sx 0) = y := ⟨_, rfl⟩
  refine va_tlen hx hb (hSS.1 sx hi_sx).2.2.2 hS ez_1 dJ0_length_8abf5_4 ?_
  have tz_1 : z_1.toInt = (lenS.getD sx 0 : Nat) ∧ lenS.getD sx 0 ≤ 6 := lenS_t ez_1
  refine lv_aload_n hx hb dJ0_length_8abf5_5 rfl (lv_at hl 0 rfl) ?_
  refine pu_calli (runVs (As := []) (rest := [.int z_1]) ⟨hx, hb, hml, hown, hts⟩ (t_J0_coder_7d493 l D cy base τ G adK adV sx hi_sx ) sV_J0_335 hK hSS hS (so_recv (hSS.1 sx hi_sx).1 hS) ⟨Nat.le_trans hZ hS.1, hT⟩ ⟨Nat.le_of_ble_eq_true rfl, Nat.le_of_ble_eq_true rfl⟩ rfl hl.1 rfl (Nat.le_of_ble_eq_true rfl) dJ0_length_8abf5_6 ⟨Nat.le_of_ble_eq_true rfl, Nat.le_of_ble_eq_true rfl⟩) (fun r_2 hr_2 => ?_)
  have er_2 := hr_2
  subst er_2
  refine W.eq (g2 := F0 m 9 ls [.int 0, .int z_1]) rfl ?_
  refine lv_ishr hx hb dJ0_length_8abf5_9 ?_
  refine lv_topi (fun z_3 ez_3 => ?_)
  have w_4 : z_1 = z_3 := (shr0_t ez_3).symm
  subst w_4
  exact ret_i hx hb hr hlocks ⟨rfl, _, rfl, ⟨(by show z_1.toInt = (lenS.getD sx 0 : Nat); first | omega | assumption), (by show lenS.getD sx 0 ≤ 6; first | omega | assumption)⟩⟩ (fun _ h => absurd h List.not_mem_nil) (Nat.le_refl _) (Nat.le_refl _) dJ0_length_8abf5_10
set_option maxHeartbeats 4000000 in
set_option maxRecDepth 100000 in
theorem t_J1_charAt_3b067 (l : Launch) (D : va_G) (cy : Nat → ClassId) (base : Nat) (τ : Nat → Nat) (G : Gh) (adK adV : Nat → Nat) (sx : Nat) (hi_sx : sx < 20) (i : Int32) (r_i : 0 ≤ i.toInt) (hin : i.toInt < (lenS.getD sx 0 : Nat)) : MS l yJ1_charAt_3b067 cJ1_charAt_3b067 2 (some .char) 2 0 0 D cy adK adV base [.ref (adV sx), .int i] (PT D cy base τ G) (PuI (fun r => (narrow .char (.int r) = .int r))) noF := by
  refine MS.of (by decide) (Nat.le_of_ble_eq_true rfl) ?_
  intro p e s m below meth c C hPT hSS ls hl
  obtain ⟨hx, hb, hr, hml, hown, hts, hlocks, hK, hnm⟩ := C
  obtain ⟨hZ, hT⟩ := hPT
  have hS : va_S (RA base) s.heap s.heap [] := va_S.rf
  have hl : lv_has ls 2 [(0, .ref (adV sx)), (1, .int i)] := hl
  refine lv_iload_n hx hb dJ1_charAt_3b067_0 rfl (lv_at hl 1 rfl) ?_
  refine lv_aload_n hx hb dJ1_charAt_3b067_1 rfl (lv_at hl 0 rfl) ?_
  obtain ⟨z_1, ez_1⟩ : ∃ y : Int32, Int32.ofNat (lenS.getD sx 0) = y := ⟨_, rfl⟩
  refine va_tlen hx hb (hSS.1 sx hi_sx).2.2.2 hS ez_1 dJ1_charAt_3b067_2 ?_
  have tz_1 : z_1.toInt = (lenS.getD sx 0 : Nat) ∧ lenS.getD sx 0 ≤ 6 := lenS_t ez_1
  refine pu_call (runSs (As := [.int i, .int z_1]) (rest := []) ⟨hx, hb, hml, hown, hts⟩ (t_J0_checkIndex_df160 l D cy base τ G adK adV  i (by omega) z_1 (by show i.toInt < z_1.toInt; first | assumption | omega | decide)) sS_J1_9 hK hSS hS ⟨Nat.le_trans hZ hS.1, hT⟩ ⟨Nat.le_of_ble_eq_true rfl, Nat.le_of_ble_eq_true rfl⟩ rfl hl.1 rfl (Nat.le_of_ble_eq_true rfl) dJ1_charAt_3b067_3 ⟨Nat.le_of_ble_eq_true rfl, Nat.le_of_ble_eq_true rfl⟩) (fun v_2 h_2 => ?_)
  subst h_2
  refine W.eq (g2 := F0 m 6 ls []) rfl ?_
  refine lv_aload_n hx hb dJ1_charAt_3b067_6 rfl (lv_at hl 0 rfl) ?_
  refine lv_iload_n hx hb dJ1_charAt_3b067_7 rfl (lv_at hl 1 rfl) ?_
  refine va_tb (i := i) hx hb (hSS.1 sx hi_sx).2.2.2 hS (vp_in_iff.mpr ⟨by omega, by omega⟩) rfl dJ1_charAt_3b067_8 ?_
  refine lv_topi (fun z_3 ez_3 => ?_)
  refine lv_sipush (v := 255) hx hb dJ1_charAt_3b067_9 (by decide) ?_
  refine lv_iand hx hb dJ1_charAt_3b067_12 ?_
  refine lv_topi (fun z_4 ez_4 => ?_)
  have tz_4 : 0 ≤ z_4.toInt ∧ z_4.toInt ≤ 255 := and_t ez_4 (by decide)
  refine lv_i2c hx hb dJ1_charAt_3b067_13 rfl ?_
  refine lv_topi (fun z_5 ez_5 => ?_)
  exact ret_z (ty := .char) hx hb hr (nar_char ez_5.symm) hlocks ⟨rfl, _, rfl, (nar_char ez_5.symm)⟩ (fun _ h => absurd h List.not_mem_nil) (Nat.le_refl _) (Nat.le_refl _) dJ1_charAt_3b067_14
set_option maxHeartbeats 4000000 in
set_option maxRecDepth 100000 in
theorem t_J0_charAt_5068e (l : Launch) (D : va_G) (cy : Nat → ClassId) (base : Nat) (τ : Nat → Nat) (G : Gh) (adK adV : Nat → Nat) (sx : Nat) (hi_sx : sx < 20) (i : Int32) (r_i : 0 ≤ i.toInt) (hin : i.toInt < (lenS.getD sx 0 : Nat)) : MS l yJ0_charAt_5068e cJ0_charAt_5068e 2 (some .char) 3 0 0 D cy adK adV base [.ref (adK sx), .int i] (PT D cy base τ G) (PuI (fun r => True)) noF := by
  refine MS.of (by decide) (Nat.le_of_ble_eq_true rfl) ?_
  intro p e s m below meth c C hPT hSS ls hl
  obtain ⟨hx, hb, hr, hml, hown, hts, hlocks, hK, hnm⟩ := C
  obtain ⟨hZ, hT⟩ := hPT
  have hS : va_S (RA base) s.heap s.heap [] := va_S.rf
  have hl : lv_has ls 2 [(0, .ref (adK sx)), (1, .int i)] := hl
  refine lv_aload_n hx hb dJ0_charAt_5068e_0 rfl (lv_at hl 0 rfl) ?_
  refine pu_calli (runVs (As := []) (rest := []) ⟨hx, hb, hml, hown, hts⟩ (t_J0_isLatin1_aae02 l D cy base τ G adK adV sx hi_sx ) sV_J0_492 hK hSS hS (so_recv (hSS.1 sx hi_sx).1 hS) ⟨Nat.le_trans hZ hS.1, hT⟩ ⟨Nat.le_of_ble_eq_true rfl, Nat.le_of_ble_eq_true rfl⟩ rfl hl.1 rfl (Nat.le_of_ble_eq_true rfl) dJ0_charAt_5068e_1 ⟨Nat.le_of_ble_eq_true rfl, Nat.le_of_ble_eq_true rfl⟩) (fun r_1 hr_1 => ?_)
  have er_1 := hr_1
  subst er_1
  refine W.eq (g2 := F0 m 4 ls [.int 1]) rfl ?_
  refine lv_if_eq (tgt := 16) hx hb dJ0_charAt_5068e_4 (by decide) (fun c_2 => absurd c_2 (by decide)) (fun _ => ?_)
  refine lv_aload_n hx hb dJ0_charAt_5068e_7 rfl (lv_at hl 0 rfl) ?_
  refine vk_getf hx hb (hSS.1 sx hi_sx).2.2.1 hS hown (hts _ fl_J0_9) (fun _ h9 => h9) dJ0_charAt_5068e_8 ?_
  refine lv_iload_n hx hb dJ0_charAt_5068e_11 rfl (lv_at hl 1 rfl) ?_
  refine pu_calli (runSs (As := [.ref (adV sx), .int i]) (rest := []) ⟨hx, hb, hml, hown, hts⟩ (t_J1_charAt_3b067 l D cy base τ G adK adV sx hi_sx i (by omega) (by show i.toInt < (lenS.getD sx 0 : Nat); first | assumption | omega | decide)) sS_J0_495 hK hSS hS ⟨Nat.le_trans hZ hS.1, hT⟩ ⟨Nat.le_of_ble_eq_true rfl, Nat.le_of_ble_eq_true rfl⟩ rfl hl.1 rfl (Nat.le_of_ble_eq_true rfl) dJ0_charAt_5068e_12 ⟨Nat.le_of_ble_eq_true rfl, Nat.le_of_ble_eq_true rfl⟩) (fun r_3 hr_3 => ?_)
  have hr_3_p0 := hr_3
  have hr_3_p0 : narrow .char (.int r_3) = .int r_3 := hr_3_p0
  exact ret_z (ty := .char) hx hb hr hr_3_p0 hlocks ⟨rfl, _, rfl, trivial⟩ (fun _ h => absurd h List.not_mem_nil) (Nat.le_refl _) (Nat.le_refl _) dJ0_charAt_5068e_15
set_option maxHeartbeats 4000000 in
set_option maxRecDepth 100000 in
theorem t_X4_isWord (l : Launch) (D : va_G) (cy : Nat → ClassId) (base : Nat) (τ : Nat → Nat) (G : Gh) (adK adV : Nat → Nat) (sx : Nat) (hi_sx : sx < 20) (a : Nat) (h_a : τ a = 2) : MS l yX4_isWord cX4_isWord 3 (some .boolean) 4 0 0 D cy adK adV base [.ref a, .ref (adK sx)] (PT D cy base τ G) (PuI (fun r => ((r = 1) ∨ (r = 0)))) noF := by
  refine MS.of (by decide) (Nat.le_of_ble_eq_true rfl) ?_
  intro p e s m below meth c C hPT hSS ls hl
  obtain ⟨hx, hb, hr, hml, hown, hts, hlocks, hK, hnm⟩ := C
  obtain ⟨hZ, hT⟩ := hPT
  have hS : va_S (RA base) s.heap s.heap [] := va_S.rf
  have hl : lv_has ls 3 [(0, .ref a), (1, .ref (adK sx))] := hl
  refine lv_aload_n hx hb dX4_isWord_0 rfl (lv_at hl 0 rfl) ?_
  refine t_geti cf_2 hx hb hts hown hK hT h_a (k := 4) rfl fl_X4_33 (fun _ h9 => h9) dX4_isWord_1 (fun z_1 ez_1 rz_1 => ?_)
  have ez_1 : z_1 = G.1 a 4 := ez_1
  refine lv_iconst (v := 1) hx hb dX4_isWord_4 (by decide) ?_
  refine lv_icmp_ne (tgt := 24) hx hb dX4_isWord_5 (by decide) (fun c_2 => ?_) (fun c_2 => ?_)
  · skip
    have tc_2 : ¬ z_1.toInt = 1 := fun h => c_2 ((fa_eq _ _).mpr h)
    refine lv_iconst (v := 0) hx hb dX4_isWord_24 (by decide) ?_
    exact ret_z (ty := .boolean) hx hb hr rfl hlocks ⟨rfl, _, rfl, (Or.inr rfl)⟩ (fun _ h => absurd h List.not_mem_nil) (Nat.le_refl _) (Nat.le_refl _) dX4_isWord_25
  · skip
    have tc_2 : z_1.toInt = 1 := (fa_eq _ _).mp c_2
    refine lv_aload_n hx hb dX4_isWord_8 rfl (lv_at hl 1 rfl) ?_
    refine pu_calli (runVs (As := []) (rest := []) ⟨hx, hb, hml, hown, hts⟩ (t_J0_length_8abf5 l D cy base τ G adK adV sx hi_sx ) sV_X4_213 hK hSS hS (so_recv (hSS.1 sx hi_sx).1 hS) ⟨Nat.le_trans hZ hS.1, hT⟩ ⟨Nat.le_of_ble_eq_true rfl, Nat.le_of_ble_eq_true rfl⟩ rfl hl.1 rfl (Nat.le_of_ble_eq_true rfl) dX4_isWord_9 ⟨Nat.le_of_ble_eq_true rfl, Nat.le_of_ble_eq_true rfl⟩) (fun r_3 hr_3 => ?_)
    obtain ⟨hr_3_p0, hr_3_p1⟩ := hr_3
    have hr_3_p0 : r_3.toInt = (lenS.getD sx 0 : Nat) := hr_3_p0
    have hr_3_p1 : lenS.getD sx 0 ≤ 6 := hr_3_p1
    refine lv_aload_n hx hb dX4_isWord_12 rfl (lv_at hl 0 rfl) ?_
    refine t_geti cf_2 hx hb hts hown hK hT h_a (k := 6) rfl fl_X4_92 (fun _ h9 => h9) dX4_isWord_13 (fun z_4 ez_4 rz_4 => ?_)
    have ez_4 : z_4 = G.1 a 6 := ez_4
    refine lv_aload_n hx hb dX4_isWord_16 rfl (lv_at hl 0 rfl) ?_
    refine t_geti cf_2 hx hb hts hown hK hT h_a (k := 5) rfl fl_X4_210 (fun _ h9 => h9) dX4_isWord_17 (fun z_5 ez_5 rz_5 => ?_)
    have ez_5 : z_5 = G.1 a 5 := ez_5
    refine lv_isub hx hb dX4_isWord_20 ?_
    refine lv_topi (fun z_6 ez_6 => ?_)
    refine lv_icmp_eq (tgt := 26) hx hb dX4_isWord_21 (by decide) (fun c_7 => ?_) (fun c_7 => ?_)
    · skip
      have tc_7 : r_3.toInt = z_6.toInt := (fa_eq _ _).mp c_7
      refine lv_iconst (v := 0) hx hb dX4_isWord_26 (by decide) ?_
      refine lv_istore_n (lv' := [(2, .int 0), (0, .ref a), (1, .ref (adK sx))]) hx hb dX4_isWord_27 rfl hl (by decide) rfl (fun ls hl => ?_)
      refine W.loop (σ := Int32) (fun w8 H locs ls => 0 ≤ w8.toInt ∧ w8.toInt ≤ 6 ∧ H = s.heap ∧ locs = [] ∧ lv_has ls 3 [(2, .int w8), (0, .ref a), (1, .ref (adK sx))]) (fun w8 => (6 - w8.toInt).toNat) ?_ ((0 : Int32)) _ _ _ ⟨(by show 0 ≤ (0 : Int32).toInt; decide), (by show (0 : Int32).toInt ≤ 6; decide), rfl, rfl, lv_sub hl [0, 1, 2] rfl⟩
      intro w8 H locs ls hI ih8
      obtain ⟨x8_2, e9⟩ : ∃ y, y = w8 := ⟨_, rfl⟩
      subst e9
      obtain ⟨i8_0, i8_1, rfl, rfl, hl⟩ := hI
      have i8_0 : 0 ≤ x8_2.toInt := i8_0
      have i8_1 : x8_2.toInt ≤ 6 := i8_1
      have hl : lv_has ls 3 [(2, .int x8_2), (0, .ref a), (1, .ref (adK sx))] := hl
      refine lv_iload_n hx hb dX4_isWord_28 rfl (lv_at hl 0 rfl) ?_
      refine lv_aload_n hx hb dX4_isWord_29 rfl (lv_at hl 2 rfl) ?_
      refine pu_calli (runVs (As := []) (rest := [.int x8_2]) ⟨hx, hb, hml, hown, hts⟩ (t_J0_length_8abf5 l D cy base τ G adK adV sx hi_sx ) sV_X4_213 hK hSS hS (so_recv (hSS.1 sx hi_sx).1 hS) ⟨Nat.le_trans hZ hS.1, hT⟩ ⟨Nat.le_of_ble_eq_true rfl, Nat.le_of_ble_eq_true rfl⟩ rfl hl.1 rfl (Nat.le_of_ble_eq_true rfl) dX4_isWord_30 ⟨Nat.le_of_ble_eq_true rfl, Nat.le_of_ble_eq_true rfl⟩) (fun r_9 hr_9 => ?_)
      obtain ⟨hr_9_p0, hr_9_p1⟩ := hr_9
      have hr_9_p0 : r_9.toInt = (lenS.getD sx 0 : Nat) := hr_9_p0
      have hr_9_p1 : lenS.getD sx 0 ≤ 6 := hr_9_p1
      refine lv_icmp_ge (tgt := 62) hx hb dX4_isWord_33 (by decide) (fun c_10 => ?_) (fun c_10 => ?_)
      · skip
        have tc_10 : r_9.toInt ≤ x8_2.toInt := (fa_le _ _).mp c_10
        refine lv_iconst (v := 1) hx hb dX4_isWord_62 (by decide) ?_
        exact ret_z (ty := .boolean) hx hb hr rfl hlocks ⟨rfl, _, rfl, (Or.inl rfl)⟩ (fun _ h => absurd h List.not_mem_nil) (Nat.le_refl _) (Nat.le_refl _) dX4_isWord_63
      · skip
        have tc_10 : ¬ r_9.toInt ≤ x8_2.toInt := fun h => c_10 ((fa_le _ _).mpr h)
        have mc_10 : r_9.toInt ≤ 2147483647 := max_t r_9
        refine lv_aload_n hx hb dX4_isWord_36 rfl (lv_at hl 1 rfl) ?_
        refine lv_aload_n hx hb dX4_isWord_37 rfl (lv_at hl 1 rfl) ?_
        refine t_geti cf_2 hx hb hts hown hK hT h_a (k := 5) rfl fl_X4_210 (fun _ h9 => h9) dX4_isWord_38 (fun z_11 ez_11 rz_11 => ?_)
        have w_12 : z_5 = z_11 := ez_5.trans ez_11.symm
        subst w_12
        refine lv_iload_n hx hb dX4_isWord_41 rfl (lv_at hl 0 rfl) ?_
        refine lv_iadd hx hb dX4_isWord_42 ?_
        refine lv_topi (fun z_13 ez_13 => ?_)
        refine pu_calli (runV (As := [.int z_13]) (rest := []) ⟨hx, hb, hml, hown, hts⟩ (t_X4_signAt l D cy base τ G a h_a z_13) sV_X4_218 hK (t_recv cf_2 hK hT h_a) ⟨Nat.le_trans hZ hS.1, hT⟩ ⟨Nat.le_of_ble_eq_true rfl, Nat.le_of_ble_eq_true rfl⟩ rfl hl.1 rfl (Nat.le_of_ble_eq_true rfl) dX4_isWord_43 ⟨Nat.le_of_ble_eq_true rfl, Nat.le_of_ble_eq_true rfl⟩) (fun r_14 hr_14 => ?_)
        refine lv_aload_n hx hb dX4_isWord_46 rfl (lv_at hl 2 rfl) ?_
        refine lv_iload_n hx hb dX4_isWord_47 rfl (lv_at hl 0 rfl) ?_
        refine pu_calli (runVs (As := [.int x8_2]) (rest := [.int r_14]) ⟨hx, hb, hml, hown, hts⟩ (t_J0_charAt_5068e l D cy base τ G adK adV sx hi_sx x8_2 (by omega) (by show x8_2.toInt < (lenS.getD sx 0 : Nat); first | assumption | omega | decide)) sV_X4_222 hK hSS hS (so_recv (hSS.1 sx hi_sx).1 hS) ⟨Nat.le_trans hZ hS.1, hT⟩ ⟨Nat.le_of_ble_eq_true rfl, Nat.le_of_ble_eq_true rfl⟩ rfl hl.1 rfl (Nat.le_of_ble_eq_true rfl) dX4_isWord_48 ⟨Nat.le_of_ble_eq_true rfl, Nat.le_of_ble_eq_true rfl⟩) (fun r_15 hr_15 => ?_)
        refine lv_icmp_eq (tgt := 56) hx hb dX4_isWord_51 (by decide) (fun c_16 => ?_) (fun c_16 => ?_)
        · skip
          have tc_16 : r_14.toInt = r_15.toInt := (fa_eq _ _).mp c_16
          obtain ⟨z_17, ez_17⟩ : ∃ y : Int32, y = x8_2 + 1 := ⟨_, rfl⟩
          have tz_17 : z_17.toInt = x8_2.toInt + 1 := add_t ez_17 (show -2147483648 ≤ x8_2.toInt + 1 by omega) (show x8_2.toInt + 1 < 2147483648 by omega)
          refine lv_iinc (v := z_17) (lv' := [(2, .int z_17), (0, .ref a), (1, .ref (adK sx))]) hx hb dX4_isWord_56 hl (k := 0) rfl (by rw [ez_17]; rfl) (by decide) rfl (fun ls hl => ?_)
          refine lv_goto (tgt := 28) hx hb dX4_isWord_59 (by decide) ?_
          exact ih8 (z_17) _ _ _ (by show (6 - z_17.toInt).toNat < (6 - x8_2.toInt).toNat; omega) ⟨(by show 0 ≤ z_17.toInt; omega), (by show z_17.toInt ≤ 6; omega), rfl, rfl, lv_sub hl [0, 1, 2] rfl⟩
        · skip
          have tc_16 : ¬ r_14.toInt = r_15.toInt := fun h => c_16 ((fa_eq _ _).mpr h)
          refine lv_iconst (v := 0) hx hb dX4_isWord_54 (by decide) ?_
          exact ret_z (ty := .boolean) hx hb hr rfl hlocks ⟨rfl, _, rfl, (Or.inr rfl)⟩ (fun _ h => absurd h List.not_mem_nil) (Nat.le_refl _) (Nat.le_refl _) dX4_isWord_55
    · skip
      have tc_7 : ¬ r_3.toInt = z_6.toInt := fun h => c_7 ((fa_eq _ _).mpr h)
      refine lv_iconst (v := 0) hx hb dX4_isWord_24 (by decide) ?_
      exact ret_z (ty := .boolean) hx hb hr rfl hlocks ⟨rfl, _, rfl, (Or.inr rfl)⟩ (fun _ h => absurd h List.not_mem_nil) (Nat.le_refl _) (Nat.le_refl _) dX4_isWord_25
set_option maxHeartbeats 4000000 in
set_option maxRecDepth 100000 in
theorem t_X4_takeWord (l : Launch) (D : va_G) (cy : Nat → ClassId) (base : Nat) (τ : Nat → Nat) (G : Gh) (adK adV : Nat → Nat) (sx : Nat) (hi_sx : sx < 20) (a : Nat) (h_a : τ a = 2) : MS l yX4_takeWord cX4_takeWord 2 none 5 0 0 D cy adK adV base [.ref a, .ref (adK sx)] (PT D cy base τ G) (QT D cy base τ G [2] (fun v g => v = none ∧ (True))) (RA base) := by
  refine MS.of (by decide) (Nat.le_of_ble_eq_true rfl) ?_
  intro p e s m below meth c C hPT hSS ls hl
  obtain ⟨hx, hb, hr, hml, hown, hts, hlocks, hK, hnm⟩ := C
  obtain ⟨hZ, hT⟩ := hPT
  have hS : va_S (RA base) s.heap s.heap [] := va_S.rf
  have hF : Fr τ [2] G G := Fr.rf
  have hl : lv_has ls 2 [(0, .ref a), (1, .ref (adK sx))] := hl
  refine lv_aload_n hx hb dX4_takeWord_0 rfl (lv_at hl 0 rfl) ?_
  refine lv_aload_n hx hb dX4_takeWord_1 rfl (lv_at hl 1 rfl) ?_
  refine pu_calli (runVs (As := [.ref (adK sx)]) (rest := []) ⟨hx, hb, hml, hown, hts⟩ (t_X4_isWord l D cy base τ G adK adV sx hi_sx a h_a) sV_X4_47 hK hSS hS (t_recv cf_2 hK hT h_a) ⟨Nat.le_trans hZ hS.1, hT⟩ ⟨Nat.le_of_ble_eq_true rfl, Nat.le_of_ble_eq_true rfl⟩ rfl hl.1 rfl (Nat.le_of_ble_eq_true rfl) dX4_takeWord_2 ⟨Nat.le_of_ble_eq_true rfl, Nat.le_of_ble_eq_true rfl⟩) (fun r_1 hr_1 => ?_)
  have hr_1_c := hr_1
  rcases hr_1_c with hr_1_0 | hr_1_1
  · skip
    have er_1 := hr_1_0
    subst er_1
    refine W.eq (g2 := F0 m 5 ls [.int 1]) rfl ?_
    refine lv_if_eq (tgt := 15) hx hb dX4_takeWord_5 (by decide) (fun c_2 => absurd c_2 (by decide)) (fun _ => ?_)
    refine lv_aload_n hx hb dX4_takeWord_8 rfl (lv_at hl 0 rfl) ?_
    obtain ⟨z_3, ez_3⟩ : ∃ y : Int32, y = G.1 a 0 := ⟨_, rfl⟩
    obtain ⟨z_4, ez_4⟩ : ∃ y : Int32, y = G.1 a 3 := ⟨_, rfl⟩
    have rz_4 : 0 ≤ z_4.toInt ∧ z_4.toInt ≤ 1600 := by rw [ez_4]; exact hT.rgi h_a (by decide) 3
    refine t_callv (runV (As := []) (rest := []) ⟨hx, hb, hml, hown, hts⟩ (t_X4_step l D cy base τ G a h_a z_3 ez_3 z_4 ez_4) sV_X4_105 hK (t_recv cf_2 hK hT h_a) ⟨Nat.le_trans hZ hS.1, hT⟩ ⟨Nat.le_of_ble_eq_true rfl, Nat.le_of_ble_eq_true rfl⟩ rfl hl.1 rfl (Nat.le_of_ble_eq_true rfl) dX4_takeWord_9 ⟨Nat.le_of_ble_eq_true rfl, Nat.le_of_ble_eq_true rfl⟩) hS (fun G_5 H locs hF_5 hr_5 hT hS => ?_)
    have hF := hF.tr hF_5 rfl
    have hr_5_s0 := hr_5
    have k_8 : z_3 = G_5.1 a 0 := ez_3.trans hr_5_s0.symm
    refine lv_goto (tgt := 20) hx hb dX4_takeWord_12 (by decide) ?_
    exact ret_v hx hb hr hlocks ⟨⟨hS.1, hS.2.1⟩, G_5, hF, ⟨rfl, trivial⟩, hT⟩ hS.2.2 (Nat.le_of_ble_eq_true rfl) (Nat.le_of_ble_eq_true rfl) dX4_takeWord_20
  · skip
    have er_1 := hr_1_1
    subst er_1
    refine W.eq (g2 := F0 m 5 ls [.int 0]) rfl ?_
    refine lv_if_eq (tgt := 15) hx hb dX4_takeWord_5 (by decide) (fun _ => ?_) (fun c_9 => absurd (by decide) c_9)
    refine lv_aload_n hx hb dX4_takeWord_15 rfl (lv_at hl 0 rfl) ?_
    refine lv_iconst (v := 1) hx hb dX4_takeWord_16 (by decide) ?_
    obtain ⟨z_10, ez_10⟩ : ∃ y : Int32, y = G.1 a 0 := ⟨_, rfl⟩
    refine t_callv (runV (As := [.int 1]) (rest := []) ⟨hx, hb, hml, hown, hts⟩ (t_X4_refuse l D cy base τ G a h_a 1 (by decide) z_10 ez_10) sV_X4_79 hK (t_recv cf_2 hK hT h_a) ⟨Nat.le_trans hZ hS.1, hT⟩ ⟨Nat.le_of_ble_eq_true rfl, Nat.le_of_ble_eq_true rfl⟩ rfl hl.1 rfl (Nat.le_of_ble_eq_true rfl) dX4_takeWord_17 ⟨Nat.le_of_ble_eq_true rfl, Nat.le_of_ble_eq_true rfl⟩) hS (fun G_11 H locs hF_11 hr_11 hT hS => ?_)
    have hF := hF.tr hF_11 rfl
    have hr_11_p0 := hr_11
    obtain ⟨z_13, ez_13, hr_11_p0⟩ : ∃ z_13 : Int32, z_13 = G_11.1 a 0 ∧ (z_13.toInt ≠ 0) := ⟨_, rfl, hr_11_p0⟩
    exact ret_v hx hb hr hlocks ⟨⟨hS.1, hS.2.1⟩, G_11, hF, ⟨rfl, trivial⟩, hT⟩ hS.2.2 (Nat.le_of_ble_eq_true rfl) (Nat.le_of_ble_eq_true rfl) dX4_takeWord_20
set_option maxHeartbeats 4000000 in
set_option maxRecDepth 100000 in
theorem t_X4_takeNamed (l : Launch) (D : va_G) (cy : Nat → ClassId) (base : Nat) (τ : Nat → Nat) (G : Gh) (adK adV : Nat → Nat) (sx : Nat) (hi_sx : sx < 20) (a : Nat) (h_a : τ a = 2) (lo : Int32) (hi : Int32) : MS l yX4_takeNamed cX4_takeNamed 4 (some .int) 6 0 0 D cy adK adV base [.ref a, .ref (adK sx), .int lo, .int hi] (PT D cy base τ G) (QT D cy base τ G [2] (fun v g => ∃ r : Int32, v = some (.int r) ∧ ((r.toInt = lo.toInt ∨ (lo.toInt ≤ r.toInt ∧ r.toInt ≤ hi.toInt))))) (RA base) := by
  refine MS.of (by decide) (Nat.le_of_ble_eq_true rfl) ?_
  intro p e s m below meth c C hPT hSS ls hl
  obtain ⟨hx, hb, hr, hml, hown, hts, hlocks, hK, hnm⟩ := C
  obtain ⟨hZ, hT⟩ := hPT
  have hS : va_S (RA base) s.heap s.heap [] := va_S.rf
  have hF : Fr τ [2] G G := Fr.rf
  have hl : lv_has ls 4 [(0, .ref a), (1, .ref (adK sx)), (2, .int lo), (3, .int hi)] := hl
  refine lv_aload_n hx hb dX4_takeNamed_0 rfl (lv_at hl 0 rfl) ?_
  refine lv_aload_n hx hb dX4_takeNamed_1 rfl (lv_at hl 1 rfl) ?_
  refine t_callv (runVs (As := [.ref (adK sx)]) (rest := []) ⟨hx, hb, hml, hown, hts⟩ (t_X4_takeWord l D cy base τ G adK adV sx hi_sx a h_a) sV_X4_110 hK hSS hS (t_recv cf_2 hK hT h_a) ⟨Nat.le_trans hZ hS.1, hT⟩ ⟨Nat.le_of_ble_eq_true rfl, Nat.le_of_ble_eq_true rfl⟩ rfl hl.1 rfl (Nat.le_of_ble_eq_true rfl) dX4_takeNamed_2 ⟨Nat.le_of_ble_eq_true rfl, Nat.le_of_ble_eq_true rfl⟩) hS (fun G_1 H locs hF_1 hr_1 hT hS => ?_)
  have hF := hF.tr hF_1 rfl
  refine lv_aload_n hx hb dX4_takeNamed_5 rfl (lv_at hl 0 rfl) ?_
  refine lv_iload_n hx hb dX4_takeNamed_6 rfl (lv_at hl 2 rfl) ?_
  refine lv_iload_n hx hb dX4_takeNamed_7 rfl (lv_at hl 3 rfl) ?_
  refine t_calli (runV (As := [.int lo, .int hi]) (rest := []) ⟨hx, hb, hml, hown, hts⟩ (t_X4_takeNumber l D cy base τ G_1 a h_a lo hi) sV_X4_168 hK (t_recv cf_2 hK hT h_a) ⟨Nat.le_trans hZ hS.1, hT⟩ ⟨Nat.le_of_ble_eq_true rfl, Nat.le_of_ble_eq_true rfl⟩ rfl hl.1 rfl (Nat.le_of_ble_eq_true rfl) dX4_takeNamed_8 ⟨Nat.le_of_ble_eq_true rfl, Nat.le_of_ble_eq_true rfl⟩) hS (fun r_2 G_2 H locs hF_2 hr_2 hT hS => ?_)
  have hF := hF.tr hF_2 rfl
  have hr_2_p0 := hr_2
  have hr_2_p0 : r_2.toInt = lo.toInt ∨ (lo.toInt ≤ r_2.toInt ∧ r_2.toInt ≤ hi.toInt) := hr_2_p0
  exact ret_i hx hb hr hlocks ⟨⟨hS.1, hS.2.1⟩, G_2, hF, ⟨_, rfl, (by show r_2.toInt = lo.toInt ∨ (lo.toInt ≤ r_2.toInt ∧ r_2.toInt ≤ hi.toInt); first | omega | assumption)⟩, hT⟩ hS.2.2 (Nat.le_of_ble_eq_true rfl) (Nat.le_of_ble_eq_true rfl) dX4_takeNamed_11
