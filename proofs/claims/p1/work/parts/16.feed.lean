theorem dX9_tapeFour_0 : decode cX9_tapeFour 0 = .ok (.bipush 24, 2) := by decide +kernel
theorem dX9_tapeFour_2 : decode cX9_tapeFour 2 = .ok (.istore_n 2, 1) := by decide +kernel
theorem dX9_tapeFour_3 : decode cX9_tapeFour 3 = .ok (.iload_n 2, 1) := by decide +kernel
theorem dX9_tapeFour_4 : decode cX9_tapeFour 4 = .ok (.ifCond .lt 42, 3) := by decide +kernel
theorem dX9_tapeFour_7 : decode cX9_tapeFour 7 = .ok (.aload_n 0, 1) := by decide +kernel
theorem dX9_tapeFour_8 : decode cX9_tapeFour 8 = .ok (.getfield 75, 3) := by decide +kernel
theorem dX9_tapeFour_11 : decode cX9_tapeFour 11 = .ok (.sipush 1600, 3) := by decide +kernel
theorem dX9_tapeFour_14 : decode cX9_tapeFour 14 = .ok (.if_icmp .ge 26, 3) := by decide +kernel
theorem dX9_tapeFour_17 : decode cX9_tapeFour 17 = .ok (.aload_n 0, 1) := by decide +kernel
theorem dX9_tapeFour_18 : decode cX9_tapeFour 18 = .ok (.getfield 9, 3) := by decide +kernel
theorem dX9_tapeFour_21 : decode cX9_tapeFour 21 = .ok (.aload_n 0, 1) := by decide +kernel
theorem dX9_tapeFour_22 : decode cX9_tapeFour 22 = .ok (.getfield 75, 3) := by decide +kernel
theorem dX9_tapeFour_25 : decode cX9_tapeFour 25 = .ok (.iload_n 1, 1) := by decide +kernel
theorem dX9_tapeFour_26 : decode cX9_tapeFour 26 = .ok (.iload_n 2, 1) := by decide +kernel
theorem dX9_tapeFour_27 : decode cX9_tapeFour 27 = .ok (.ishr, 1) := by decide +kernel
theorem dX9_tapeFour_28 : decode cX9_tapeFour 28 = .ok (.i2b, 1) := by decide +kernel
theorem dX9_tapeFour_29 : decode cX9_tapeFour 29 = .ok (.bastore, 1) := by decide +kernel
theorem dX9_tapeFour_30 : decode cX9_tapeFour 30 = .ok (.aload_n 0, 1) := by decide +kernel
theorem dX9_tapeFour_31 : decode cX9_tapeFour 31 = .ok (.dup, 1) := by decide +kernel
theorem dX9_tapeFour_32 : decode cX9_tapeFour 32 = .ok (.getfield 75, 3) := by decide +kernel
theorem dX9_tapeFour_35 : decode cX9_tapeFour 35 = .ok (.iconst 1, 1) := by decide +kernel
theorem dX9_tapeFour_36 : decode cX9_tapeFour 36 = .ok (.iadd, 1) := by decide +kernel
theorem dX9_tapeFour_37 : decode cX9_tapeFour 37 = .ok (.putfield 75, 3) := by decide +kernel
theorem dX9_tapeFour_40 : decode cX9_tapeFour 40 = .ok (.iinc 2 (-8), 3) := by decide +kernel
theorem dX9_tapeFour_43 : decode cX9_tapeFour 43 = .ok (.goto (-40), 3) := by decide +kernel
theorem dX9_tapeFour_46 : decode cX9_tapeFour 46 = .ok (.return_, 1) := by decide +kernel
theorem dX10_four_0 : decode cX10_four 0 = .ok (.bipush 24, 2) := by decide +kernel
theorem dX10_four_2 : decode cX10_four 2 = .ok (.istore_n 2, 1) := by decide +kernel
theorem dX10_four_3 : decode cX10_four 3 = .ok (.iload_n 2, 1) := by decide +kernel
theorem dX10_four_4 : decode cX10_four 4 = .ok (.ifCond .lt 32, 3) := by decide +kernel
theorem dX10_four_7 : decode cX10_four 7 = .ok (.aload_n 0, 1) := by decide +kernel
theorem dX10_four_8 : decode cX10_four 8 = .ok (.getfield 23, 3) := by decide +kernel
theorem dX10_four_11 : decode cX10_four 11 = .ok (.aload_n 0, 1) := by decide +kernel
theorem dX10_four_12 : decode cX10_four 12 = .ok (.getfield 128, 3) := by decide +kernel
theorem dX10_four_15 : decode cX10_four 15 = .ok (.iload_n 1, 1) := by decide +kernel
theorem dX10_four_16 : decode cX10_four 16 = .ok (.iload_n 2, 1) := by decide +kernel
theorem dX10_four_17 : decode cX10_four 17 = .ok (.ishr, 1) := by decide +kernel
theorem dX10_four_18 : decode cX10_four 18 = .ok (.i2b, 1) := by decide +kernel
theorem dX10_four_19 : decode cX10_four 19 = .ok (.bastore, 1) := by decide +kernel
theorem dX10_four_20 : decode cX10_four 20 = .ok (.aload_n 0, 1) := by decide +kernel
theorem dX10_four_21 : decode cX10_four 21 = .ok (.dup, 1) := by decide +kernel
theorem dX10_four_22 : decode cX10_four 22 = .ok (.getfield 128, 3) := by decide +kernel
theorem dX10_four_25 : decode cX10_four 25 = .ok (.iconst 1, 1) := by decide +kernel
theorem dX10_four_26 : decode cX10_four 26 = .ok (.iadd, 1) := by decide +kernel
theorem dX10_four_27 : decode cX10_four 27 = .ok (.putfield 128, 3) := by decide +kernel
theorem dX10_four_30 : decode cX10_four 30 = .ok (.iinc 2 (-8), 3) := by decide +kernel
theorem dX10_four_33 : decode cX10_four 33 = .ok (.goto (-30), 3) := by decide +kernel
theorem dX10_four_36 : decode cX10_four 36 = .ok (.return_, 1) := by decide +kernel
theorem dX9_feed_0 : decode cX9_feed 0 = .ok (.aload_n 0, 1) := by decide +kernel
theorem dX9_feed_1 : decode cX9_feed 1 = .ok (.getfield 75, 3) := by decide +kernel
theorem dX9_feed_4 : decode cX9_feed 4 = .ok (.bipush 20, 2) := by decide +kernel
theorem dX9_feed_6 : decode cX9_feed 6 = .ok (.iadd, 1) := by decide +kernel
theorem dX9_feed_7 : decode cX9_feed 7 = .ok (.sipush 1600, 3) := by decide +kernel
theorem dX9_feed_10 : decode cX9_feed 10 = .ok (.if_icmp .le 5, 3) := by decide +kernel
theorem dX9_feed_15 : decode cX9_feed 15 = .ok (.aload_n 0, 1) := by decide +kernel
theorem dX9_feed_16 : decode cX9_feed 16 = .ok (.iload_n 1, 1) := by decide +kernel
theorem dX9_feed_17 : decode cX9_feed 17 = .ok (.invokevirtual 78, 3) := by decide +kernel
theorem dX9_feed_20 : decode cX9_feed 20 = .ok (.aload_n 0, 1) := by decide +kernel
theorem dX9_feed_21 : decode cX9_feed 21 = .ok (.iload_n 2, 1) := by decide +kernel
theorem dX9_feed_22 : decode cX9_feed 22 = .ok (.invokevirtual 78, 3) := by decide +kernel
theorem dX9_feed_25 : decode cX9_feed 25 = .ok (.aload_n 0, 1) := by decide +kernel
theorem dX9_feed_26 : decode cX9_feed 26 = .ok (.iload_n 3, 1) := by decide +kernel
theorem dX9_feed_27 : decode cX9_feed 27 = .ok (.invokevirtual 78, 3) := by decide +kernel
theorem dX9_feed_30 : decode cX9_feed 30 = .ok (.aload_n 0, 1) := by decide +kernel
theorem dX9_feed_31 : decode cX9_feed 31 = .ok (.iload 4, 2) := by decide +kernel
theorem dX9_feed_33 : decode cX9_feed 33 = .ok (.invokevirtual 78, 3) := by decide +kernel
theorem dX9_feed_36 : decode cX9_feed 36 = .ok (.aload_n 0, 1) := by decide +kernel
theorem dX9_feed_37 : decode cX9_feed 37 = .ok (.iload 5, 2) := by decide +kernel
theorem dX9_feed_39 : decode cX9_feed 39 = .ok (.invokevirtual 78, 3) := by decide +kernel
theorem dX9_feed_42 : decode cX9_feed 42 = .ok (.aload_n 0, 1) := by decide +kernel
theorem dX9_feed_43 : decode cX9_feed 43 = .ok (.getfield 75, 3) := by decide +kernel
theorem dX9_feed_46 : decode cX9_feed 46 = .ok (.ireturn, 1) := by decide +kernel
theorem dX10_feed_0 : decode cX10_feed 0 = .ok (.aload_n 0, 1) := by decide +kernel
theorem dX10_feed_1 : decode cX10_feed 1 = .ok (.iconst 0, 1) := by decide +kernel
theorem dX10_feed_2 : decode cX10_feed 2 = .ok (.putfield 111, 3) := by decide +kernel
theorem dX10_feed_5 : decode cX10_feed 5 = .ok (.aload_n 0, 1) := by decide +kernel
theorem dX10_feed_6 : decode cX10_feed 6 = .ok (.getfield 128, 3) := by decide +kernel
theorem dX10_feed_9 : decode cX10_feed 9 = .ok (.bipush 20, 2) := by decide +kernel
theorem dX10_feed_11 : decode cX10_feed 11 = .ok (.iadd, 1) := by decide +kernel
theorem dX10_feed_12 : decode cX10_feed 12 = .ok (.sipush 1600, 3) := by decide +kernel
theorem dX10_feed_15 : decode cX10_feed 15 = .ok (.if_icmp .le 5, 3) := by decide +kernel
theorem dX10_feed_20 : decode cX10_feed 20 = .ok (.aload_n 0, 1) := by decide +kernel
theorem dX10_feed_21 : decode cX10_feed 21 = .ok (.iload_n 1, 1) := by decide +kernel
theorem dX10_feed_22 : decode cX10_feed 22 = .ok (.invokevirtual 131, 3) := by decide +kernel
theorem dX10_feed_25 : decode cX10_feed 25 = .ok (.aload_n 0, 1) := by decide +kernel
theorem dX10_feed_26 : decode cX10_feed 26 = .ok (.iload_n 2, 1) := by decide +kernel
theorem dX10_feed_27 : decode cX10_feed 27 = .ok (.invokevirtual 131, 3) := by decide +kernel
theorem dX10_feed_30 : decode cX10_feed 30 = .ok (.aload_n 0, 1) := by decide +kernel
theorem dX10_feed_31 : decode cX10_feed 31 = .ok (.iload_n 3, 1) := by decide +kernel
theorem dX10_feed_32 : decode cX10_feed 32 = .ok (.invokevirtual 131, 3) := by decide +kernel
theorem dX10_feed_35 : decode cX10_feed 35 = .ok (.aload_n 0, 1) := by decide +kernel
theorem dX10_feed_36 : decode cX10_feed 36 = .ok (.iload 4, 2) := by decide +kernel
theorem dX10_feed_38 : decode cX10_feed 38 = .ok (.invokevirtual 131, 3) := by decide +kernel
theorem dX10_feed_41 : decode cX10_feed 41 = .ok (.aload_n 0, 1) := by decide +kernel
theorem dX10_feed_42 : decode cX10_feed 42 = .ok (.iload 5, 2) := by decide +kernel
theorem dX10_feed_44 : decode cX10_feed 44 = .ok (.invokevirtual 131, 3) := by decide +kernel
theorem dX10_feed_47 : decode cX10_feed 47 = .ok (.aload_n 0, 1) := by decide +kernel
theorem dX10_feed_48 : decode cX10_feed 48 = .ok (.getfield 128, 3) := by decide +kernel
theorem dX10_feed_51 : decode cX10_feed 51 = .ok (.ireturn, 1) := by decide +kernel
theorem sV_X9_78 : SiteV RX9 78 yX9_tapeFour cX9_tapeFour 3 none 1 := ⟨ml_X9_78, im_X9_tapeFour, se_X9_tapeFour, ini_X9, co_X9_tapeFour, by decide +kernel⟩
theorem sV_X10_131 : SiteV RX10 131 yX10_four cX10_four 3 none 1 := ⟨ml_X10_131, im_X10_four, se_X10_four, ini_X10, co_X10_four, by decide +kernel⟩
set_option maxHeartbeats 4000000 in
set_option maxRecDepth 100000 in
theorem tape4_0 (l : Launch) (D : va_G) (cy : Nat → ClassId) (xa : Nat → Nat) (f : Nat → Int32) (n0 : Int32) (sz : Nat) : MM l yX9_tapeFour cX9_tapeFour 3 none 0 0 0 D cy [.ref (xa 0), .int n0] (PW D [((xa 0), .inr (9, [.ref (xa 1), .ref (xa 2), .ref (xa 3), .ref (xa 4), .ref (xa 5), .ref (xa 6), .ref (xa 7), .ref (xa 8), .ref (xa 9), .int 0, .ref (xa 11), .null, .int 0, .int (-1)])), ((xa 1), .inl (cy 0, 1600, .inl f))] sz) (QW D (va_A [((xa 0), .inr (9, [.ref (xa 1), .ref (xa 2), .ref (xa 3), .ref (xa 4), .ref (xa 5), .ref (xa 6), .ref (xa 7), .ref (xa 8), .ref (xa 9), .int 0, .ref (xa 11), .null, .int 0, .int (-1)])), ((xa 1), .inl (cy 0, 1600, .inl f))] sz) (S := (Nat → Nat) × (Nat → Nat → Int32) × (Nat → Nat → Int64) × (Nat → Int32)) (fun v u => v = none) (fun u => [((xa 0), .inr (9, [.ref (xa 1), .ref (xa 2), .ref (xa 3), .ref (xa 4), .ref (xa 5), .ref (xa 6), .ref (xa 7), .ref (xa 8), .ref (xa 9), .int 4, .ref (xa 11), .null, .int 0, .int (-1)])), ((xa 1), .inl (cy 0, 1600, .inl (u.2.1 0)))])) (va_A [((xa 0), .inr (9, [.ref (xa 1), .ref (xa 2), .ref (xa 3), .ref (xa 4), .ref (xa 5), .ref (xa 6), .ref (xa 7), .ref (xa 8), .ref (xa 9), .int 0, .ref (xa 11), .null, .int 0, .int (-1)])), ((xa 1), .inl (cy 0, 1600, .inl f))] sz) := by
  refine MM.of (by decide) (Nat.le_of_ble_eq_true rfl) ?_
  intro p e s m below meth c C hPW ls hl
  obtain ⟨hx, hb, hr, hml, hown, hts, hlocks, hK, hnm⟩ := C
  obtain ⟨rfl, hP, hD0⟩ := hPW
  have hD := hD0.self (sz := s.heap.size)
  have hA : ∀ q : Nat, s.heap.size ≤ q → (va_A [((xa 0), .inr (9, [.ref (xa 1), .ref (xa 2), .ref (xa 3), .ref (xa 4), .ref (xa 5), .ref (xa 6), .ref (xa 7), .ref (xa 8), .ref (xa 9), .int 0, .ref (xa 11), .null, .int 0, .int (-1)])), ((xa 1), .inl (cy 0, 1600, .inl f))] s.heap.size) q := fun q h => Or.inr h
  have hS : va_S (va_A [((xa 0), .inr (9, [.ref (xa 1), .ref (xa 2), .ref (xa 3), .ref (xa 4), .ref (xa 5), .ref (xa 6), .ref (xa 7), .ref (xa 8), .ref (xa 9), .int 0, .ref (xa 11), .null, .int 0, .int (-1)])), ((xa 1), .inl (cy 0, 1600, .inl f))] s.heap.size) s.heap s.heap [] := va_S.rf
  generalize va_A [((xa 0), .inr (9, [.ref (xa 1), .ref (xa 2), .ref (xa 3), .ref (xa 4), .ref (xa 5), .ref (xa 6), .ref (xa 7), .ref (xa 8), .ref (xa 9), .int 0, .ref (xa 11), .null, .int 0, .int (-1)])), ((xa 1), .inl (cy 0, 1600, .inl f))] s.heap.size = A at hD hA hS ⊢
  have hP : va_P D vwCl [((xa 0), .inr (9, [.ref (xa 1), .ref (xa 2), .ref (xa 3), .ref (xa 4), .ref (xa 5), .ref (xa 6), .ref (xa 7), .ref (xa 8), .ref (xa 9), .int 0, .ref (xa 11), .null, .int 0, .int (-1)])), ((xa 1), .inl (cy 0, 1600, .inl f))] s.heap := hP
  have hl : lv_has ls 3 [(0, .ref (xa 0)), (1, .int n0)] := hl
  refine lv_bipush (v := 24) hx hb dX9_tapeFour_0 (by decide) ?_
  refine lv_istore_n (lv' := [(2, .int 24), (0, .ref (xa 0)), (1, .int n0)]) hx hb dX9_tapeFour_2 rfl hl (by decide) rfl (fun ls hl => ?_)
  refine lv_iload_n hx hb dX9_tapeFour_3 rfl (lv_at hl 0 rfl) ?_
  refine lv_if_lt (tgt := 46) hx hb dX9_tapeFour_4 (by decide) (fun c_1 => absurd c_1 (by decide)) (fun _ => ?_)
  refine lv_aload_n hx hb dX9_tapeFour_7 rfl (lv_at hl 1 rfl) ?_
  refine va_get (D := D) (ci := 9) (v := .int 0) (C := RX9) (T := TX9) (N := 14) hx hb hts lay_X9 hown hK.1 hP 0 rfl rfl 9 (by decide) (hts _ fl_X9_75) (fun _ h9 => h9) rfl dX9_tapeFour_8 ?_
  refine lv_sipush (v := 1600) hx hb dX9_tapeFour_11 (by decide) ?_
  refine lv_icmp_ge (tgt := 40) hx hb dX9_tapeFour_14 (by decide) (fun c_2 => absurd c_2 (by decide)) (fun _ => ?_)
  refine lv_aload_n hx hb dX9_tapeFour_17 rfl (lv_at hl 1 rfl) ?_
  refine va_get (D := D) (ci := 9) (v := .ref (xa 1)) (C := RX9) (T := TX9) (N := 14) hx hb hts lay_X9 hown hK.1 hP 0 rfl rfl 0 (by decide) (hts _ fl_X9_9) (fun _ h9 => h9) rfl dX9_tapeFour_18 ?_
  refine lv_aload_n hx hb dX9_tapeFour_21 rfl (lv_at hl 1 rfl) ?_
  refine va_get (D := D) (ci := 9) (v := .int 0) (C := RX9) (T := TX9) (N := 14) hx hb hts lay_X9 hown hK.1 hP 0 rfl rfl 9 (by decide) (hts _ fl_X9_75) (fun _ h9 => h9) rfl dX9_tapeFour_22 ?_
  refine lv_iload_n hx hb dX9_tapeFour_25 rfl (lv_at hl 2 rfl) ?_
  refine lv_iload_n hx hb dX9_tapeFour_26 rfl (lv_at hl 0 rfl) ?_
  refine lv_ishr hx hb dX9_tapeFour_27 ?_
  refine lv_topi (fun z_3 ez_3 => ?_)
  refine lv_i2b hx hb dX9_tapeFour_28 rfl ?_
  refine lv_topi (fun z_4 ez_4 => ?_)
  refine va_bast hx hb hK.1 hP hD hS 1 0 rfl rfl (i := 0) (vp_in_iff.mpr (by decide)) dX9_tapeFour_29 (fun H locs hP hD hS => ?_)
  have hP : va_P D vwCl [((xa 0), .inr (9, [.ref (xa 1), .ref (xa 2), .ref (xa 3), .ref (xa 4), .ref (xa 5), .ref (xa 6), .ref (xa 7), .ref (xa 8), .ref (xa 9), .int 0, .ref (xa 11), .null, .int 0, .int (-1)])), ((xa 1), .inl (cy 0, 1600, .inl (upd f 0 (vp_nar .byte z_4))))] H := hP
  have hD : va_D A [((xa 0), .inr (9, [.ref (xa 1), .ref (xa 2), .ref (xa 3), .ref (xa 4), .ref (xa 5), .ref (xa 6), .ref (xa 7), .ref (xa 8), .ref (xa 9), .int 0, .ref (xa 11), .null, .int 0, .int (-1)])), ((xa 1), .inl (cy 0, 1600, .inl (upd f 0 (vp_nar .byte z_4))))] := hD
  generalize (upd f 0 (vp_nar .byte z_4)) = f_5 at hP hD
  refine lv_aload_n hx hb dX9_tapeFour_30 rfl (lv_at hl 1 rfl) ?_
  refine lv_dup hx hb dX9_tapeFour_31 rfl ?_
  refine va_get (D := D) (ci := 9) (v := .int 0) (C := RX9) (T := TX9) (N := 14) hx hb hts lay_X9 hown hK.1 hP 0 rfl rfl 9 (by decide) (hts _ fl_X9_75) (fun _ h9 => h9) rfl dX9_tapeFour_32 ?_
  refine lv_iconst (v := 1) hx hb dX9_tapeFour_35 (by decide) ?_
  refine lv_iadd hx hb dX9_tapeFour_36 ?_
  refine lv_topi (fun z_6 ez_6 => ?_)
  have ez_6 : z_6 = 1 := ez_6.trans (by decide)
  subst ez_6
  refine va_put (D := D) (ci := 9) (v := .int 1) (ty := tyX9 9) (C := RX9) (T := TX9) (N := 14) hx hb hts lay_X9 tyX9 tyX9_ok nmX9 hown hK.1 hP hD hS 0 rfl rfl 9 (by decide) (hts _ fl_X9_75) (fun _ h9 => h9) rfl (tyX9_ok 9 (by decide)) rfl rfl (Nat.le_of_ble_eq_true rfl) dX9_tapeFour_37 (fun H locs hP hD hS => ?_)
  have hP : va_P D vwCl [((xa 0), .inr (9, [.ref (xa 1), .ref (xa 2), .ref (xa 3), .ref (xa 4), .ref (xa 5), .ref (xa 6), .ref (xa 7), .ref (xa 8), .ref (xa 9), .int 1, .ref (xa 11), .null, .int 0, .int (-1)])), ((xa 1), .inl (cy 0, 1600, .inl f_5))] H := hP
  have hD : va_D A [((xa 0), .inr (9, [.ref (xa 1), .ref (xa 2), .ref (xa 3), .ref (xa 4), .ref (xa 5), .ref (xa 6), .ref (xa 7), .ref (xa 8), .ref (xa 9), .int 1, .ref (xa 11), .null, .int 0, .int (-1)])), ((xa 1), .inl (cy 0, 1600, .inl f_5))] := hD
  refine lv_iinc (v := 16) (lv' := [(2, .int 16), (0, .ref (xa 0)), (1, .int n0)]) hx hb dX9_tapeFour_40 hl (k := 0) rfl (by decide) (by decide) rfl (fun ls hl => ?_)
  refine lv_goto (tgt := 3) hx hb dX9_tapeFour_43 (by decide) ?_
  refine lv_iload_n hx hb dX9_tapeFour_3 rfl (lv_at hl 0 rfl) ?_
  refine lv_if_lt (tgt := 46) hx hb dX9_tapeFour_4 (by decide) (fun c_8 => absurd c_8 (by decide)) (fun _ => ?_)
  refine lv_aload_n hx hb dX9_tapeFour_7 rfl (lv_at hl 1 rfl) ?_
  refine va_get (D := D) (ci := 9) (v := .int 1) (C := RX9) (T := TX9) (N := 14) hx hb hts lay_X9 hown hK.1 hP 0 rfl rfl 9 (by decide) (hts _ fl_X9_75) (fun _ h9 => h9) rfl dX9_tapeFour_8 ?_
  refine lv_sipush (v := 1600) hx hb dX9_tapeFour_11 (by decide) ?_
  refine lv_icmp_ge (tgt := 40) hx hb dX9_tapeFour_14 (by decide) (fun c_9 => absurd c_9 (by decide)) (fun _ => ?_)
  refine lv_aload_n hx hb dX9_tapeFour_17 rfl (lv_at hl 1 rfl) ?_
  refine va_get (D := D) (ci := 9) (v := .ref (xa 1)) (C := RX9) (T := TX9) (N := 14) hx hb hts lay_X9 hown hK.1 hP 0 rfl rfl 0 (by decide) (hts _ fl_X9_9) (fun _ h9 => h9) rfl dX9_tapeFour_18 ?_
  refine lv_aload_n hx hb dX9_tapeFour_21 rfl (lv_at hl 1 rfl) ?_
  refine va_get (D := D) (ci := 9) (v := .int 1) (C := RX9) (T := TX9) (N := 14) hx hb hts lay_X9 hown hK.1 hP 0 rfl rfl 9 (by decide) (hts _ fl_X9_75) (fun _ h9 => h9) rfl dX9_tapeFour_22 ?_
  refine lv_iload_n hx hb dX9_tapeFour_25 rfl (lv_at hl 2 rfl) ?_
  refine lv_iload_n hx hb dX9_tapeFour_26 rfl (lv_at hl 0 rfl) ?_
  refine lv_ishr hx hb dX9_tapeFour_27 ?_
  refine lv_topi (fun z_10 ez_10 => ?_)
  refine lv_i2b hx hb dX9_tapeFour_28 rfl ?_
  refine lv_topi (fun z_11 ez_11 => ?_)
  refine va_bast hx hb hK.1 hP hD hS 1 0 rfl rfl (i := 1) (vp_in_iff.mpr (by decide)) dX9_tapeFour_29 (fun H locs hP hD hS => ?_)
  have hP : va_P D vwCl [((xa 0), .inr (9, [.ref (xa 1), .ref (xa 2), .ref (xa 3), .ref (xa 4), .ref (xa 5), .ref (xa 6), .ref (xa 7), .ref (xa 8), .ref (xa 9), .int 1, .ref (xa 11), .null, .int 0, .int (-1)])), ((xa 1), .inl (cy 0, 1600, .inl (upd f_5 1 (vp_nar .byte z_11))))] H := hP
  have hD : va_D A [((xa 0), .inr (9, [.ref (xa 1), .ref (xa 2), .ref (xa 3), .ref (xa 4), .ref (xa 5), .ref (xa 6), .ref (xa 7), .ref (xa 8), .ref (xa 9), .int 1, .ref (xa 11), .null, .int 0, .int (-1)])), ((xa 1), .inl (cy 0, 1600, .inl (upd f_5 1 (vp_nar .byte z_11))))] := hD
  generalize (upd f_5 1 (vp_nar .byte z_11)) = f_12 at hP hD
  refine lv_aload_n hx hb dX9_tapeFour_30 rfl (lv_at hl 1 rfl) ?_
  refine lv_dup hx hb dX9_tapeFour_31 rfl ?_
  refine va_get (D := D) (ci := 9) (v := .int 1) (C := RX9) (T := TX9) (N := 14) hx hb hts lay_X9 hown hK.1 hP 0 rfl rfl 9 (by decide) (hts _ fl_X9_75) (fun _ h9 => h9) rfl dX9_tapeFour_32 ?_
  refine lv_iconst (v := 1) hx hb dX9_tapeFour_35 (by decide) ?_
  refine lv_iadd hx hb dX9_tapeFour_36 ?_
  refine lv_topi (fun z_13 ez_13 => ?_)
  have ez_13 : z_13 = 2 := ez_13.trans (by decide)
  subst ez_13
  refine va_put (D := D) (ci := 9) (v := .int 2) (ty := tyX9 9) (C := RX9) (T := TX9) (N := 14) hx hb hts lay_X9 tyX9 tyX9_ok nmX9 hown hK.1 hP hD hS 0 rfl rfl 9 (by decide) (hts _ fl_X9_75) (fun _ h9 => h9) rfl (tyX9_ok 9 (by decide)) rfl rfl (Nat.le_of_ble_eq_true rfl) dX9_tapeFour_37 (fun H locs hP hD hS => ?_)
  have hP : va_P D vwCl [((xa 0), .inr (9, [.ref (xa 1), .ref (xa 2), .ref (xa 3), .ref (xa 4), .ref (xa 5), .ref (xa 6), .ref (xa 7), .ref (xa 8), .ref (xa 9), .int 2, .ref (xa 11), .null, .int 0, .int (-1)])), ((xa 1), .inl (cy 0, 1600, .inl f_12))] H := hP
  have hD : va_D A [((xa 0), .inr (9, [.ref (xa 1), .ref (xa 2), .ref (xa 3), .ref (xa 4), .ref (xa 5), .ref (xa 6), .ref (xa 7), .ref (xa 8), .ref (xa 9), .int 2, .ref (xa 11), .null, .int 0, .int (-1)])), ((xa 1), .inl (cy 0, 1600, .inl f_12))] := hD
  refine lv_iinc (v := 8) (lv' := [(2, .int 8), (0, .ref (xa 0)), (1, .int n0)]) hx hb dX9_tapeFour_40 hl (k := 0) rfl (by decide) (by decide) rfl (fun ls hl => ?_)
  refine lv_goto (tgt := 3) hx hb dX9_tapeFour_43 (by decide) ?_
  refine lv_iload_n hx hb dX9_tapeFour_3 rfl (lv_at hl 0 rfl) ?_
  refine lv_if_lt (tgt := 46) hx hb dX9_tapeFour_4 (by decide) (fun c_15 => absurd c_15 (by decide)) (fun _ => ?_)
  refine lv_aload_n hx hb dX9_tapeFour_7 rfl (lv_at hl 1 rfl) ?_
  refine va_get (D := D) (ci := 9) (v := .int 2) (C := RX9) (T := TX9) (N := 14) hx hb hts lay_X9 hown hK.1 hP 0 rfl rfl 9 (by decide) (hts _ fl_X9_75) (fun _ h9 => h9) rfl dX9_tapeFour_8 ?_
  refine lv_sipush (v := 1600) hx hb dX9_tapeFour_11 (by decide) ?_
  refine lv_icmp_ge (tgt := 40) hx hb dX9_tapeFour_14 (by decide) (fun c_16 => absurd c_16 (by decide)) (fun _ => ?_)
  refine lv_aload_n hx hb dX9_tapeFour_17 rfl (lv_at hl 1 rfl) ?_
  refine va_get (D := D) (ci := 9) (v := .ref (xa 1)) (C := RX9) (T := TX9) (N := 14) hx hb hts lay_X9 hown hK.1 hP 0 rfl rfl 0 (by decide) (hts _ fl_X9_9) (fun _ h9 => h9) rfl dX9_tapeFour_18 ?_
  refine lv_aload_n hx hb dX9_tapeFour_21 rfl (lv_at hl 1 rfl) ?_
  refine va_get (D := D) (ci := 9) (v := .int 2) (C := RX9) (T := TX9) (N := 14) hx hb hts lay_X9 hown hK.1 hP 0 rfl rfl 9 (by decide) (hts _ fl_X9_75) (fun _ h9 => h9) rfl dX9_tapeFour_22 ?_
  refine lv_iload_n hx hb dX9_tapeFour_25 rfl (lv_at hl 2 rfl) ?_
  refine lv_iload_n hx hb dX9_tapeFour_26 rfl (lv_at hl 0 rfl) ?_
  refine lv_ishr hx hb dX9_tapeFour_27 ?_
  refine lv_topi (fun z_17 ez_17 => ?_)
  refine lv_i2b hx hb dX9_tapeFour_28 rfl ?_
  refine lv_topi (fun z_18 ez_18 => ?_)
  refine va_bast hx hb hK.1 hP hD hS 1 0 rfl rfl (i := 2) (vp_in_iff.mpr (by decide)) dX9_tapeFour_29 (fun H locs hP hD hS => ?_)
  have hP : va_P D vwCl [((xa 0), .inr (9, [.ref (xa 1), .ref (xa 2), .ref (xa 3), .ref (xa 4), .ref (xa 5), .ref (xa 6), .ref (xa 7), .ref (xa 8), .ref (xa 9), .int 2, .ref (xa 11), .null, .int 0, .int (-1)])), ((xa 1), .inl (cy 0, 1600, .inl (upd f_12 2 (vp_nar .byte z_18))))] H := hP
  have hD : va_D A [((xa 0), .inr (9, [.ref (xa 1), .ref (xa 2), .ref (xa 3), .ref (xa 4), .ref (xa 5), .ref (xa 6), .ref (xa 7), .ref (xa 8), .ref (xa 9), .int 2, .ref (xa 11), .null, .int 0, .int (-1)])), ((xa 1), .inl (cy 0, 1600, .inl (upd f_12 2 (vp_nar .byte z_18))))] := hD
  generalize (upd f_12 2 (vp_nar .byte z_18)) = f_19 at hP hD
  refine lv_aload_n hx hb dX9_tapeFour_30 rfl (lv_at hl 1 rfl) ?_
  refine lv_dup hx hb dX9_tapeFour_31 rfl ?_
  refine va_get (D := D) (ci := 9) (v := .int 2) (C := RX9) (T := TX9) (N := 14) hx hb hts lay_X9 hown hK.1 hP 0 rfl rfl 9 (by decide) (hts _ fl_X9_75) (fun _ h9 => h9) rfl dX9_tapeFour_32 ?_
  refine lv_iconst (v := 1) hx hb dX9_tapeFour_35 (by decide) ?_
  refine lv_iadd hx hb dX9_tapeFour_36 ?_
  refine lv_topi (fun z_20 ez_20 => ?_)
  have ez_20 : z_20 = 3 := ez_20.trans (by decide)
  subst ez_20
  refine va_put (D := D) (ci := 9) (v := .int 3) (ty := tyX9 9) (C := RX9) (T := TX9) (N := 14) hx hb hts lay_X9 tyX9 tyX9_ok nmX9 hown hK.1 hP hD hS 0 rfl rfl 9 (by decide) (hts _ fl_X9_75) (fun _ h9 => h9) rfl (tyX9_ok 9 (by decide)) rfl rfl (Nat.le_of_ble_eq_true rfl) dX9_tapeFour_37 (fun H locs hP hD hS => ?_)
  have hP : va_P D vwCl [((xa 0), .inr (9, [.ref (xa 1), .ref (xa 2), .ref (xa 3), .ref (xa 4), .ref (xa 5), .ref (xa 6), .ref (xa 7), .ref (xa 8), .ref (xa 9), .int 3, .ref (xa 11), .null, .int 0, .int (-1)])), ((xa 1), .inl (cy 0, 1600, .inl f_19))] H := hP
  have hD : va_D A [((xa 0), .inr (9, [.ref (xa 1), .ref (xa 2), .ref (xa 3), .ref (xa 4), .ref (xa 5), .ref (xa 6), .ref (xa 7), .ref (xa 8), .ref (xa 9), .int 3, .ref (xa 11), .null, .int 0, .int (-1)])), ((xa 1), .inl (cy 0, 1600, .inl f_19))] := hD
  refine lv_iinc (v := 0) (lv' := [(2, .int 0), (0, .ref (xa 0)), (1, .int n0)]) hx hb dX9_tapeFour_40 hl (k := 0) rfl (by decide) (by decide) rfl (fun ls hl => ?_)
  refine lv_goto (tgt := 3) hx hb dX9_tapeFour_43 (by decide) ?_
  refine lv_iload_n hx hb dX9_tapeFour_3 rfl (lv_at hl 0 rfl) ?_
  refine lv_if_lt (tgt := 46) hx hb dX9_tapeFour_4 (by decide) (fun c_22 => absurd c_22 (by decide)) (fun _ => ?_)
  refine lv_aload_n hx hb dX9_tapeFour_7 rfl (lv_at hl 1 rfl) ?_
  refine va_get (D := D) (ci := 9) (v := .int 3) (C := RX9) (T := TX9) (N := 14) hx hb hts lay_X9 hown hK.1 hP 0 rfl rfl 9 (by decide) (hts _ fl_X9_75) (fun _ h9 => h9) rfl dX9_tapeFour_8 ?_
  refine lv_sipush (v := 1600) hx hb dX9_tapeFour_11 (by decide) ?_
  refine lv_icmp_ge (tgt := 40) hx hb dX9_tapeFour_14 (by decide) (fun c_23 => absurd c_23 (by decide)) (fun _ => ?_)
  refine lv_aload_n hx hb dX9_tapeFour_17 rfl (lv_at hl 1 rfl) ?_
  refine va_get (D := D) (ci := 9) (v := .ref (xa 1)) (C := RX9) (T := TX9) (N := 14) hx hb hts lay_X9 hown hK.1 hP 0 rfl rfl 0 (by decide) (hts _ fl_X9_9) (fun _ h9 => h9) rfl dX9_tapeFour_18 ?_
  refine lv_aload_n hx hb dX9_tapeFour_21 rfl (lv_at hl 1 rfl) ?_
  refine va_get (D := D) (ci := 9) (v := .int 3) (C := RX9) (T := TX9) (N := 14) hx hb hts lay_X9 hown hK.1 hP 0 rfl rfl 9 (by decide) (hts _ fl_X9_75) (fun _ h9 => h9) rfl dX9_tapeFour_22 ?_
  refine lv_iload_n hx hb dX9_tapeFour_25 rfl (lv_at hl 2 rfl) ?_
  refine lv_iload_n hx hb dX9_tapeFour_26 rfl (lv_at hl 0 rfl) ?_
  refine lv_ishr hx hb dX9_tapeFour_27 ?_
  refine lv_topi (fun z_24 ez_24 => ?_)
  refine lv_i2b hx hb dX9_tapeFour_28 rfl ?_
  refine lv_topi (fun z_25 ez_25 => ?_)
  refine va_bast hx hb hK.1 hP hD hS 1 0 rfl rfl (i := 3) (vp_in_iff.mpr (by decide)) dX9_tapeFour_29 (fun H locs hP hD hS => ?_)
  have hP : va_P D vwCl [((xa 0), .inr (9, [.ref (xa 1), .ref (xa 2), .ref (xa 3), .ref (xa 4), .ref (xa 5), .ref (xa 6), .ref (xa 7), .ref (xa 8), .ref (xa 9), .int 3, .ref (xa 11), .null, .int 0, .int (-1)])), ((xa 1), .inl (cy 0, 1600, .inl (upd f_19 3 (vp_nar .byte z_25))))] H := hP
  have hD : va_D A [((xa 0), .inr (9, [.ref (xa 1), .ref (xa 2), .ref (xa 3), .ref (xa 4), .ref (xa 5), .ref (xa 6), .ref (xa 7), .ref (xa 8), .ref (xa 9), .int 3, .ref (xa 11), .null, .int 0, .int (-1)])), ((xa 1), .inl (cy 0, 1600, .inl (upd f_19 3 (vp_nar .byte z_25))))] := hD
  generalize (upd f_19 3 (vp_nar .byte z_25)) = f_26 at hP hD
  refine lv_aload_n hx hb dX9_tapeFour_30 rfl (lv_at hl 1 rfl) ?_
  refine lv_dup hx hb dX9_tapeFour_31 rfl ?_
  refine va_get (D := D) (ci := 9) (v := .int 3) (C := RX9) (T := TX9) (N := 14) hx hb hts lay_X9 hown hK.1 hP 0 rfl rfl 9 (by decide) (hts _ fl_X9_75) (fun _ h9 => h9) rfl dX9_tapeFour_32 ?_
  refine lv_iconst (v := 1) hx hb dX9_tapeFour_35 (by decide) ?_
  refine lv_iadd hx hb dX9_tapeFour_36 ?_
  refine lv_topi (fun z_27 ez_27 => ?_)
  have ez_27 : z_27 = 4 := ez_27.trans (by decide)
  subst ez_27
  refine va_put (D := D) (ci := 9) (v := .int 4) (ty := tyX9 9) (C := RX9) (T := TX9) (N := 14) hx hb hts lay_X9 tyX9 tyX9_ok nmX9 hown hK.1 hP hD hS 0 rfl rfl 9 (by decide) (hts _ fl_X9_75) (fun _ h9 => h9) rfl (tyX9_ok 9 (by decide)) rfl rfl (Nat.le_of_ble_eq_true rfl) dX9_tapeFour_37 (fun H locs hP hD hS => ?_)
  have hP : va_P D vwCl [((xa 0), .inr (9, [.ref (xa 1), .ref (xa 2), .ref (xa 3), .ref (xa 4), .ref (xa 5), .ref (xa 6), .ref (xa 7), .ref (xa 8), .ref (xa 9), .int 4, .ref (xa 11), .null, .int 0, .int (-1)])), ((xa 1), .inl (cy 0, 1600, .inl f_26))] H := hP
  have hD : va_D A [((xa 0), .inr (9, [.ref (xa 1), .ref (xa 2), .ref (xa 3), .ref (xa 4), .ref (xa 5), .ref (xa 6), .ref (xa 7), .ref (xa 8), .ref (xa 9), .int 4, .ref (xa 11), .null, .int 0, .int (-1)])), ((xa 1), .inl (cy 0, 1600, .inl f_26))] := hD
  refine lv_iinc (v := (-8)) (lv' := [(2, .int (-8)), (0, .ref (xa 0)), (1, .int n0)]) hx hb dX9_tapeFour_40 hl (k := 0) rfl (by decide) (by decide) rfl (fun ls hl => ?_)
  refine lv_goto (tgt := 3) hx hb dX9_tapeFour_43 (by decide) ?_
  refine lv_iload_n hx hb dX9_tapeFour_3 rfl (lv_at hl 0 rfl) ?_
  refine lv_if_lt (tgt := 46) hx hb dX9_tapeFour_4 (by decide) (fun _ => ?_) (fun c_29 => absurd (by decide) c_29)
  exact ret_v hx hb hr hlocks ⟨⟨hS.1, hS.2.1⟩, ((fun _ => 0), (fun k => match k with | 0 => f_26 | _ => (fun _ => 0)), (fun _ => (fun _ => 0)), (fun _ => 0)), rfl, hP.sub [0, 1] rfl, hD.sub [0, 1] (by decide) rfl⟩ hS.2.2 (Nat.le_of_ble_eq_true rfl) (Nat.le_of_ble_eq_true rfl) dX9_tapeFour_46
set_option maxHeartbeats 4000000 in
set_option maxRecDepth 100000 in
theorem four_0 (l : Launch) (D : va_G) (cy : Nat → ClassId) (ma : Nat → Nat) (f : Nat → Int32) (n0 : Int32) (sz : Nat) : MM l yX10_four cX10_four 3 none 0 0 0 D cy [.ref (ma 0), .int n0] (PW D [((ma 0), .inr (10, [.int 0, .ref (ma 1), .ref (ma 2), .ref (ma 3), .ref (ma 4), .ref (ma 5), .int 0, .int 0, .int 0, .int 0, .int 0, .long 0, .int 0, .int 0, .int 0, .int (-1), .ref (ma 16), .ref (ma 17), .ref (ma 18), .ref (ma 19), .ref (ma 20), .ref (ma 21), .ref (ma 22), .ref (ma 23), .ref (ma 24), .ref (ma 25), .ref (ma 26), .ref (ma 27), .ref (ma 28), .ref (ma 29), .ref (ma 30), .ref (ma 31), .ref (ma 32), .ref (ma 33), .ref (ma 34), .ref (ma 35), .ref (ma 36), .ref (ma 37), .ref (ma 38), .ref (ma 39), .ref (ma 40), .ref (ma 41), .long 0])), ((ma 5), .inl (cy 0, 1600, .inl f))] sz) (QW D (va_A [((ma 0), .inr (10, [.int 0, .ref (ma 1), .ref (ma 2), .ref (ma 3), .ref (ma 4), .ref (ma 5), .int 0, .int 0, .int 0, .int 0, .int 0, .long 0, .int 0, .int 0, .int 0, .int (-1), .ref (ma 16), .ref (ma 17), .ref (ma 18), .ref (ma 19), .ref (ma 20), .ref (ma 21), .ref (ma 22), .ref (ma 23), .ref (ma 24), .ref (ma 25), .ref (ma 26), .ref (ma 27), .ref (ma 28), .ref (ma 29), .ref (ma 30), .ref (ma 31), .ref (ma 32), .ref (ma 33), .ref (ma 34), .ref (ma 35), .ref (ma 36), .ref (ma 37), .ref (ma 38), .ref (ma 39), .ref (ma 40), .ref (ma 41), .long 0])), ((ma 5), .inl (cy 0, 1600, .inl f))] sz) (S := (Nat → Nat) × (Nat → Nat → Int32) × (Nat → Nat → Int64) × (Nat → Int32)) (fun v u => v = none) (fun u => [((ma 0), .inr (10, [.int 0, .ref (ma 1), .ref (ma 2), .ref (ma 3), .ref (ma 4), .ref (ma 5), .int 4, .int 0, .int 0, .int 0, .int 0, .long 0, .int 0, .int 0, .int 0, .int (-1), .ref (ma 16), .ref (ma 17), .ref (ma 18), .ref (ma 19), .ref (ma 20), .ref (ma 21), .ref (ma 22), .ref (ma 23), .ref (ma 24), .ref (ma 25), .ref (ma 26), .ref (ma 27), .ref (ma 28), .ref (ma 29), .ref (ma 30), .ref (ma 31), .ref (ma 32), .ref (ma 33), .ref (ma 34), .ref (ma 35), .ref (ma 36), .ref (ma 37), .ref (ma 38), .ref (ma 39), .ref (ma 40), .ref (ma 41), .long 0])), ((ma 5), .inl (cy 0, 1600, .inl (u.2.1 0)))])) (va_A [((ma 0), .inr (10, [.int 0, .ref (ma 1), .ref (ma 2), .ref (ma 3), .ref (ma 4), .ref (ma 5), .int 0, .int 0, .int 0, .int 0, .int 0, .long 0, .int 0, .int 0, .int 0, .int (-1), .ref (ma 16), .ref (ma 17), .ref (ma 18), .ref (ma 19), .ref (ma 20), .ref (ma 21), .ref (ma 22), .ref (ma 23), .ref (ma 24), .ref (ma 25), .ref (ma 26), .ref (ma 27), .ref (ma 28), .ref (ma 29), .ref (ma 30), .ref (ma 31), .ref (ma 32), .ref (ma 33), .ref (ma 34), .ref (ma 35), .ref (ma 36), .ref (ma 37), .ref (ma 38), .ref (ma 39), .ref (ma 40), .ref (ma 41), .long 0])), ((ma 5), .inl (cy 0, 1600, .inl f))] sz) := by
  refine MM.of (by decide) (Nat.le_of_ble_eq_true rfl) ?_
  intro p e s m below meth c C hPW ls hl
  obtain ⟨hx, hb, hr, hml, hown, hts, hlocks, hK, hnm⟩ := C
  obtain ⟨rfl, hP, hD0⟩ := hPW
  have hD := hD0.self (sz := s.heap.size)
  have hA : ∀ q : Nat, s.heap.size ≤ q → (va_A [((ma 0), .inr (10, [.int 0, .ref (ma 1), .ref (ma 2), .ref (ma 3), .ref (ma 4), .ref (ma 5), .int 0, .int 0, .int 0, .int 0, .int 0, .long 0, .int 0, .int 0, .int 0, .int (-1), .ref (ma 16), .ref (ma 17), .ref (ma 18), .ref (ma 19), .ref (ma 20), .ref (ma 21), .ref (ma 22), .ref (ma 23), .ref (ma 24), .ref (ma 25), .ref (ma 26), .ref (ma 27), .ref (ma 28), .ref (ma 29), .ref (ma 30), .ref (ma 31), .ref (ma 32), .ref (ma 33), .ref (ma 34), .ref (ma 35), .ref (ma 36), .ref (ma 37), .ref (ma 38), .ref (ma 39), .ref (ma 40), .ref (ma 41), .long 0])), ((ma 5), .inl (cy 0, 1600, .inl f))] s.heap.size) q := fun q h => Or.inr h
  have hS : va_S (va_A [((ma 0), .inr (10, [.int 0, .ref (ma 1), .ref (ma 2), .ref (ma 3), .ref (ma 4), .ref (ma 5), .int 0, .int 0, .int 0, .int 0, .int 0, .long 0, .int 0, .int 0, .int 0, .int (-1), .ref (ma 16), .ref (ma 17), .ref (ma 18), .ref (ma 19), .ref (ma 20), .ref (ma 21), .ref (ma 22), .ref (ma 23), .ref (ma 24), .ref (ma 25), .ref (ma 26), .ref (ma 27), .ref (ma 28), .ref (ma 29), .ref (ma 30), .ref (ma 31), .ref (ma 32), .ref (ma 33), .ref (ma 34), .ref (ma 35), .ref (ma 36), .ref (ma 37), .ref (ma 38), .ref (ma 39), .ref (ma 40), .ref (ma 41), .long 0])), ((ma 5), .inl (cy 0, 1600, .inl f))] s.heap.size) s.heap s.heap [] := va_S.rf
  generalize va_A [((ma 0), .inr (10, [.int 0, .ref (ma 1), .ref (ma 2), .ref (ma 3), .ref (ma 4), .ref (ma 5), .int 0, .int 0, .int 0, .int 0, .int 0, .long 0, .int 0, .int 0, .int 0, .int (-1), .ref (ma 16), .ref (ma 17), .ref (ma 18), .ref (ma 19), .ref (ma 20), .ref (ma 21), .ref (ma 22), .ref (ma 23), .ref (ma 24), .ref (ma 25), .ref (ma 26), .ref (ma 27), .ref (ma 28), .ref (ma 29), .ref (ma 30), .ref (ma 31), .ref (ma 32), .ref (ma 33), .ref (ma 34), .ref (ma 35), .ref (ma 36), .ref (ma 37), .ref (ma 38), .ref (ma 39), .ref (ma 40), .ref (ma 41), .long 0])), ((ma 5), .inl (cy 0, 1600, .inl f))] s.heap.size = A at hD hA hS ⊢
  have hP : va_P D vwCl [((ma 0), .inr (10, [.int 0, .ref (ma 1), .ref (ma 2), .ref (ma 3), .ref (ma 4), .ref (ma 5), .int 0, .int 0, .int 0, .int 0, .int 0, .long 0, .int 0, .int 0, .int 0, .int (-1), .ref (ma 16), .ref (ma 17), .ref (ma 18), .ref (ma 19), .ref (ma 20), .ref (ma 21), .ref (ma 22), .ref (ma 23), .ref (ma 24), .ref (ma 25), .ref (ma 26), .ref (ma 27), .ref (ma 28), .ref (ma 29), .ref (ma 30), .ref (ma 31), .ref (ma 32), .ref (ma 33), .ref (ma 34), .ref (ma 35), .ref (ma 36), .ref (ma 37), .ref (ma 38), .ref (ma 39), .ref (ma 40), .ref (ma 41), .long 0])), ((ma 5), .inl (cy 0, 1600, .inl f))] s.heap := hP
  have hl : lv_has ls 3 [(0, .ref (ma 0)), (1, .int n0)] := hl
  refine lv_bipush (v := 24) hx hb dX10_four_0 (by decide) ?_
  refine lv_istore_n (lv' := [(2, .int 24), (0, .ref (ma 0)), (1, .int n0)]) hx hb dX10_four_2 rfl hl (by decide) rfl (fun ls hl => ?_)
  refine lv_iload_n hx hb dX10_four_3 rfl (lv_at hl 0 rfl) ?_
  refine lv_if_lt (tgt := 36) hx hb dX10_four_4 (by decide) (fun c_1 => absurd c_1 (by decide)) (fun _ => ?_)
  refine lv_aload_n hx hb dX10_four_7 rfl (lv_at hl 1 rfl) ?_
  refine va_get (D := D) (ci := 10) (v := .ref (ma 5)) (C := RX10) (T := TX10) (N := 43) hx hb hts lay_X10 hown hK.1 hP 0 rfl rfl 5 (by decide) (hts _ fl_X10_23) (fun _ h9 => h9) rfl dX10_four_8 ?_
  refine lv_aload_n hx hb dX10_four_11 rfl (lv_at hl 1 rfl) ?_
  refine va_get (D := D) (ci := 10) (v := .int 0) (C := RX10) (T := TX10) (N := 43) hx hb hts lay_X10 hown hK.1 hP 0 rfl rfl 6 (by decide) (hts _ fl_X10_128) (fun _ h9 => h9) rfl dX10_four_12 ?_
  refine lv_iload_n hx hb dX10_four_15 rfl (lv_at hl 2 rfl) ?_
  refine lv_iload_n hx hb dX10_four_16 rfl (lv_at hl 0 rfl) ?_
  refine lv_ishr hx hb dX10_four_17 ?_
  refine lv_topi (fun z_2 ez_2 => ?_)
  refine lv_i2b hx hb dX10_four_18 rfl ?_
  refine lv_topi (fun z_3 ez_3 => ?_)
  refine va_bast hx hb hK.1 hP hD hS 1 0 rfl rfl (i := 0) (vp_in_iff.mpr (by decide)) dX10_four_19 (fun H locs hP hD hS => ?_)
  have hP : va_P D vwCl [((ma 0), .inr (10, [.int 0, .ref (ma 1), .ref (ma 2), .ref (ma 3), .ref (ma 4), .ref (ma 5), .int 0, .int 0, .int 0, .int 0, .int 0, .long 0, .int 0, .int 0, .int 0, .int (-1), .ref (ma 16), .ref (ma 17), .ref (ma 18), .ref (ma 19), .ref (ma 20), .ref (ma 21), .ref (ma 22), .ref (ma 23), .ref (ma 24), .ref (ma 25), .ref (ma 26), .ref (ma 27), .ref (ma 28), .ref (ma 29), .ref (ma 30), .ref (ma 31), .ref (ma 32), .ref (ma 33), .ref (ma 34), .ref (ma 35), .ref (ma 36), .ref (ma 37), .ref (ma 38), .ref (ma 39), .ref (ma 40), .ref (ma 41), .long 0])), ((ma 5), .inl (cy 0, 1600, .inl (upd f 0 (vp_nar .byte z_3))))] H := hP
  have hD : va_D A [((ma 0), .inr (10, [.int 0, .ref (ma 1), .ref (ma 2), .ref (ma 3), .ref (ma 4), .ref (ma 5), .int 0, .int 0, .int 0, .int 0, .int 0, .long 0, .int 0, .int 0, .int 0, .int (-1), .ref (ma 16), .ref (ma 17), .ref (ma 18), .ref (ma 19), .ref (ma 20), .ref (ma 21), .ref (ma 22), .ref (ma 23), .ref (ma 24), .ref (ma 25), .ref (ma 26), .ref (ma 27), .ref (ma 28), .ref (ma 29), .ref (ma 30), .ref (ma 31), .ref (ma 32), .ref (ma 33), .ref (ma 34), .ref (ma 35), .ref (ma 36), .ref (ma 37), .ref (ma 38), .ref (ma 39), .ref (ma 40), .ref (ma 41), .long 0])), ((ma 5), .inl (cy 0, 1600, .inl (upd f 0 (vp_nar .byte z_3))))] := hD
  generalize (upd f 0 (vp_nar .byte z_3)) = f_4 at hP hD
  refine lv_aload_n hx hb dX10_four_20 rfl (lv_at hl 1 rfl) ?_
  refine lv_dup hx hb dX10_four_21 rfl ?_
  refine va_get (D := D) (ci := 10) (v := .int 0) (C := RX10) (T := TX10) (N := 43) hx hb hts lay_X10 hown hK.1 hP 0 rfl rfl 6 (by decide) (hts _ fl_X10_128) (fun _ h9 => h9) rfl dX10_four_22 ?_
  refine lv_iconst (v := 1) hx hb dX10_four_25 (by decide) ?_
  refine lv_iadd hx hb dX10_four_26 ?_
  refine lv_topi (fun z_5 ez_5 => ?_)
  have ez_5 : z_5 = 1 := ez_5.trans (by decide)
  subst ez_5
  refine va_put (D := D) (ci := 10) (v := .int 1) (ty := tyX10 6) (C := RX10) (T := TX10) (N := 43) hx hb hts lay_X10 tyX10 tyX10_ok nmX10 hown hK.1 hP hD hS 0 rfl rfl 6 (by decide) (hts _ fl_X10_128) (fun _ h9 => h9) rfl (tyX10_ok 6 (by decide)) rfl rfl (Nat.le_of_ble_eq_true rfl) dX10_four_27 (fun H locs hP hD hS => ?_)
  have hP : va_P D vwCl [((ma 0), .inr (10, [.int 0, .ref (ma 1), .ref (ma 2), .ref (ma 3), .ref (ma 4), .ref (ma 5), .int 1, .int 0, .int 0, .int 0, .int 0, .long 0, .int 0, .int 0, .int 0, .int (-1), .ref (ma 16), .ref (ma 17), .ref (ma 18), .ref (ma 19), .ref (ma 20), .ref (ma 21), .ref (ma 22), .ref (ma 23), .ref (ma 24), .ref (ma 25), .ref (ma 26), .ref (ma 27), .ref (ma 28), .ref (ma 29), .ref (ma 30), .ref (ma 31), .ref (ma 32), .ref (ma 33), .ref (ma 34), .ref (ma 35), .ref (ma 36), .ref (ma 37), .ref (ma 38), .ref (ma 39), .ref (ma 40), .ref (ma 41), .long 0])), ((ma 5), .inl (cy 0, 1600, .inl f_4))] H := hP
  have hD : va_D A [((ma 0), .inr (10, [.int 0, .ref (ma 1), .ref (ma 2), .ref (ma 3), .ref (ma 4), .ref (ma 5), .int 1, .int 0, .int 0, .int 0, .int 0, .long 0, .int 0, .int 0, .int 0, .int (-1), .ref (ma 16), .ref (ma 17), .ref (ma 18), .ref (ma 19), .ref (ma 20), .ref (ma 21), .ref (ma 22), .ref (ma 23), .ref (ma 24), .ref (ma 25), .ref (ma 26), .ref (ma 27), .ref (ma 28), .ref (ma 29), .ref (ma 30), .ref (ma 31), .ref (ma 32), .ref (ma 33), .ref (ma 34), .ref (ma 35), .ref (ma 36), .ref (ma 37), .ref (ma 38), .ref (ma 39), .ref (ma 40), .ref (ma 41), .long 0])), ((ma 5), .inl (cy 0, 1600, .inl f_4))] := hD
  refine lv_iinc (v := 16) (lv' := [(2, .int 16), (0, .ref (ma 0)), (1, .int n0)]) hx hb dX10_four_30 hl (k := 0) rfl (by decide) (by decide) rfl (fun ls hl => ?_)
  refine lv_goto (tgt := 3) hx hb dX10_four_33 (by decide) ?_
  refine lv_iload_n hx hb dX10_four_3 rfl (lv_at hl 0 rfl) ?_
  refine lv_if_lt (tgt := 36) hx hb dX10_four_4 (by decide) (fun c_7 => absurd c_7 (by decide)) (fun _ => ?_)
  refine lv_aload_n hx hb dX10_four_7 rfl (lv_at hl 1 rfl) ?_
  refine va_get (D := D) (ci := 10) (v := .ref (ma 5)) (C := RX10) (T := TX10) (N := 43) hx hb hts lay_X10 hown hK.1 hP 0 rfl rfl 5 (by decide) (hts _ fl_X10_23) (fun _ h9 => h9) rfl dX10_four_8 ?_
  refine lv_aload_n hx hb dX10_four_11 rfl (lv_at hl 1 rfl) ?_
  refine va_get (D := D) (ci := 10) (v := .int 1) (C := RX10) (T := TX10) (N := 43) hx hb hts lay_X10 hown hK.1 hP 0 rfl rfl 6 (by decide) (hts _ fl_X10_128) (fun _ h9 => h9) rfl dX10_four_12 ?_
  refine lv_iload_n hx hb dX10_four_15 rfl (lv_at hl 2 rfl) ?_
  refine lv_iload_n hx hb dX10_four_16 rfl (lv_at hl 0 rfl) ?_
  refine lv_ishr hx hb dX10_four_17 ?_
  refine lv_topi (fun z_8 ez_8 => ?_)
  refine lv_i2b hx hb dX10_four_18 rfl ?_
  refine lv_topi (fun z_9 ez_9 => ?_)
  refine va_bast hx hb hK.1 hP hD hS 1 0 rfl rfl (i := 1) (vp_in_iff.mpr (by decide)) dX10_four_19 (fun H locs hP hD hS => ?_)
  have hP : va_P D vwCl [((ma 0), .inr (10, [.int 0, .ref (ma 1), .ref (ma 2), .ref (ma 3), .ref (ma 4), .ref (ma 5), .int 1, .int 0, .int 0, .int 0, .int 0, .long 0, .int 0, .int 0, .int 0, .int (-1), .ref (ma 16), .ref (ma 17), .ref (ma 18), .ref (ma 19), .ref (ma 20), .ref (ma 21), .ref (ma 22), .ref (ma 23), .ref (ma 24), .ref (ma 25), .ref (ma 26), .ref (ma 27), .ref (ma 28), .ref (ma 29), .ref (ma 30), .ref (ma 31), .ref (ma 32), .ref (ma 33), .ref (ma 34), .ref (ma 35), .ref (ma 36), .ref (ma 37), .ref (ma 38), .ref (ma 39), .ref (ma 40), .ref (ma 41), .long 0])), ((ma 5), .inl (cy 0, 1600, .inl (upd f_4 1 (vp_nar .byte z_9))))] H := hP
  have hD : va_D A [((ma 0), .inr (10, [.int 0, .ref (ma 1), .ref (ma 2), .ref (ma 3), .ref (ma 4), .ref (ma 5), .int 1, .int 0, .int 0, .int 0, .int 0, .long 0, .int 0, .int 0, .int 0, .int (-1), .ref (ma 16), .ref (ma 17), .ref (ma 18), .ref (ma 19), .ref (ma 20), .ref (ma 21), .ref (ma 22), .ref (ma 23), .ref (ma 24), .ref (ma 25), .ref (ma 26), .ref (ma 27), .ref (ma 28), .ref (ma 29), .ref (ma 30), .ref (ma 31), .ref (ma 32), .ref (ma 33), .ref (ma 34), .ref (ma 35), .ref (ma 36), .ref (ma 37), .ref (ma 38), .ref (ma 39), .ref (ma 40), .ref (ma 41), .long 0])), ((ma 5), .inl (cy 0, 1600, .inl (upd f_4 1 (vp_nar .byte z_9))))] := hD
  generalize (upd f_4 1 (vp_nar .byte z_9)) = f_10 at hP hD
  refine lv_aload_n hx hb dX10_four_20 rfl (lv_at hl 1 rfl) ?_
  refine lv_dup hx hb dX10_four_21 rfl ?_
  refine va_get (D := D) (ci := 10) (v := .int 1) (C := RX10) (T := TX10) (N := 43) hx hb hts lay_X10 hown hK.1 hP 0 rfl rfl 6 (by decide) (hts _ fl_X10_128) (fun _ h9 => h9) rfl dX10_four_22 ?_
  refine lv_iconst (v := 1) hx hb dX10_four_25 (by decide) ?_
  refine lv_iadd hx hb dX10_four_26 ?_
  refine lv_topi (fun z_11 ez_11 => ?_)
  have ez_11 : z_11 = 2 := ez_11.trans (by decide)
  subst ez_11
  refine va_put (D := D) (ci := 10) (v := .int 2) (ty := tyX10 6) (C := RX10) (T := TX10) (N := 43) hx hb hts lay_X10 tyX10 tyX10_ok nmX10 hown hK.1 hP hD hS 0 rfl rfl 6 (by decide) (hts _ fl_X10_128) (fun _ h9 => h9) rfl (tyX10_ok 6 (by decide)) rfl rfl (Nat.le_of_ble_eq_true rfl) dX10_four_27 (fun H locs hP hD hS => ?_)
  have hP : va_P D vwCl [((ma 0), .inr (10, [.int 0, .ref (ma 1), .ref (ma 2), .ref (ma 3), .ref (ma 4), .ref (ma 5), .int 2, .int 0, .int 0, .int 0, .int 0, .long 0, .int 0, .int 0, .int 0, .int (-1), .ref (ma 16), .ref (ma 17), .ref (ma 18), .ref (ma 19), .ref (ma 20), .ref (ma 21), .ref (ma 22), .ref (ma 23), .ref (ma 24), .ref (ma 25), .ref (ma 26), .ref (ma 27), .ref (ma 28), .ref (ma 29), .ref (ma 30), .ref (ma 31), .ref (ma 32), .ref (ma 33), .ref (ma 34), .ref (ma 35), .ref (ma 36), .ref (ma 37), .ref (ma 38), .ref (ma 39), .ref (ma 40), .ref (ma 41), .long 0])), ((ma 5), .inl (cy 0, 1600, .inl f_10))] H := hP
  have hD : va_D A [((ma 0), .inr (10, [.int 0, .ref (ma 1), .ref (ma 2), .ref (ma 3), .ref (ma 4), .ref (ma 5), .int 2, .int 0, .int 0, .int 0, .int 0, .long 0, .int 0, .int 0, .int 0, .int (-1), .ref (ma 16), .ref (ma 17), .ref (ma 18), .ref (ma 19), .ref (ma 20), .ref (ma 21), .ref (ma 22), .ref (ma 23), .ref (ma 24), .ref (ma 25), .ref (ma 26), .ref (ma 27), .ref (ma 28), .ref (ma 29), .ref (ma 30), .ref (ma 31), .ref (ma 32), .ref (ma 33), .ref (ma 34), .ref (ma 35), .ref (ma 36), .ref (ma 37), .ref (ma 38), .ref (ma 39), .ref (ma 40), .ref (ma 41), .long 0])), ((ma 5), .inl (cy 0, 1600, .inl f_10))] := hD
  refine lv_iinc (v := 8) (lv' := [(2, .int 8), (0, .ref (ma 0)), (1, .int n0)]) hx hb dX10_four_30 hl (k := 0) rfl (by decide) (by decide) rfl (fun ls hl => ?_)
  refine lv_goto (tgt := 3) hx hb dX10_four_33 (by decide) ?_
  refine lv_iload_n hx hb dX10_four_3 rfl (lv_at hl 0 rfl) ?_
  refine lv_if_lt (tgt := 36) hx hb dX10_four_4 (by decide) (fun c_13 => absurd c_13 (by decide)) (fun _ => ?_)
  refine lv_aload_n hx hb dX10_four_7 rfl (lv_at hl 1 rfl) ?_
  refine va_get (D := D) (ci := 10) (v := .ref (ma 5)) (C := RX10) (T := TX10) (N := 43) hx hb hts lay_X10 hown hK.1 hP 0 rfl rfl 5 (by decide) (hts _ fl_X10_23) (fun _ h9 => h9) rfl dX10_four_8 ?_
  refine lv_aload_n hx hb dX10_four_11 rfl (lv_at hl 1 rfl) ?_
  refine va_get (D := D) (ci := 10) (v := .int 2) (C := RX10) (T := TX10) (N := 43) hx hb hts lay_X10 hown hK.1 hP 0 rfl rfl 6 (by decide) (hts _ fl_X10_128) (fun _ h9 => h9) rfl dX10_four_12 ?_
  refine lv_iload_n hx hb dX10_four_15 rfl (lv_at hl 2 rfl) ?_
  refine lv_iload_n hx hb dX10_four_16 rfl (lv_at hl 0 rfl) ?_
  refine lv_ishr hx hb dX10_four_17 ?_
  refine lv_topi (fun z_14 ez_14 => ?_)
  refine lv_i2b hx hb dX10_four_18 rfl ?_
  refine lv_topi (fun z_15 ez_15 => ?_)
  refine va_bast hx hb hK.1 hP hD hS 1 0 rfl rfl (i := 2) (vp_in_iff.mpr (by decide)) dX10_four_19 (fun H locs hP hD hS => ?_)
  have hP : va_P D vwCl [((ma 0), .inr (10, [.int 0, .ref (ma 1), .ref (ma 2), .ref (ma 3), .ref (ma 4), .ref (ma 5), .int 2, .int 0, .int 0, .int 0, .int 0, .long 0, .int 0, .int 0, .int 0, .int (-1), .ref (ma 16), .ref (ma 17), .ref (ma 18), .ref (ma 19), .ref (ma 20), .ref (ma 21), .ref (ma 22), .ref (ma 23), .ref (ma 24), .ref (ma 25), .ref (ma 26), .ref (ma 27), .ref (ma 28), .ref (ma 29), .ref (ma 30), .ref (ma 31), .ref (ma 32), .ref (ma 33), .ref (ma 34), .ref (ma 35), .ref (ma 36), .ref (ma 37), .ref (ma 38), .ref (ma 39), .ref (ma 40), .ref (ma 41), .long 0])), ((ma 5), .inl (cy 0, 1600, .inl (upd f_10 2 (vp_nar .byte z_15))))] H := hP
  have hD : va_D A [((ma 0), .inr (10, [.int 0, .ref (ma 1), .ref (ma 2), .ref (ma 3), .ref (ma 4), .ref (ma 5), .int 2, .int 0, .int 0, .int 0, .int 0, .long 0, .int 0, .int 0, .int 0, .int (-1), .ref (ma 16), .ref (ma 17), .ref (ma 18), .ref (ma 19), .ref (ma 20), .ref (ma 21), .ref (ma 22), .ref (ma 23), .ref (ma 24), .ref (ma 25), .ref (ma 26), .ref (ma 27), .ref (ma 28), .ref (ma 29), .ref (ma 30), .ref (ma 31), .ref (ma 32), .ref (ma 33), .ref (ma 34), .ref (ma 35), .ref (ma 36), .ref (ma 37), .ref (ma 38), .ref (ma 39), .ref (ma 40), .ref (ma 41), .long 0])), ((ma 5), .inl (cy 0, 1600, .inl (upd f_10 2 (vp_nar .byte z_15))))] := hD
  generalize (upd f_10 2 (vp_nar .byte z_15)) = f_16 at hP hD
  refine lv_aload_n hx hb dX10_four_20 rfl (lv_at hl 1 rfl) ?_
  refine lv_dup hx hb dX10_four_21 rfl ?_
  refine va_get (D := D) (ci := 10) (v := .int 2) (C := RX10) (T := TX10) (N := 43) hx hb hts lay_X10 hown hK.1 hP 0 rfl rfl 6 (by decide) (hts _ fl_X10_128) (fun _ h9 => h9) rfl dX10_four_22 ?_
  refine lv_iconst (v := 1) hx hb dX10_four_25 (by decide) ?_
  refine lv_iadd hx hb dX10_four_26 ?_
  refine lv_topi (fun z_17 ez_17 => ?_)
  have ez_17 : z_17 = 3 := ez_17.trans (by decide)
  subst ez_17
  refine va_put (D := D) (ci := 10) (v := .int 3) (ty := tyX10 6) (C := RX10) (T := TX10) (N := 43) hx hb hts lay_X10 tyX10 tyX10_ok nmX10 hown hK.1 hP hD hS 0 rfl rfl 6 (by decide) (hts _ fl_X10_128) (fun _ h9 => h9) rfl (tyX10_ok 6 (by decide)) rfl rfl (Nat.le_of_ble_eq_true rfl) dX10_four_27 (fun H locs hP hD hS => ?_)
  have hP : va_P D vwCl [((ma 0), .inr (10, [.int 0, .ref (ma 1), .ref (ma 2), .ref (ma 3), .ref (ma 4), .ref (ma 5), .int 3, .int 0, .int 0, .int 0, .int 0, .long 0, .int 0, .int 0, .int 0, .int (-1), .ref (ma 16), .ref (ma 17), .ref (ma 18), .ref (ma 19), .ref (ma 20), .ref (ma 21), .ref (ma 22), .ref (ma 23), .ref (ma 24), .ref (ma 25), .ref (ma 26), .ref (ma 27), .ref (ma 28), .ref (ma 29), .ref (ma 30), .ref (ma 31), .ref (ma 32), .ref (ma 33), .ref (ma 34), .ref (ma 35), .ref (ma 36), .ref (ma 37), .ref (ma 38), .ref (ma 39), .ref (ma 40), .ref (ma 41), .long 0])), ((ma 5), .inl (cy 0, 1600, .inl f_16))] H := hP
  have hD : va_D A [((ma 0), .inr (10, [.int 0, .ref (ma 1), .ref (ma 2), .ref (ma 3), .ref (ma 4), .ref (ma 5), .int 3, .int 0, .int 0, .int 0, .int 0, .long 0, .int 0, .int 0, .int 0, .int (-1), .ref (ma 16), .ref (ma 17), .ref (ma 18), .ref (ma 19), .ref (ma 20), .ref (ma 21), .ref (ma 22), .ref (ma 23), .ref (ma 24), .ref (ma 25), .ref (ma 26), .ref (ma 27), .ref (ma 28), .ref (ma 29), .ref (ma 30), .ref (ma 31), .ref (ma 32), .ref (ma 33), .ref (ma 34), .ref (ma 35), .ref (ma 36), .ref (ma 37), .ref (ma 38), .ref (ma 39), .ref (ma 40), .ref (ma 41), .long 0])), ((ma 5), .inl (cy 0, 1600, .inl f_16))] := hD
  refine lv_iinc (v := 0) (lv' := [(2, .int 0), (0, .ref (ma 0)), (1, .int n0)]) hx hb dX10_four_30 hl (k := 0) rfl (by decide) (by decide) rfl (fun ls hl => ?_)
  refine lv_goto (tgt := 3) hx hb dX10_four_33 (by decide) ?_
  refine lv_iload_n hx hb dX10_four_3 rfl (lv_at hl 0 rfl) ?_
  refine lv_if_lt (tgt := 36) hx hb dX10_four_4 (by decide) (fun c_19 => absurd c_19 (by decide)) (fun _ => ?_)
  refine lv_aload_n hx hb dX10_four_7 rfl (lv_at hl 1 rfl) ?_
  refine va_get (D := D) (ci := 10) (v := .ref (ma 5)) (C := RX10) (T := TX10) (N := 43) hx hb hts lay_X10 hown hK.1 hP 0 rfl rfl 5 (by decide) (hts _ fl_X10_23) (fun _ h9 => h9) rfl dX10_four_8 ?_
  refine lv_aload_n hx hb dX10_four_11 rfl (lv_at hl 1 rfl) ?_
  refine va_get (D := D) (ci := 10) (v := .int 3) (C := RX10) (T := TX10) (N := 43) hx hb hts lay_X10 hown hK.1 hP 0 rfl rfl 6 (by decide) (hts _ fl_X10_128) (fun _ h9 => h9) rfl dX10_four_12 ?_
  refine lv_iload_n hx hb dX10_four_15 rfl (lv_at hl 2 rfl) ?_
  refine lv_iload_n hx hb dX10_four_16 rfl (lv_at hl 0 rfl) ?_
  refine lv_ishr hx hb dX10_four_17 ?_
  refine lv_topi (fun z_20 ez_20 => ?_)
  refine lv_i2b hx hb dX10_four_18 rfl ?_
  refine lv_topi (fun z_21 ez_21 => ?_)
  refine va_bast hx hb hK.1 hP hD hS 1 0 rfl rfl (i := 3) (vp_in_iff.mpr (by decide)) dX10_four_19 (fun H locs hP hD hS => ?_)
  have hP : va_P D vwCl [((ma 0), .inr (10, [.int 0, .ref (ma 1), .ref (ma 2), .ref (ma 3), .ref (ma 4), .ref (ma 5), .int 3, .int 0, .int 0, .int 0, .int 0, .long 0, .int 0, .int 0, .int 0, .int (-1), .ref (ma 16), .ref (ma 17), .ref (ma 18), .ref (ma 19), .ref (ma 20), .ref (ma 21), .ref (ma 22), .ref (ma 23), .ref (ma 24), .ref (ma 25), .ref (ma 26), .ref (ma 27), .ref (ma 28), .ref (ma 29), .ref (ma 30), .ref (ma 31), .ref (ma 32), .ref (ma 33), .ref (ma 34), .ref (ma 35), .ref (ma 36), .ref (ma 37), .ref (ma 38), .ref (ma 39), .ref (ma 40), .ref (ma 41), .long 0])), ((ma 5), .inl (cy 0, 1600, .inl (upd f_16 3 (vp_nar .byte z_21))))] H := hP
  have hD : va_D A [((ma 0), .inr (10, [.int 0, .ref (ma 1), .ref (ma 2), .ref (ma 3), .ref (ma 4), .ref (ma 5), .int 3, .int 0, .int 0, .int 0, .int 0, .long 0, .int 0, .int 0, .int 0, .int (-1), .ref (ma 16), .ref (ma 17), .ref (ma 18), .ref (ma 19), .ref (ma 20), .ref (ma 21), .ref (ma 22), .ref (ma 23), .ref (ma 24), .ref (ma 25), .ref (ma 26), .ref (ma 27), .ref (ma 28), .ref (ma 29), .ref (ma 30), .ref (ma 31), .ref (ma 32), .ref (ma 33), .ref (ma 34), .ref (ma 35), .ref (ma 36), .ref (ma 37), .ref (ma 38), .ref (ma 39), .ref (ma 40), .ref (ma 41), .long 0])), ((ma 5), .inl (cy 0, 1600, .inl (upd f_16 3 (vp_nar .byte z_21))))] := hD
  generalize (upd f_16 3 (vp_nar .byte z_21)) = f_22 at hP hD
  refine lv_aload_n hx hb dX10_four_20 rfl (lv_at hl 1 rfl) ?_
  refine lv_dup hx hb dX10_four_21 rfl ?_
  refine va_get (D := D) (ci := 10) (v := .int 3) (C := RX10) (T := TX10) (N := 43) hx hb hts lay_X10 hown hK.1 hP 0 rfl rfl 6 (by decide) (hts _ fl_X10_128) (fun _ h9 => h9) rfl dX10_four_22 ?_
  refine lv_iconst (v := 1) hx hb dX10_four_25 (by decide) ?_
  refine lv_iadd hx hb dX10_four_26 ?_
  refine lv_topi (fun z_23 ez_23 => ?_)
  have ez_23 : z_23 = 4 := ez_23.trans (by decide)
  subst ez_23
  refine va_put (D := D) (ci := 10) (v := .int 4) (ty := tyX10 6) (C := RX10) (T := TX10) (N := 43) hx hb hts lay_X10 tyX10 tyX10_ok nmX10 hown hK.1 hP hD hS 0 rfl rfl 6 (by decide) (hts _ fl_X10_128) (fun _ h9 => h9) rfl (tyX10_ok 6 (by decide)) rfl rfl (Nat.le_of_ble_eq_true rfl) dX10_four_27 (fun H locs hP hD hS => ?_)
  have hP : va_P D vwCl [((ma 0), .inr (10, [.int 0, .ref (ma 1), .ref (ma 2), .ref (ma 3), .ref (ma 4), .ref (ma 5), .int 4, .int 0, .int 0, .int 0, .int 0, .long 0, .int 0, .int 0, .int 0, .int (-1), .ref (ma 16), .ref (ma 17), .ref (ma 18), .ref (ma 19), .ref (ma 20), .ref (ma 21), .ref (ma 22), .ref (ma 23), .ref (ma 24), .ref (ma 25), .ref (ma 26), .ref (ma 27), .ref (ma 28), .ref (ma 29), .ref (ma 30), .ref (ma 31), .ref (ma 32), .ref (ma 33), .ref (ma 34), .ref (ma 35), .ref (ma 36), .ref (ma 37), .ref (ma 38), .ref (ma 39), .ref (ma 40), .ref (ma 41), .long 0])), ((ma 5), .inl (cy 0, 1600, .inl f_22))] H := hP
  have hD : va_D A [((ma 0), .inr (10, [.int 0, .ref (ma 1), .ref (ma 2), .ref (ma 3), .ref (ma 4), .ref (ma 5), .int 4, .int 0, .int 0, .int 0, .int 0, .long 0, .int 0, .int 0, .int 0, .int (-1), .ref (ma 16), .ref (ma 17), .ref (ma 18), .ref (ma 19), .ref (ma 20), .ref (ma 21), .ref (ma 22), .ref (ma 23), .ref (ma 24), .ref (ma 25), .ref (ma 26), .ref (ma 27), .ref (ma 28), .ref (ma 29), .ref (ma 30), .ref (ma 31), .ref (ma 32), .ref (ma 33), .ref (ma 34), .ref (ma 35), .ref (ma 36), .ref (ma 37), .ref (ma 38), .ref (ma 39), .ref (ma 40), .ref (ma 41), .long 0])), ((ma 5), .inl (cy 0, 1600, .inl f_22))] := hD
  refine lv_iinc (v := (-8)) (lv' := [(2, .int (-8)), (0, .ref (ma 0)), (1, .int n0)]) hx hb dX10_four_30 hl (k := 0) rfl (by decide) (by decide) rfl (fun ls hl => ?_)
  refine lv_goto (tgt := 3) hx hb dX10_four_33 (by decide) ?_
  refine lv_iload_n hx hb dX10_four_3 rfl (lv_at hl 0 rfl) ?_
  refine lv_if_lt (tgt := 36) hx hb dX10_four_4 (by decide) (fun _ => ?_) (fun c_25 => absurd (by decide) c_25)
  exact ret_v hx hb hr hlocks ⟨⟨hS.1, hS.2.1⟩, ((fun _ => 0), (fun k => match k with | 0 => f_22 | _ => (fun _ => 0)), (fun _ => (fun _ => 0)), (fun _ => 0)), rfl, hP.sub [0, 1] rfl, hD.sub [0, 1] (by decide) rfl⟩ hS.2.2 (Nat.le_of_ble_eq_true rfl) (Nat.le_of_ble_eq_true rfl) dX10_four_36
set_option maxHeartbeats 4000000 in
set_option maxRecDepth 100000 in
theorem tape4_4 (l : Launch) (D : va_G) (cy : Nat → ClassId) (xa : Nat → Nat) (f : Nat → Int32) (n0 : Int32) (sz : Nat) : MM l yX9_tapeFour cX9_tapeFour 3 none 0 0 0 D cy [.ref (xa 0), .int n0] (PW D [((xa 0), .inr (9, [.ref (xa 1), .ref (xa 2), .ref (xa 3), .ref (xa 4), .ref (xa 5), .ref (xa 6), .ref (xa 7), .ref (xa 8), .ref (xa 9), .int 4, .ref (xa 11), .null, .int 0, .int (-1)])), ((xa 1), .inl (cy 0, 1600, .inl f))] sz) (QW D (va_A [((xa 0), .inr (9, [.ref (xa 1), .ref (xa 2), .ref (xa 3), .ref (xa 4), .ref (xa 5), .ref (xa 6), .ref (xa 7), .ref (xa 8), .ref (xa 9), .int 4, .ref (xa 11), .null, .int 0, .int (-1)])), ((xa 1), .inl (cy 0, 1600, .inl f))] sz) (S := (Nat → Nat) × (Nat → Nat → Int32) × (Nat → Nat → Int64) × (Nat → Int32)) (fun v u => v = none) (fun u => [((xa 0), .inr (9, [.ref (xa 1), .ref (xa 2), .ref (xa 3), .ref (xa 4), .ref (xa 5), .ref (xa 6), .ref (xa 7), .ref (xa 8), .ref (xa 9), .int 8, .ref (xa 11), .null, .int 0, .int (-1)])), ((xa 1), .inl (cy 0, 1600, .inl (u.2.1 0)))])) (va_A [((xa 0), .inr (9, [.ref (xa 1), .ref (xa 2), .ref (xa 3), .ref (xa 4), .ref (xa 5), .ref (xa 6), .ref (xa 7), .ref (xa 8), .ref (xa 9), .int 4, .ref (xa 11), .null, .int 0, .int (-1)])), ((xa 1), .inl (cy 0, 1600, .inl f))] sz) := by
  refine MM.of (by decide) (Nat.le_of_ble_eq_true rfl) ?_
  intro p e s m below meth c C hPW ls hl
  obtain ⟨hx, hb, hr, hml, hown, hts, hlocks, hK, hnm⟩ := C
  obtain ⟨rfl, hP, hD0⟩ := hPW
  have hD := hD0.self (sz := s.heap.size)
  have hA : ∀ q : Nat, s.heap.size ≤ q → (va_A [((xa 0), .inr (9, [.ref (xa 1), .ref (xa 2), .ref (xa 3), .ref (xa 4), .ref (xa 5), .ref (xa 6), .ref (xa 7), .ref (xa 8), .ref (xa 9), .int 4, .ref (xa 11), .null, .int 0, .int (-1)])), ((xa 1), .inl (cy 0, 1600, .inl f))] s.heap.size) q := fun q h => Or.inr h
  have hS : va_S (va_A [((xa 0), .inr (9, [.ref (xa 1), .ref (xa 2), .ref (xa 3), .ref (xa 4), .ref (xa 5), .ref (xa 6), .ref (xa 7), .ref (xa 8), .ref (xa 9), .int 4, .ref (xa 11), .null, .int 0, .int (-1)])), ((xa 1), .inl (cy 0, 1600, .inl f))] s.heap.size) s.heap s.heap [] := va_S.rf
  generalize va_A [((xa 0), .inr (9, [.ref (xa 1), .ref (xa 2), .ref (xa 3), .ref (xa 4), .ref (xa 5), .ref (xa 6), .ref (xa 7), .ref (xa 8), .ref (xa 9), .int 4, .ref (xa 11), .null, .int 0, .int (-1)])), ((xa 1), .inl (cy 0, 1600, .inl f))] s.heap.size = A at hD hA hS ⊢
  have hP : va_P D vwCl [((xa 0), .inr (9, [.ref (xa 1), .ref (xa 2), .ref (xa 3), .ref (xa 4), .ref (xa 5), .ref (xa 6), .ref (xa 7), .ref (xa 8), .ref (xa 9), .int 4, .ref (xa 11), .null, .int 0, .int (-1)])), ((xa 1), .inl (cy 0, 1600, .inl f))] s.heap := hP
  have hl : lv_has ls 3 [(0, .ref (xa 0)), (1, .int n0)] := hl
  refine lv_bipush (v := 24) hx hb dX9_tapeFour_0 (by decide) ?_
  refine lv_istore_n (lv' := [(2, .int 24), (0, .ref (xa 0)), (1, .int n0)]) hx hb dX9_tapeFour_2 rfl hl (by decide) rfl (fun ls hl => ?_)
  refine lv_iload_n hx hb dX9_tapeFour_3 rfl (lv_at hl 0 rfl) ?_
  refine lv_if_lt (tgt := 46) hx hb dX9_tapeFour_4 (by decide) (fun c_1 => absurd c_1 (by decide)) (fun _ => ?_)
  refine lv_aload_n hx hb dX9_tapeFour_7 rfl (lv_at hl 1 rfl) ?_
  refine va_get (D := D) (ci := 9) (v := .int 4) (C := RX9) (T := TX9) (N := 14) hx hb hts lay_X9 hown hK.1 hP 0 rfl rfl 9 (by decide) (hts _ fl_X9_75) (fun _ h9 => h9) rfl dX9_tapeFour_8 ?_
  refine lv_sipush (v := 1600) hx hb dX9_tapeFour_11 (by decide) ?_
  refine lv_icmp_ge (tgt := 40) hx hb dX9_tapeFour_14 (by decide) (fun c_2 => absurd c_2 (by decide)) (fun _ => ?_)
  refine lv_aload_n hx hb dX9_tapeFour_17 rfl (lv_at hl 1 rfl) ?_
  refine va_get (D := D) (ci := 9) (v := .ref (xa 1)) (C := RX9) (T := TX9) (N := 14) hx hb hts lay_X9 hown hK.1 hP 0 rfl rfl 0 (by decide) (hts _ fl_X9_9) (fun _ h9 => h9) rfl dX9_tapeFour_18 ?_
  refine lv_aload_n hx hb dX9_tapeFour_21 rfl (lv_at hl 1 rfl) ?_
  refine va_get (D := D) (ci := 9) (v := .int 4) (C := RX9) (T := TX9) (N := 14) hx hb hts lay_X9 hown hK.1 hP 0 rfl rfl 9 (by decide) (hts _ fl_X9_75) (fun _ h9 => h9) rfl dX9_tapeFour_22 ?_
  refine lv_iload_n hx hb dX9_tapeFour_25 rfl (lv_at hl 2 rfl) ?_
  refine lv_iload_n hx hb dX9_tapeFour_26 rfl (lv_at hl 0 rfl) ?_
  refine lv_ishr hx hb dX9_tapeFour_27 ?_
  refine lv_topi (fun z_3 ez_3 => ?_)
  refine lv_i2b hx hb dX9_tapeFour_28 rfl ?_
  refine lv_topi (fun z_4 ez_4 => ?_)
  refine va_bast hx hb hK.1 hP hD hS 1 0 rfl rfl (i := 4) (vp_in_iff.mpr (by decide)) dX9_tapeFour_29 (fun H locs hP hD hS => ?_)
  have hP : va_P D vwCl [((xa 0), .inr (9, [.ref (xa 1), .ref (xa 2), .ref (xa 3), .ref (xa 4), .ref (xa 5), .ref (xa 6), .ref (xa 7), .ref (xa 8), .ref (xa 9), .int 4, .ref (xa 11), .null, .int 0, .int (-1)])), ((xa 1), .inl (cy 0, 1600, .inl (upd f 4 (vp_nar .byte z_4))))] H := hP
  have hD : va_D A [((xa 0), .inr (9, [.ref (xa 1), .ref (xa 2), .ref (xa 3), .ref (xa 4), .ref (xa 5), .ref (xa 6), .ref (xa 7), .ref (xa 8), .ref (xa 9), .int 4, .ref (xa 11), .null, .int 0, .int (-1)])), ((xa 1), .inl (cy 0, 1600, .inl (upd f 4 (vp_nar .byte z_4))))] := hD
  generalize (upd f 4 (vp_nar .byte z_4)) = f_5 at hP hD
  refine lv_aload_n hx hb dX9_tapeFour_30 rfl (lv_at hl 1 rfl) ?_
  refine lv_dup hx hb dX9_tapeFour_31 rfl ?_
  refine va_get (D := D) (ci := 9) (v := .int 4) (C := RX9) (T := TX9) (N := 14) hx hb hts lay_X9 hown hK.1 hP 0 rfl rfl 9 (by decide) (hts _ fl_X9_75) (fun _ h9 => h9) rfl dX9_tapeFour_32 ?_
  refine lv_iconst (v := 1) hx hb dX9_tapeFour_35 (by decide) ?_
  refine lv_iadd hx hb dX9_tapeFour_36 ?_
  refine lv_topi (fun z_6 ez_6 => ?_)
  have ez_6 : z_6 = 5 := ez_6.trans (by decide)
  subst ez_6
  refine va_put (D := D) (ci := 9) (v := .int 5) (ty := tyX9 9) (C := RX9) (T := TX9) (N := 14) hx hb hts lay_X9 tyX9 tyX9_ok nmX9 hown hK.1 hP hD hS 0 rfl rfl 9 (by decide) (hts _ fl_X9_75) (fun _ h9 => h9) rfl (tyX9_ok 9 (by decide)) rfl rfl (Nat.le_of_ble_eq_true rfl) dX9_tapeFour_37 (fun H locs hP hD hS => ?_)
  have hP : va_P D vwCl [((xa 0), .inr (9, [.ref (xa 1), .ref (xa 2), .ref (xa 3), .ref (xa 4), .ref (xa 5), .ref (xa 6), .ref (xa 7), .ref (xa 8), .ref (xa 9), .int 5, .ref (xa 11), .null, .int 0, .int (-1)])), ((xa 1), .inl (cy 0, 1600, .inl f_5))] H := hP
  have hD : va_D A [((xa 0), .inr (9, [.ref (xa 1), .ref (xa 2), .ref (xa 3), .ref (xa 4), .ref (xa 5), .ref (xa 6), .ref (xa 7), .ref (xa 8), .ref (xa 9), .int 5, .ref (xa 11), .null, .int 0, .int (-1)])), ((xa 1), .inl (cy 0, 1600, .inl f_5))] := hD
  refine lv_iinc (v := 16) (lv' := [(2, .int 16), (0, .ref (xa 0)), (1, .int n0)]) hx hb dX9_tapeFour_40 hl (k := 0) rfl (by decide) (by decide) rfl (fun ls hl => ?_)
  refine lv_goto (tgt := 3) hx hb dX9_tapeFour_43 (by decide) ?_
  refine lv_iload_n hx hb dX9_tapeFour_3 rfl (lv_at hl 0 rfl) ?_
  refine lv_if_lt (tgt := 46) hx hb dX9_tapeFour_4 (by decide) (fun c_8 => absurd c_8 (by decide)) (fun _ => ?_)
  refine lv_aload_n hx hb dX9_tapeFour_7 rfl (lv_at hl 1 rfl) ?_
  refine va_get (D := D) (ci := 9) (v := .int 5) (C := RX9) (T := TX9) (N := 14) hx hb hts lay_X9 hown hK.1 hP 0 rfl rfl 9 (by decide) (hts _ fl_X9_75) (fun _ h9 => h9) rfl dX9_tapeFour_8 ?_
  refine lv_sipush (v := 1600) hx hb dX9_tapeFour_11 (by decide) ?_
  refine lv_icmp_ge (tgt := 40) hx hb dX9_tapeFour_14 (by decide) (fun c_9 => absurd c_9 (by decide)) (fun _ => ?_)
  refine lv_aload_n hx hb dX9_tapeFour_17 rfl (lv_at hl 1 rfl) ?_
  refine va_get (D := D) (ci := 9) (v := .ref (xa 1)) (C := RX9) (T := TX9) (N := 14) hx hb hts lay_X9 hown hK.1 hP 0 rfl rfl 0 (by decide) (hts _ fl_X9_9) (fun _ h9 => h9) rfl dX9_tapeFour_18 ?_
  refine lv_aload_n hx hb dX9_tapeFour_21 rfl (lv_at hl 1 rfl) ?_
  refine va_get (D := D) (ci := 9) (v := .int 5) (C := RX9) (T := TX9) (N := 14) hx hb hts lay_X9 hown hK.1 hP 0 rfl rfl 9 (by decide) (hts _ fl_X9_75) (fun _ h9 => h9) rfl dX9_tapeFour_22 ?_
  refine lv_iload_n hx hb dX9_tapeFour_25 rfl (lv_at hl 2 rfl) ?_
  refine lv_iload_n hx hb dX9_tapeFour_26 rfl (lv_at hl 0 rfl) ?_
  refine lv_ishr hx hb dX9_tapeFour_27 ?_
  refine lv_topi (fun z_10 ez_10 => ?_)
  refine lv_i2b hx hb dX9_tapeFour_28 rfl ?_
  refine lv_topi (fun z_11 ez_11 => ?_)
  refine va_bast hx hb hK.1 hP hD hS 1 0 rfl rfl (i := 5) (vp_in_iff.mpr (by decide)) dX9_tapeFour_29 (fun H locs hP hD hS => ?_)
  have hP : va_P D vwCl [((xa 0), .inr (9, [.ref (xa 1), .ref (xa 2), .ref (xa 3), .ref (xa 4), .ref (xa 5), .ref (xa 6), .ref (xa 7), .ref (xa 8), .ref (xa 9), .int 5, .ref (xa 11), .null, .int 0, .int (-1)])), ((xa 1), .inl (cy 0, 1600, .inl (upd f_5 5 (vp_nar .byte z_11))))] H := hP
  have hD : va_D A [((xa 0), .inr (9, [.ref (xa 1), .ref (xa 2), .ref (xa 3), .ref (xa 4), .ref (xa 5), .ref (xa 6), .ref (xa 7), .ref (xa 8), .ref (xa 9), .int 5, .ref (xa 11), .null, .int 0, .int (-1)])), ((xa 1), .inl (cy 0, 1600, .inl (upd f_5 5 (vp_nar .byte z_11))))] := hD
  generalize (upd f_5 5 (vp_nar .byte z_11)) = f_12 at hP hD
  refine lv_aload_n hx hb dX9_tapeFour_30 rfl (lv_at hl 1 rfl) ?_
  refine lv_dup hx hb dX9_tapeFour_31 rfl ?_
  refine va_get (D := D) (ci := 9) (v := .int 5) (C := RX9) (T := TX9) (N := 14) hx hb hts lay_X9 hown hK.1 hP 0 rfl rfl 9 (by decide) (hts _ fl_X9_75) (fun _ h9 => h9) rfl dX9_tapeFour_32 ?_
  refine lv_iconst (v := 1) hx hb dX9_tapeFour_35 (by decide) ?_
  refine lv_iadd hx hb dX9_tapeFour_36 ?_
  refine lv_topi (fun z_13 ez_13 => ?_)
  have ez_13 : z_13 = 6 := ez_13.trans (by decide)
  subst ez_13
  refine va_put (D := D) (ci := 9) (v := .int 6) (ty := tyX9 9) (C := RX9) (T := TX9) (N := 14) hx hb hts lay_X9 tyX9 tyX9_ok nmX9 hown hK.1 hP hD hS 0 rfl rfl 9 (by decide) (hts _ fl_X9_75) (fun _ h9 => h9) rfl (tyX9_ok 9 (by decide)) rfl rfl (Nat.le_of_ble_eq_true rfl) dX9_tapeFour_37 (fun H locs hP hD hS => ?_)
  have hP : va_P D vwCl [((xa 0), .inr (9, [.ref (xa 1), .ref (xa 2), .ref (xa 3), .ref (xa 4), .ref (xa 5), .ref (xa 6), .ref (xa 7), .ref (xa 8), .ref (xa 9), .int 6, .ref (xa 11), .null, .int 0, .int (-1)])), ((xa 1), .inl (cy 0, 1600, .inl f_12))] H := hP
  have hD : va_D A [((xa 0), .inr (9, [.ref (xa 1), .ref (xa 2), .ref (xa 3), .ref (xa 4), .ref (xa 5), .ref (xa 6), .ref (xa 7), .ref (xa 8), .ref (xa 9), .int 6, .ref (xa 11), .null, .int 0, .int (-1)])), ((xa 1), .inl (cy 0, 1600, .inl f_12))] := hD
  refine lv_iinc (v := 8) (lv' := [(2, .int 8), (0, .ref (xa 0)), (1, .int n0)]) hx hb dX9_tapeFour_40 hl (k := 0) rfl (by decide) (by decide) rfl (fun ls hl => ?_)
  refine lv_goto (tgt := 3) hx hb dX9_tapeFour_43 (by decide) ?_
  refine lv_iload_n hx hb dX9_tapeFour_3 rfl (lv_at hl 0 rfl) ?_
  refine lv_if_lt (tgt := 46) hx hb dX9_tapeFour_4 (by decide) (fun c_15 => absurd c_15 (by decide)) (fun _ => ?_)
  refine lv_aload_n hx hb dX9_tapeFour_7 rfl (lv_at hl 1 rfl) ?_
  refine va_get (D := D) (ci := 9) (v := .int 6) (C := RX9) (T := TX9) (N := 14) hx hb hts lay_X9 hown hK.1 hP 0 rfl rfl 9 (by decide) (hts _ fl_X9_75) (fun _ h9 => h9) rfl dX9_tapeFour_8 ?_
  refine lv_sipush (v := 1600) hx hb dX9_tapeFour_11 (by decide) ?_
  refine lv_icmp_ge (tgt := 40) hx hb dX9_tapeFour_14 (by decide) (fun c_16 => absurd c_16 (by decide)) (fun _ => ?_)
  refine lv_aload_n hx hb dX9_tapeFour_17 rfl (lv_at hl 1 rfl) ?_
  refine va_get (D := D) (ci := 9) (v := .ref (xa 1)) (C := RX9) (T := TX9) (N := 14) hx hb hts lay_X9 hown hK.1 hP 0 rfl rfl 0 (by decide) (hts _ fl_X9_9) (fun _ h9 => h9) rfl dX9_tapeFour_18 ?_
  refine lv_aload_n hx hb dX9_tapeFour_21 rfl (lv_at hl 1 rfl) ?_
  refine va_get (D := D) (ci := 9) (v := .int 6) (C := RX9) (T := TX9) (N := 14) hx hb hts lay_X9 hown hK.1 hP 0 rfl rfl 9 (by decide) (hts _ fl_X9_75) (fun _ h9 => h9) rfl dX9_tapeFour_22 ?_
  refine lv_iload_n hx hb dX9_tapeFour_25 rfl (lv_at hl 2 rfl) ?_
  refine lv_iload_n hx hb dX9_tapeFour_26 rfl (lv_at hl 0 rfl) ?_
  refine lv_ishr hx hb dX9_tapeFour_27 ?_
  refine lv_topi (fun z_17 ez_17 => ?_)
  refine lv_i2b hx hb dX9_tapeFour_28 rfl ?_
  refine lv_topi (fun z_18 ez_18 => ?_)
  refine va_bast hx hb hK.1 hP hD hS 1 0 rfl rfl (i := 6) (vp_in_iff.mpr (by decide)) dX9_tapeFour_29 (fun H locs hP hD hS => ?_)
  have hP : va_P D vwCl [((xa 0), .inr (9, [.ref (xa 1), .ref (xa 2), .ref (xa 3), .ref (xa 4), .ref (xa 5), .ref (xa 6), .ref (xa 7), .ref (xa 8), .ref (xa 9), .int 6, .ref (xa 11), .null, .int 0, .int (-1)])), ((xa 1), .inl (cy 0, 1600, .inl (upd f_12 6 (vp_nar .byte z_18))))] H := hP
  have hD : va_D A [((xa 0), .inr (9, [.ref (xa 1), .ref (xa 2), .ref (xa 3), .ref (xa 4), .ref (xa 5), .ref (xa 6), .ref (xa 7), .ref (xa 8), .ref (xa 9), .int 6, .ref (xa 11), .null, .int 0, .int (-1)])), ((xa 1), .inl (cy 0, 1600, .inl (upd f_12 6 (vp_nar .byte z_18))))] := hD
  generalize (upd f_12 6 (vp_nar .byte z_18)) = f_19 at hP hD
  refine lv_aload_n hx hb dX9_tapeFour_30 rfl (lv_at hl 1 rfl) ?_
  refine lv_dup hx hb dX9_tapeFour_31 rfl ?_
  refine va_get (D := D) (ci := 9) (v := .int 6) (C := RX9) (T := TX9) (N := 14) hx hb hts lay_X9 hown hK.1 hP 0 rfl rfl 9 (by decide) (hts _ fl_X9_75) (fun _ h9 => h9) rfl dX9_tapeFour_32 ?_
  refine lv_iconst (v := 1) hx hb dX9_tapeFour_35 (by decide) ?_
  refine lv_iadd hx hb dX9_tapeFour_36 ?_
  refine lv_topi (fun z_20 ez_20 => ?_)
  have ez_20 : z_20 = 7 := ez_20.trans (by decide)
  subst ez_20
  refine va_put (D := D) (ci := 9) (v := .int 7) (ty := tyX9 9) (C := RX9) (T := TX9) (N := 14) hx hb hts lay_X9 tyX9 tyX9_ok nmX9 hown hK.1 hP hD hS 0 rfl rfl 9 (by decide) (hts _ fl_X9_75) (fun _ h9 => h9) rfl (tyX9_ok 9 (by decide)) rfl rfl (Nat.le_of_ble_eq_true rfl) dX9_tapeFour_37 (fun H locs hP hD hS => ?_)
  have hP : va_P D vwCl [((xa 0), .inr (9, [.ref (xa 1), .ref (xa 2), .ref (xa 3), .ref (xa 4), .ref (xa 5), .ref (xa 6), .ref (xa 7), .ref (xa 8), .ref (xa 9), .int 7, .ref (xa 11), .null, .int 0, .int (-1)])), ((xa 1), .inl (cy 0, 1600, .inl f_19))] H := hP
  have hD : va_D A [((xa 0), .inr (9, [.ref (xa 1), .ref (xa 2), .ref (xa 3), .ref (xa 4), .ref (xa 5), .ref (xa 6), .ref (xa 7), .ref (xa 8), .ref (xa 9), .int 7, .ref (xa 11), .null, .int 0, .int (-1)])), ((xa 1), .inl (cy 0, 1600, .inl f_19))] := hD
  refine lv_iinc (v := 0) (lv' := [(2, .int 0), (0, .ref (xa 0)), (1, .int n0)]) hx hb dX9_tapeFour_40 hl (k := 0) rfl (by decide) (by decide) rfl (fun ls hl => ?_)
  refine lv_goto (tgt := 3) hx hb dX9_tapeFour_43 (by decide) ?_
  refine lv_iload_n hx hb dX9_tapeFour_3 rfl (lv_at hl 0 rfl) ?_
  refine lv_if_lt (tgt := 46) hx hb dX9_tapeFour_4 (by decide) (fun c_22 => absurd c_22 (by decide)) (fun _ => ?_)
  refine lv_aload_n hx hb dX9_tapeFour_7 rfl (lv_at hl 1 rfl) ?_
  refine va_get (D := D) (ci := 9) (v := .int 7) (C := RX9) (T := TX9) (N := 14) hx hb hts lay_X9 hown hK.1 hP 0 rfl rfl 9 (by decide) (hts _ fl_X9_75) (fun _ h9 => h9) rfl dX9_tapeFour_8 ?_
  refine lv_sipush (v := 1600) hx hb dX9_tapeFour_11 (by decide) ?_
  refine lv_icmp_ge (tgt := 40) hx hb dX9_tapeFour_14 (by decide) (fun c_23 => absurd c_23 (by decide)) (fun _ => ?_)
  refine lv_aload_n hx hb dX9_tapeFour_17 rfl (lv_at hl 1 rfl) ?_
  refine va_get (D := D) (ci := 9) (v := .ref (xa 1)) (C := RX9) (T := TX9) (N := 14) hx hb hts lay_X9 hown hK.1 hP 0 rfl rfl 0 (by decide) (hts _ fl_X9_9) (fun _ h9 => h9) rfl dX9_tapeFour_18 ?_
  refine lv_aload_n hx hb dX9_tapeFour_21 rfl (lv_at hl 1 rfl) ?_
  refine va_get (D := D) (ci := 9) (v := .int 7) (C := RX9) (T := TX9) (N := 14) hx hb hts lay_X9 hown hK.1 hP 0 rfl rfl 9 (by decide) (hts _ fl_X9_75) (fun _ h9 => h9) rfl dX9_tapeFour_22 ?_
  refine lv_iload_n hx hb dX9_tapeFour_25 rfl (lv_at hl 2 rfl) ?_
  refine lv_iload_n hx hb dX9_tapeFour_26 rfl (lv_at hl 0 rfl) ?_
  refine lv_ishr hx hb dX9_tapeFour_27 ?_
  refine lv_topi (fun z_24 ez_24 => ?_)
  refine lv_i2b hx hb dX9_tapeFour_28 rfl ?_
  refine lv_topi (fun z_25 ez_25 => ?_)
  refine va_bast hx hb hK.1 hP hD hS 1 0 rfl rfl (i := 7) (vp_in_iff.mpr (by decide)) dX9_tapeFour_29 (fun H locs hP hD hS => ?_)
  have hP : va_P D vwCl [((xa 0), .inr (9, [.ref (xa 1), .ref (xa 2), .ref (xa 3), .ref (xa 4), .ref (xa 5), .ref (xa 6), .ref (xa 7), .ref (xa 8), .ref (xa 9), .int 7, .ref (xa 11), .null, .int 0, .int (-1)])), ((xa 1), .inl (cy 0, 1600, .inl (upd f_19 7 (vp_nar .byte z_25))))] H := hP
  have hD : va_D A [((xa 0), .inr (9, [.ref (xa 1), .ref (xa 2), .ref (xa 3), .ref (xa 4), .ref (xa 5), .ref (xa 6), .ref (xa 7), .ref (xa 8), .ref (xa 9), .int 7, .ref (xa 11), .null, .int 0, .int (-1)])), ((xa 1), .inl (cy 0, 1600, .inl (upd f_19 7 (vp_nar .byte z_25))))] := hD
  generalize (upd f_19 7 (vp_nar .byte z_25)) = f_26 at hP hD
  refine lv_aload_n hx hb dX9_tapeFour_30 rfl (lv_at hl 1 rfl) ?_
  refine lv_dup hx hb dX9_tapeFour_31 rfl ?_
  refine va_get (D := D) (ci := 9) (v := .int 7) (C := RX9) (T := TX9) (N := 14) hx hb hts lay_X9 hown hK.1 hP 0 rfl rfl 9 (by decide) (hts _ fl_X9_75) (fun _ h9 => h9) rfl dX9_tapeFour_32 ?_
  refine lv_iconst (v := 1) hx hb dX9_tapeFour_35 (by decide) ?_
  refine lv_iadd hx hb dX9_tapeFour_36 ?_
  refine lv_topi (fun z_27 ez_27 => ?_)
  have ez_27 : z_27 = 8 := ez_27.trans (by decide)
  subst ez_27
  refine va_put (D := D) (ci := 9) (v := .int 8) (ty := tyX9 9) (C := RX9) (T := TX9) (N := 14) hx hb hts lay_X9 tyX9 tyX9_ok nmX9 hown hK.1 hP hD hS 0 rfl rfl 9 (by decide) (hts _ fl_X9_75) (fun _ h9 => h9) rfl (tyX9_ok 9 (by decide)) rfl rfl (Nat.le_of_ble_eq_true rfl) dX9_tapeFour_37 (fun H locs hP hD hS => ?_)
  have hP : va_P D vwCl [((xa 0), .inr (9, [.ref (xa 1), .ref (xa 2), .ref (xa 3), .ref (xa 4), .ref (xa 5), .ref (xa 6), .ref (xa 7), .ref (xa 8), .ref (xa 9), .int 8, .ref (xa 11), .null, .int 0, .int (-1)])), ((xa 1), .inl (cy 0, 1600, .inl f_26))] H := hP
  have hD : va_D A [((xa 0), .inr (9, [.ref (xa 1), .ref (xa 2), .ref (xa 3), .ref (xa 4), .ref (xa 5), .ref (xa 6), .ref (xa 7), .ref (xa 8), .ref (xa 9), .int 8, .ref (xa 11), .null, .int 0, .int (-1)])), ((xa 1), .inl (cy 0, 1600, .inl f_26))] := hD
  refine lv_iinc (v := (-8)) (lv' := [(2, .int (-8)), (0, .ref (xa 0)), (1, .int n0)]) hx hb dX9_tapeFour_40 hl (k := 0) rfl (by decide) (by decide) rfl (fun ls hl => ?_)
  refine lv_goto (tgt := 3) hx hb dX9_tapeFour_43 (by decide) ?_
  refine lv_iload_n hx hb dX9_tapeFour_3 rfl (lv_at hl 0 rfl) ?_
  refine lv_if_lt (tgt := 46) hx hb dX9_tapeFour_4 (by decide) (fun _ => ?_) (fun c_29 => absurd (by decide) c_29)
  exact ret_v hx hb hr hlocks ⟨⟨hS.1, hS.2.1⟩, ((fun _ => 0), (fun k => match k with | 0 => f_26 | _ => (fun _ => 0)), (fun _ => (fun _ => 0)), (fun _ => 0)), rfl, hP.sub [0, 1] rfl, hD.sub [0, 1] (by decide) rfl⟩ hS.2.2 (Nat.le_of_ble_eq_true rfl) (Nat.le_of_ble_eq_true rfl) dX9_tapeFour_46
set_option maxHeartbeats 4000000 in
set_option maxRecDepth 100000 in
theorem four_4 (l : Launch) (D : va_G) (cy : Nat → ClassId) (ma : Nat → Nat) (f : Nat → Int32) (n0 : Int32) (sz : Nat) : MM l yX10_four cX10_four 3 none 0 0 0 D cy [.ref (ma 0), .int n0] (PW D [((ma 0), .inr (10, [.int 0, .ref (ma 1), .ref (ma 2), .ref (ma 3), .ref (ma 4), .ref (ma 5), .int 4, .int 0, .int 0, .int 0, .int 0, .long 0, .int 0, .int 0, .int 0, .int (-1), .ref (ma 16), .ref (ma 17), .ref (ma 18), .ref (ma 19), .ref (ma 20), .ref (ma 21), .ref (ma 22), .ref (ma 23), .ref (ma 24), .ref (ma 25), .ref (ma 26), .ref (ma 27), .ref (ma 28), .ref (ma 29), .ref (ma 30), .ref (ma 31), .ref (ma 32), .ref (ma 33), .ref (ma 34), .ref (ma 35), .ref (ma 36), .ref (ma 37), .ref (ma 38), .ref (ma 39), .ref (ma 40), .ref (ma 41), .long 0])), ((ma 5), .inl (cy 0, 1600, .inl f))] sz) (QW D (va_A [((ma 0), .inr (10, [.int 0, .ref (ma 1), .ref (ma 2), .ref (ma 3), .ref (ma 4), .ref (ma 5), .int 4, .int 0, .int 0, .int 0, .int 0, .long 0, .int 0, .int 0, .int 0, .int (-1), .ref (ma 16), .ref (ma 17), .ref (ma 18), .ref (ma 19), .ref (ma 20), .ref (ma 21), .ref (ma 22), .ref (ma 23), .ref (ma 24), .ref (ma 25), .ref (ma 26), .ref (ma 27), .ref (ma 28), .ref (ma 29), .ref (ma 30), .ref (ma 31), .ref (ma 32), .ref (ma 33), .ref (ma 34), .ref (ma 35), .ref (ma 36), .ref (ma 37), .ref (ma 38), .ref (ma 39), .ref (ma 40), .ref (ma 41), .long 0])), ((ma 5), .inl (cy 0, 1600, .inl f))] sz) (S := (Nat → Nat) × (Nat → Nat → Int32) × (Nat → Nat → Int64) × (Nat → Int32)) (fun v u => v = none) (fun u => [((ma 0), .inr (10, [.int 0, .ref (ma 1), .ref (ma 2), .ref (ma 3), .ref (ma 4), .ref (ma 5), .int 8, .int 0, .int 0, .int 0, .int 0, .long 0, .int 0, .int 0, .int 0, .int (-1), .ref (ma 16), .ref (ma 17), .ref (ma 18), .ref (ma 19), .ref (ma 20), .ref (ma 21), .ref (ma 22), .ref (ma 23), .ref (ma 24), .ref (ma 25), .ref (ma 26), .ref (ma 27), .ref (ma 28), .ref (ma 29), .ref (ma 30), .ref (ma 31), .ref (ma 32), .ref (ma 33), .ref (ma 34), .ref (ma 35), .ref (ma 36), .ref (ma 37), .ref (ma 38), .ref (ma 39), .ref (ma 40), .ref (ma 41), .long 0])), ((ma 5), .inl (cy 0, 1600, .inl (u.2.1 0)))])) (va_A [((ma 0), .inr (10, [.int 0, .ref (ma 1), .ref (ma 2), .ref (ma 3), .ref (ma 4), .ref (ma 5), .int 4, .int 0, .int 0, .int 0, .int 0, .long 0, .int 0, .int 0, .int 0, .int (-1), .ref (ma 16), .ref (ma 17), .ref (ma 18), .ref (ma 19), .ref (ma 20), .ref (ma 21), .ref (ma 22), .ref (ma 23), .ref (ma 24), .ref (ma 25), .ref (ma 26), .ref (ma 27), .ref (ma 28), .ref (ma 29), .ref (ma 30), .ref (ma 31), .ref (ma 32), .ref (ma 33), .ref (ma 34), .ref (ma 35), .ref (ma 36), .ref (ma 37), .ref (ma 38), .ref (ma 39), .ref (ma 40), .ref (ma 41), .long 0])), ((ma 5), .inl (cy 0, 1600, .inl f))] sz) := by
  refine MM.of (by decide) (Nat.le_of_ble_eq_true rfl) ?_
  intro p e s m below meth c C hPW ls hl
  obtain ⟨hx, hb, hr, hml, hown, hts, hlocks, hK, hnm⟩ := C
  obtain ⟨rfl, hP, hD0⟩ := hPW
  have hD := hD0.self (sz := s.heap.size)
  have hA : ∀ q : Nat, s.heap.size ≤ q → (va_A [((ma 0), .inr (10, [.int 0, .ref (ma 1), .ref (ma 2), .ref (ma 3), .ref (ma 4), .ref (ma 5), .int 4, .int 0, .int 0, .int 0, .int 0, .long 0, .int 0, .int 0, .int 0, .int (-1), .ref (ma 16), .ref (ma 17), .ref (ma 18), .ref (ma 19), .ref (ma 20), .ref (ma 21), .ref (ma 22), .ref (ma 23), .ref (ma 24), .ref (ma 25), .ref (ma 26), .ref (ma 27), .ref (ma 28), .ref (ma 29), .ref (ma 30), .ref (ma 31), .ref (ma 32), .ref (ma 33), .ref (ma 34), .ref (ma 35), .ref (ma 36), .ref (ma 37), .ref (ma 38), .ref (ma 39), .ref (ma 40), .ref (ma 41), .long 0])), ((ma 5), .inl (cy 0, 1600, .inl f))] s.heap.size) q := fun q h => Or.inr h
  have hS : va_S (va_A [((ma 0), .inr (10, [.int 0, .ref (ma 1), .ref (ma 2), .ref (ma 3), .ref (ma 4), .ref (ma 5), .int 4, .int 0, .int 0, .int 0, .int 0, .long 0, .int 0, .int 0, .int 0, .int (-1), .ref (ma 16), .ref (ma 17), .ref (ma 18), .ref (ma 19), .ref (ma 20), .ref (ma 21), .ref (ma 22), .ref (ma 23), .ref (ma 24), .ref (ma 25), .ref (ma 26), .ref (ma 27), .ref (ma 28), .ref (ma 29), .ref (ma 30), .ref (ma 31), .ref (ma 32), .ref (ma 33), .ref (ma 34), .ref (ma 35), .ref (ma 36), .ref (ma 37), .ref (ma 38), .ref (ma 39), .ref (ma 40), .ref (ma 41), .long 0])), ((ma 5), .inl (cy 0, 1600, .inl f))] s.heap.size) s.heap s.heap [] := va_S.rf
  generalize va_A [((ma 0), .inr (10, [.int 0, .ref (ma 1), .ref (ma 2), .ref (ma 3), .ref (ma 4), .ref (ma 5), .int 4, .int 0, .int 0, .int 0, .int 0, .long 0, .int 0, .int 0, .int 0, .int (-1), .ref (ma 16), .ref (ma 17), .ref (ma 18), .ref (ma 19), .ref (ma 20), .ref (ma 21), .ref (ma 22), .ref (ma 23), .ref (ma 24), .ref (ma 25), .ref (ma 26), .ref (ma 27), .ref (ma 28), .ref (ma 29), .ref (ma 30), .ref (ma 31), .ref (ma 32), .ref (ma 33), .ref (ma 34), .ref (ma 35), .ref (ma 36), .ref (ma 37), .ref (ma 38), .ref (ma 39), .ref (ma 40), .ref (ma 41), .long 0])), ((ma 5), .inl (cy 0, 1600, .inl f))] s.heap.size = A at hD hA hS ⊢
  have hP : va_P D vwCl [((ma 0), .inr (10, [.int 0, .ref (ma 1), .ref (ma 2), .ref (ma 3), .ref (ma 4), .ref (ma 5), .int 4, .int 0, .int 0, .int 0, .int 0, .long 0, .int 0, .int 0, .int 0, .int (-1), .ref (ma 16), .ref (ma 17), .ref (ma 18), .ref (ma 19), .ref (ma 20), .ref (ma 21), .ref (ma 22), .ref (ma 23), .ref (ma 24), .ref (ma 25), .ref (ma 26), .ref (ma 27), .ref (ma 28), .ref (ma 29), .ref (ma 30), .ref (ma 31), .ref (ma 32), .ref (ma 33), .ref (ma 34), .ref (ma 35), .ref (ma 36), .ref (ma 37), .ref (ma 38), .ref (ma 39), .ref (ma 40), .ref (ma 41), .long 0])), ((ma 5), .inl (cy 0, 1600, .inl f))] s.heap := hP
  have hl : lv_has ls 3 [(0, .ref (ma 0)), (1, .int n0)] := hl
  refine lv_bipush (v := 24) hx hb dX10_four_0 (by decide) ?_
  refine lv_istore_n (lv' := [(2, .int 24), (0, .ref (ma 0)), (1, .int n0)]) hx hb dX10_four_2 rfl hl (by decide) rfl (fun ls hl => ?_)
  refine lv_iload_n hx hb dX10_four_3 rfl (lv_at hl 0 rfl) ?_
  refine lv_if_lt (tgt := 36) hx hb dX10_four_4 (by decide) (fun c_1 => absurd c_1 (by decide)) (fun _ => ?_)
  refine lv_aload_n hx hb dX10_four_7 rfl (lv_at hl 1 rfl) ?_
  refine va_get (D := D) (ci := 10) (v := .ref (ma 5)) (C := RX10) (T := TX10) (N := 43) hx hb hts lay_X10 hown hK.1 hP 0 rfl rfl 5 (by decide) (hts _ fl_X10_23) (fun _ h9 => h9) rfl dX10_four_8 ?_
  refine lv_aload_n hx hb dX10_four_11 rfl (lv_at hl 1 rfl) ?_
  refine va_get (D := D) (ci := 10) (v := .int 4) (C := RX10) (T := TX10) (N := 43) hx hb hts lay_X10 hown hK.1 hP 0 rfl rfl 6 (by decide) (hts _ fl_X10_128) (fun _ h9 => h9) rfl dX10_four_12 ?_
  refine lv_iload_n hx hb dX10_four_15 rfl (lv_at hl 2 rfl) ?_
  refine lv_iload_n hx hb dX10_four_16 rfl (lv_at hl 0 rfl) ?_
  refine lv_ishr hx hb dX10_four_17 ?_
  refine lv_topi (fun z_2 ez_2 => ?_)
  refine lv_i2b hx hb dX10_four_18 rfl ?_
  refine lv_topi (fun z_3 ez_3 => ?_)
  refine va_bast hx hb hK.1 hP hD hS 1 0 rfl rfl (i := 4) (vp_in_iff.mpr (by decide)) dX10_four_19 (fun H locs hP hD hS => ?_)
  have hP : va_P D vwCl [((ma 0), .inr (10, [.int 0, .ref (ma 1), .ref (ma 2), .ref (ma 3), .ref (ma 4), .ref (ma 5), .int 4, .int 0, .int 0, .int 0, .int 0, .long 0, .int 0, .int 0, .int 0, .int (-1), .ref (ma 16), .ref (ma 17), .ref (ma 18), .ref (ma 19), .ref (ma 20), .ref (ma 21), .ref (ma 22), .ref (ma 23), .ref (ma 24), .ref (ma 25), .ref (ma 26), .ref (ma 27), .ref (ma 28), .ref (ma 29), .ref (ma 30), .ref (ma 31), .ref (ma 32), .ref (ma 33), .ref (ma 34), .ref (ma 35), .ref (ma 36), .ref (ma 37), .ref (ma 38), .ref (ma 39), .ref (ma 40), .ref (ma 41), .long 0])), ((ma 5), .inl (cy 0, 1600, .inl (upd f 4 (vp_nar .byte z_3))))] H := hP
  have hD : va_D A [((ma 0), .inr (10, [.int 0, .ref (ma 1), .ref (ma 2), .ref (ma 3), .ref (ma 4), .ref (ma 5), .int 4, .int 0, .int 0, .int 0, .int 0, .long 0, .int 0, .int 0, .int 0, .int (-1), .ref (ma 16), .ref (ma 17), .ref (ma 18), .ref (ma 19), .ref (ma 20), .ref (ma 21), .ref (ma 22), .ref (ma 23), .ref (ma 24), .ref (ma 25), .ref (ma 26), .ref (ma 27), .ref (ma 28), .ref (ma 29), .ref (ma 30), .ref (ma 31), .ref (ma 32), .ref (ma 33), .ref (ma 34), .ref (ma 35), .ref (ma 36), .ref (ma 37), .ref (ma 38), .ref (ma 39), .ref (ma 40), .ref (ma 41), .long 0])), ((ma 5), .inl (cy 0, 1600, .inl (upd f 4 (vp_nar .byte z_3))))] := hD
  generalize (upd f 4 (vp_nar .byte z_3)) = f_4 at hP hD
  refine lv_aload_n hx hb dX10_four_20 rfl (lv_at hl 1 rfl) ?_
  refine lv_dup hx hb dX10_four_21 rfl ?_
  refine va_get (D := D) (ci := 10) (v := .int 4) (C := RX10) (T := TX10) (N := 43) hx hb hts lay_X10 hown hK.1 hP 0 rfl rfl 6 (by decide) (hts _ fl_X10_128) (fun _ h9 => h9) rfl dX10_four_22 ?_
  refine lv_iconst (v := 1) hx hb dX10_four_25 (by decide) ?_
  refine lv_iadd hx hb dX10_four_26 ?_
  refine lv_topi (fun z_5 ez_5 => ?_)
  have ez_5 : z_5 = 5 := ez_5.trans (by decide)
  subst ez_5
  refine va_put (D := D) (ci := 10) (v := .int 5) (ty := tyX10 6) (C := RX10) (T := TX10) (N := 43) hx hb hts lay_X10 tyX10 tyX10_ok nmX10 hown hK.1 hP hD hS 0 rfl rfl 6 (by decide) (hts _ fl_X10_128) (fun _ h9 => h9) rfl (tyX10_ok 6 (by decide)) rfl rfl (Nat.le_of_ble_eq_true rfl) dX10_four_27 (fun H locs hP hD hS => ?_)
  have hP : va_P D vwCl [((ma 0), .inr (10, [.int 0, .ref (ma 1), .ref (ma 2), .ref (ma 3), .ref (ma 4), .ref (ma 5), .int 5, .int 0, .int 0, .int 0, .int 0, .long 0, .int 0, .int 0, .int 0, .int (-1), .ref (ma 16), .ref (ma 17), .ref (ma 18), .ref (ma 19), .ref (ma 20), .ref (ma 21), .ref (ma 22), .ref (ma 23), .ref (ma 24), .ref (ma 25), .ref (ma 26), .ref (ma 27), .ref (ma 28), .ref (ma 29), .ref (ma 30), .ref (ma 31), .ref (ma 32), .ref (ma 33), .ref (ma 34), .ref (ma 35), .ref (ma 36), .ref (ma 37), .ref (ma 38), .ref (ma 39), .ref (ma 40), .ref (ma 41), .long 0])), ((ma 5), .inl (cy 0, 1600, .inl f_4))] H := hP
  have hD : va_D A [((ma 0), .inr (10, [.int 0, .ref (ma 1), .ref (ma 2), .ref (ma 3), .ref (ma 4), .ref (ma 5), .int 5, .int 0, .int 0, .int 0, .int 0, .long 0, .int 0, .int 0, .int 0, .int (-1), .ref (ma 16), .ref (ma 17), .ref (ma 18), .ref (ma 19), .ref (ma 20), .ref (ma 21), .ref (ma 22), .ref (ma 23), .ref (ma 24), .ref (ma 25), .ref (ma 26), .ref (ma 27), .ref (ma 28), .ref (ma 29), .ref (ma 30), .ref (ma 31), .ref (ma 32), .ref (ma 33), .ref (ma 34), .ref (ma 35), .ref (ma 36), .ref (ma 37), .ref (ma 38), .ref (ma 39), .ref (ma 40), .ref (ma 41), .long 0])), ((ma 5), .inl (cy 0, 1600, .inl f_4))] := hD
  refine lv_iinc (v := 16) (lv' := [(2, .int 16), (0, .ref (ma 0)), (1, .int n0)]) hx hb dX10_four_30 hl (k := 0) rfl (by decide) (by decide) rfl (fun ls hl => ?_)
  refine lv_goto (tgt := 3) hx hb dX10_four_33 (by decide) ?_
  refine lv_iload_n hx hb dX10_four_3 rfl (lv_at hl 0 rfl) ?_
  refine lv_if_lt (tgt := 36) hx hb dX10_four_4 (by decide) (fun c_7 => absurd c_7 (by decide)) (fun _ => ?_)
  refine lv_aload_n hx hb dX10_four_7 rfl (lv_at hl 1 rfl) ?_
  refine va_get (D := D) (ci := 10) (v := .ref (ma 5)) (C := RX10) (T := TX10) (N := 43) hx hb hts lay_X10 hown hK.1 hP 0 rfl rfl 5 (by decide) (hts _ fl_X10_23) (fun _ h9 => h9) rfl dX10_four_8 ?_
  refine lv_aload_n hx hb dX10_four_11 rfl (lv_at hl 1 rfl) ?_
  refine va_get (D := D) (ci := 10) (v := .int 5) (C := RX10) (T := TX10) (N := 43) hx hb hts lay_X10 hown hK.1 hP 0 rfl rfl 6 (by decide) (hts _ fl_X10_128) (fun _ h9 => h9) rfl dX10_four_12 ?_
  refine lv_iload_n hx hb dX10_four_15 rfl (lv_at hl 2 rfl) ?_
  refine lv_iload_n hx hb dX10_four_16 rfl (lv_at hl 0 rfl) ?_
  refine lv_ishr hx hb dX10_four_17 ?_
  refine lv_topi (fun z_8 ez_8 => ?_)
  refine lv_i2b hx hb dX10_four_18 rfl ?_
  refine lv_topi (fun z_9 ez_9 => ?_)
  refine va_bast hx hb hK.1 hP hD hS 1 0 rfl rfl (i := 5) (vp_in_iff.mpr (by decide)) dX10_four_19 (fun H locs hP hD hS => ?_)
  have hP : va_P D vwCl [((ma 0), .inr (10, [.int 0, .ref (ma 1), .ref (ma 2), .ref (ma 3), .ref (ma 4), .ref (ma 5), .int 5, .int 0, .int 0, .int 0, .int 0, .long 0, .int 0, .int 0, .int 0, .int (-1), .ref (ma 16), .ref (ma 17), .ref (ma 18), .ref (ma 19), .ref (ma 20), .ref (ma 21), .ref (ma 22), .ref (ma 23), .ref (ma 24), .ref (ma 25), .ref (ma 26), .ref (ma 27), .ref (ma 28), .ref (ma 29), .ref (ma 30), .ref (ma 31), .ref (ma 32), .ref (ma 33), .ref (ma 34), .ref (ma 35), .ref (ma 36), .ref (ma 37), .ref (ma 38), .ref (ma 39), .ref (ma 40), .ref (ma 41), .long 0])), ((ma 5), .inl (cy 0, 1600, .inl (upd f_4 5 (vp_nar .byte z_9))))] H := hP
  have hD : va_D A [((ma 0), .inr (10, [.int 0, .ref (ma 1), .ref (ma 2), .ref (ma 3), .ref (ma 4), .ref (ma 5), .int 5, .int 0, .int 0, .int 0, .int 0, .long 0, .int 0, .int 0, .int 0, .int (-1), .ref (ma 16), .ref (ma 17), .ref (ma 18), .ref (ma 19), .ref (ma 20), .ref (ma 21), .ref (ma 22), .ref (ma 23), .ref (ma 24), .ref (ma 25), .ref (ma 26), .ref (ma 27), .ref (ma 28), .ref (ma 29), .ref (ma 30), .ref (ma 31), .ref (ma 32), .ref (ma 33), .ref (ma 34), .ref (ma 35), .ref (ma 36), .ref (ma 37), .ref (ma 38), .ref (ma 39), .ref (ma 40), .ref (ma 41), .long 0])), ((ma 5), .inl (cy 0, 1600, .inl (upd f_4 5 (vp_nar .byte z_9))))] := hD
  generalize (upd f_4 5 (vp_nar .byte z_9)) = f_10 at hP hD
  refine lv_aload_n hx hb dX10_four_20 rfl (lv_at hl 1 rfl) ?_
  refine lv_dup hx hb dX10_four_21 rfl ?_
  refine va_get (D := D) (ci := 10) (v := .int 5) (C := RX10) (T := TX10) (N := 43) hx hb hts lay_X10 hown hK.1 hP 0 rfl rfl 6 (by decide) (hts _ fl_X10_128) (fun _ h9 => h9) rfl dX10_four_22 ?_
  refine lv_iconst (v := 1) hx hb dX10_four_25 (by decide) ?_
  refine lv_iadd hx hb dX10_four_26 ?_
  refine lv_topi (fun z_11 ez_11 => ?_)
  have ez_11 : z_11 = 6 := ez_11.trans (by decide)
  subst ez_11
  refine va_put (D := D) (ci := 10) (v := .int 6) (ty := tyX10 6) (C := RX10) (T := TX10) (N := 43) hx hb hts lay_X10 tyX10 tyX10_ok nmX10 hown hK.1 hP hD hS 0 rfl rfl 6 (by decide) (hts _ fl_X10_128) (fun _ h9 => h9) rfl (tyX10_ok 6 (by decide)) rfl rfl (Nat.le_of_ble_eq_true rfl) dX10_four_27 (fun H locs hP hD hS => ?_)
  have hP : va_P D vwCl [((ma 0), .inr (10, [.int 0, .ref (ma 1), .ref (ma 2), .ref (ma 3), .ref (ma 4), .ref (ma 5), .int 6, .int 0, .int 0, .int 0, .int 0, .long 0, .int 0, .int 0, .int 0, .int (-1), .ref (ma 16), .ref (ma 17), .ref (ma 18), .ref (ma 19), .ref (ma 20), .ref (ma 21), .ref (ma 22), .ref (ma 23), .ref (ma 24), .ref (ma 25), .ref (ma 26), .ref (ma 27), .ref (ma 28), .ref (ma 29), .ref (ma 30), .ref (ma 31), .ref (ma 32), .ref (ma 33), .ref (ma 34), .ref (ma 35), .ref (ma 36), .ref (ma 37), .ref (ma 38), .ref (ma 39), .ref (ma 40), .ref (ma 41), .long 0])), ((ma 5), .inl (cy 0, 1600, .inl f_10))] H := hP
  have hD : va_D A [((ma 0), .inr (10, [.int 0, .ref (ma 1), .ref (ma 2), .ref (ma 3), .ref (ma 4), .ref (ma 5), .int 6, .int 0, .int 0, .int 0, .int 0, .long 0, .int 0, .int 0, .int 0, .int (-1), .ref (ma 16), .ref (ma 17), .ref (ma 18), .ref (ma 19), .ref (ma 20), .ref (ma 21), .ref (ma 22), .ref (ma 23), .ref (ma 24), .ref (ma 25), .ref (ma 26), .ref (ma 27), .ref (ma 28), .ref (ma 29), .ref (ma 30), .ref (ma 31), .ref (ma 32), .ref (ma 33), .ref (ma 34), .ref (ma 35), .ref (ma 36), .ref (ma 37), .ref (ma 38), .ref (ma 39), .ref (ma 40), .ref (ma 41), .long 0])), ((ma 5), .inl (cy 0, 1600, .inl f_10))] := hD
  refine lv_iinc (v := 8) (lv' := [(2, .int 8), (0, .ref (ma 0)), (1, .int n0)]) hx hb dX10_four_30 hl (k := 0) rfl (by decide) (by decide) rfl (fun ls hl => ?_)
  refine lv_goto (tgt := 3) hx hb dX10_four_33 (by decide) ?_
  refine lv_iload_n hx hb dX10_four_3 rfl (lv_at hl 0 rfl) ?_
  refine lv_if_lt (tgt := 36) hx hb dX10_four_4 (by decide) (fun c_13 => absurd c_13 (by decide)) (fun _ => ?_)
  refine lv_aload_n hx hb dX10_four_7 rfl (lv_at hl 1 rfl) ?_
  refine va_get (D := D) (ci := 10) (v := .ref (ma 5)) (C := RX10) (T := TX10) (N := 43) hx hb hts lay_X10 hown hK.1 hP 0 rfl rfl 5 (by decide) (hts _ fl_X10_23) (fun _ h9 => h9) rfl dX10_four_8 ?_
  refine lv_aload_n hx hb dX10_four_11 rfl (lv_at hl 1 rfl) ?_
  refine va_get (D := D) (ci := 10) (v := .int 6) (C := RX10) (T := TX10) (N := 43) hx hb hts lay_X10 hown hK.1 hP 0 rfl rfl 6 (by decide) (hts _ fl_X10_128) (fun _ h9 => h9) rfl dX10_four_12 ?_
  refine lv_iload_n hx hb dX10_four_15 rfl (lv_at hl 2 rfl) ?_
  refine lv_iload_n hx hb dX10_four_16 rfl (lv_at hl 0 rfl) ?_
  refine lv_ishr hx hb dX10_four_17 ?_
  refine lv_topi (fun z_14 ez_14 => ?_)
  refine lv_i2b hx hb dX10_four_18 rfl ?_
  refine lv_topi (fun z_15 ez_15 => ?_)
  refine va_bast hx hb hK.1 hP hD hS 1 0 rfl rfl (i := 6) (vp_in_iff.mpr (by decide)) dX10_four_19 (fun H locs hP hD hS => ?_)
  have hP : va_P D vwCl [((ma 0), .inr (10, [.int 0, .ref (ma 1), .ref (ma 2), .ref (ma 3), .ref (ma 4), .ref (ma 5), .int 6, .int 0, .int 0, .int 0, .int 0, .long 0, .int 0, .int 0, .int 0, .int (-1), .ref (ma 16), .ref (ma 17), .ref (ma 18), .ref (ma 19), .ref (ma 20), .ref (ma 21), .ref (ma 22), .ref (ma 23), .ref (ma 24), .ref (ma 25), .ref (ma 26), .ref (ma 27), .ref (ma 28), .ref (ma 29), .ref (ma 30), .ref (ma 31), .ref (ma 32), .ref (ma 33), .ref (ma 34), .ref (ma 35), .ref (ma 36), .ref (ma 37), .ref (ma 38), .ref (ma 39), .ref (ma 40), .ref (ma 41), .long 0])), ((ma 5), .inl (cy 0, 1600, .inl (upd f_10 6 (vp_nar .byte z_15))))] H := hP
  have hD : va_D A [((ma 0), .inr (10, [.int 0, .ref (ma 1), .ref (ma 2), .ref (ma 3), .ref (ma 4), .ref (ma 5), .int 6, .int 0, .int 0, .int 0, .int 0, .long 0, .int 0, .int 0, .int 0, .int (-1), .ref (ma 16), .ref (ma 17), .ref (ma 18), .ref (ma 19), .ref (ma 20), .ref (ma 21), .ref (ma 22), .ref (ma 23), .ref (ma 24), .ref (ma 25), .ref (ma 26), .ref (ma 27), .ref (ma 28), .ref (ma 29), .ref (ma 30), .ref (ma 31), .ref (ma 32), .ref (ma 33), .ref (ma 34), .ref (ma 35), .ref (ma 36), .ref (ma 37), .ref (ma 38), .ref (ma 39), .ref (ma 40), .ref (ma 41), .long 0])), ((ma 5), .inl (cy 0, 1600, .inl (upd f_10 6 (vp_nar .byte z_15))))] := hD
  generalize (upd f_10 6 (vp_nar .byte z_15)) = f_16 at hP hD
  refine lv_aload_n hx hb dX10_four_20 rfl (lv_at hl 1 rfl) ?_
  refine lv_dup hx hb dX10_four_21 rfl ?_
  refine va_get (D := D) (ci := 10) (v := .int 6) (C := RX10) (T := TX10) (N := 43) hx hb hts lay_X10 hown hK.1 hP 0 rfl rfl 6 (by decide) (hts _ fl_X10_128) (fun _ h9 => h9) rfl dX10_four_22 ?_
  refine lv_iconst (v := 1) hx hb dX10_four_25 (by decide) ?_
  refine lv_iadd hx hb dX10_four_26 ?_
  refine lv_topi (fun z_17 ez_17 => ?_)
  have ez_17 : z_17 = 7 := ez_17.trans (by decide)
  subst ez_17
  refine va_put (D := D) (ci := 10) (v := .int 7) (ty := tyX10 6) (C := RX10) (T := TX10) (N := 43) hx hb hts lay_X10 tyX10 tyX10_ok nmX10 hown hK.1 hP hD hS 0 rfl rfl 6 (by decide) (hts _ fl_X10_128) (fun _ h9 => h9) rfl (tyX10_ok 6 (by decide)) rfl rfl (Nat.le_of_ble_eq_true rfl) dX10_four_27 (fun H locs hP hD hS => ?_)
  have hP : va_P D vwCl [((ma 0), .inr (10, [.int 0, .ref (ma 1), .ref (ma 2), .ref (ma 3), .ref (ma 4), .ref (ma 5), .int 7, .int 0, .int 0, .int 0, .int 0, .long 0, .int 0, .int 0, .int 0, .int (-1), .ref (ma 16), .ref (ma 17), .ref (ma 18), .ref (ma 19), .ref (ma 20), .ref (ma 21), .ref (ma 22), .ref (ma 23), .ref (ma 24), .ref (ma 25), .ref (ma 26), .ref (ma 27), .ref (ma 28), .ref (ma 29), .ref (ma 30), .ref (ma 31), .ref (ma 32), .ref (ma 33), .ref (ma 34), .ref (ma 35), .ref (ma 36), .ref (ma 37), .ref (ma 38), .ref (ma 39), .ref (ma 40), .ref (ma 41), .long 0])), ((ma 5), .inl (cy 0, 1600, .inl f_16))] H := hP
  have hD : va_D A [((ma 0), .inr (10, [.int 0, .ref (ma 1), .ref (ma 2), .ref (ma 3), .ref (ma 4), .ref (ma 5), .int 7, .int 0, .int 0, .int 0, .int 0, .long 0, .int 0, .int 0, .int 0, .int (-1), .ref (ma 16), .ref (ma 17), .ref (ma 18), .ref (ma 19), .ref (ma 20), .ref (ma 21), .ref (ma 22), .ref (ma 23), .ref (ma 24), .ref (ma 25), .ref (ma 26), .ref (ma 27), .ref (ma 28), .ref (ma 29), .ref (ma 30), .ref (ma 31), .ref (ma 32), .ref (ma 33), .ref (ma 34), .ref (ma 35), .ref (ma 36), .ref (ma 37), .ref (ma 38), .ref (ma 39), .ref (ma 40), .ref (ma 41), .long 0])), ((ma 5), .inl (cy 0, 1600, .inl f_16))] := hD
  refine lv_iinc (v := 0) (lv' := [(2, .int 0), (0, .ref (ma 0)), (1, .int n0)]) hx hb dX10_four_30 hl (k := 0) rfl (by decide) (by decide) rfl (fun ls hl => ?_)
  refine lv_goto (tgt := 3) hx hb dX10_four_33 (by decide) ?_
  refine lv_iload_n hx hb dX10_four_3 rfl (lv_at hl 0 rfl) ?_
  refine lv_if_lt (tgt := 36) hx hb dX10_four_4 (by decide) (fun c_19 => absurd c_19 (by decide)) (fun _ => ?_)
  refine lv_aload_n hx hb dX10_four_7 rfl (lv_at hl 1 rfl) ?_
  refine va_get (D := D) (ci := 10) (v := .ref (ma 5)) (C := RX10) (T := TX10) (N := 43) hx hb hts lay_X10 hown hK.1 hP 0 rfl rfl 5 (by decide) (hts _ fl_X10_23) (fun _ h9 => h9) rfl dX10_four_8 ?_
  refine lv_aload_n hx hb dX10_four_11 rfl (lv_at hl 1 rfl) ?_
  refine va_get (D := D) (ci := 10) (v := .int 7) (C := RX10) (T := TX10) (N := 43) hx hb hts lay_X10 hown hK.1 hP 0 rfl rfl 6 (by decide) (hts _ fl_X10_128) (fun _ h9 => h9) rfl dX10_four_12 ?_
  refine lv_iload_n hx hb dX10_four_15 rfl (lv_at hl 2 rfl) ?_
  refine lv_iload_n hx hb dX10_four_16 rfl (lv_at hl 0 rfl) ?_
  refine lv_ishr hx hb dX10_four_17 ?_
  refine lv_topi (fun z_20 ez_20 => ?_)
  refine lv_i2b hx hb dX10_four_18 rfl ?_
  refine lv_topi (fun z_21 ez_21 => ?_)
  refine va_bast hx hb hK.1 hP hD hS 1 0 rfl rfl (i := 7) (vp_in_iff.mpr (by decide)) dX10_four_19 (fun H locs hP hD hS => ?_)
  have hP : va_P D vwCl [((ma 0), .inr (10, [.int 0, .ref (ma 1), .ref (ma 2), .ref (ma 3), .ref (ma 4), .ref (ma 5), .int 7, .int 0, .int 0, .int 0, .int 0, .long 0, .int 0, .int 0, .int 0, .int (-1), .ref (ma 16), .ref (ma 17), .ref (ma 18), .ref (ma 19), .ref (ma 20), .ref (ma 21), .ref (ma 22), .ref (ma 23), .ref (ma 24), .ref (ma 25), .ref (ma 26), .ref (ma 27), .ref (ma 28), .ref (ma 29), .ref (ma 30), .ref (ma 31), .ref (ma 32), .ref (ma 33), .ref (ma 34), .ref (ma 35), .ref (ma 36), .ref (ma 37), .ref (ma 38), .ref (ma 39), .ref (ma 40), .ref (ma 41), .long 0])), ((ma 5), .inl (cy 0, 1600, .inl (upd f_16 7 (vp_nar .byte z_21))))] H := hP
  have hD : va_D A [((ma 0), .inr (10, [.int 0, .ref (ma 1), .ref (ma 2), .ref (ma 3), .ref (ma 4), .ref (ma 5), .int 7, .int 0, .int 0, .int 0, .int 0, .long 0, .int 0, .int 0, .int 0, .int (-1), .ref (ma 16), .ref (ma 17), .ref (ma 18), .ref (ma 19), .ref (ma 20), .ref (ma 21), .ref (ma 22), .ref (ma 23), .ref (ma 24), .ref (ma 25), .ref (ma 26), .ref (ma 27), .ref (ma 28), .ref (ma 29), .ref (ma 30), .ref (ma 31), .ref (ma 32), .ref (ma 33), .ref (ma 34), .ref (ma 35), .ref (ma 36), .ref (ma 37), .ref (ma 38), .ref (ma 39), .ref (ma 40), .ref (ma 41), .long 0])), ((ma 5), .inl (cy 0, 1600, .inl (upd f_16 7 (vp_nar .byte z_21))))] := hD
  generalize (upd f_16 7 (vp_nar .byte z_21)) = f_22 at hP hD
  refine lv_aload_n hx hb dX10_four_20 rfl (lv_at hl 1 rfl) ?_
  refine lv_dup hx hb dX10_four_21 rfl ?_
  refine va_get (D := D) (ci := 10) (v := .int 7) (C := RX10) (T := TX10) (N := 43) hx hb hts lay_X10 hown hK.1 hP 0 rfl rfl 6 (by decide) (hts _ fl_X10_128) (fun _ h9 => h9) rfl dX10_four_22 ?_
  refine lv_iconst (v := 1) hx hb dX10_four_25 (by decide) ?_
  refine lv_iadd hx hb dX10_four_26 ?_
  refine lv_topi (fun z_23 ez_23 => ?_)
  have ez_23 : z_23 = 8 := ez_23.trans (by decide)
  subst ez_23
  refine va_put (D := D) (ci := 10) (v := .int 8) (ty := tyX10 6) (C := RX10) (T := TX10) (N := 43) hx hb hts lay_X10 tyX10 tyX10_ok nmX10 hown hK.1 hP hD hS 0 rfl rfl 6 (by decide) (hts _ fl_X10_128) (fun _ h9 => h9) rfl (tyX10_ok 6 (by decide)) rfl rfl (Nat.le_of_ble_eq_true rfl) dX10_four_27 (fun H locs hP hD hS => ?_)
  have hP : va_P D vwCl [((ma 0), .inr (10, [.int 0, .ref (ma 1), .ref (ma 2), .ref (ma 3), .ref (ma 4), .ref (ma 5), .int 8, .int 0, .int 0, .int 0, .int 0, .long 0, .int 0, .int 0, .int 0, .int (-1), .ref (ma 16), .ref (ma 17), .ref (ma 18), .ref (ma 19), .ref (ma 20), .ref (ma 21), .ref (ma 22), .ref (ma 23), .ref (ma 24), .ref (ma 25), .ref (ma 26), .ref (ma 27), .ref (ma 28), .ref (ma 29), .ref (ma 30), .ref (ma 31), .ref (ma 32), .ref (ma 33), .ref (ma 34), .ref (ma 35), .ref (ma 36), .ref (ma 37), .ref (ma 38), .ref (ma 39), .ref (ma 40), .ref (ma 41), .long 0])), ((ma 5), .inl (cy 0, 1600, .inl f_22))] H := hP
  have hD : va_D A [((ma 0), .inr (10, [.int 0, .ref (ma 1), .ref (ma 2), .ref (ma 3), .ref (ma 4), .ref (ma 5), .int 8, .int 0, .int 0, .int 0, .int 0, .long 0, .int 0, .int 0, .int 0, .int (-1), .ref (ma 16), .ref (ma 17), .ref (ma 18), .ref (ma 19), .ref (ma 20), .ref (ma 21), .ref (ma 22), .ref (ma 23), .ref (ma 24), .ref (ma 25), .ref (ma 26), .ref (ma 27), .ref (ma 28), .ref (ma 29), .ref (ma 30), .ref (ma 31), .ref (ma 32), .ref (ma 33), .ref (ma 34), .ref (ma 35), .ref (ma 36), .ref (ma 37), .ref (ma 38), .ref (ma 39), .ref (ma 40), .ref (ma 41), .long 0])), ((ma 5), .inl (cy 0, 1600, .inl f_22))] := hD
  refine lv_iinc (v := (-8)) (lv' := [(2, .int (-8)), (0, .ref (ma 0)), (1, .int n0)]) hx hb dX10_four_30 hl (k := 0) rfl (by decide) (by decide) rfl (fun ls hl => ?_)
  refine lv_goto (tgt := 3) hx hb dX10_four_33 (by decide) ?_
  refine lv_iload_n hx hb dX10_four_3 rfl (lv_at hl 0 rfl) ?_
  refine lv_if_lt (tgt := 36) hx hb dX10_four_4 (by decide) (fun _ => ?_) (fun c_25 => absurd (by decide) c_25)
  exact ret_v hx hb hr hlocks ⟨⟨hS.1, hS.2.1⟩, ((fun _ => 0), (fun k => match k with | 0 => f_22 | _ => (fun _ => 0)), (fun _ => (fun _ => 0)), (fun _ => 0)), rfl, hP.sub [0, 1] rfl, hD.sub [0, 1] (by decide) rfl⟩ hS.2.2 (Nat.le_of_ble_eq_true rfl) (Nat.le_of_ble_eq_true rfl) dX10_four_36
set_option maxHeartbeats 4000000 in
set_option maxRecDepth 100000 in
theorem tape4_8 (l : Launch) (D : va_G) (cy : Nat → ClassId) (xa : Nat → Nat) (f : Nat → Int32) (n0 : Int32) (sz : Nat) : MM l yX9_tapeFour cX9_tapeFour 3 none 0 0 0 D cy [.ref (xa 0), .int n0] (PW D [((xa 0), .inr (9, [.ref (xa 1), .ref (xa 2), .ref (xa 3), .ref (xa 4), .ref (xa 5), .ref (xa 6), .ref (xa 7), .ref (xa 8), .ref (xa 9), .int 8, .ref (xa 11), .null, .int 0, .int (-1)])), ((xa 1), .inl (cy 0, 1600, .inl f))] sz) (QW D (va_A [((xa 0), .inr (9, [.ref (xa 1), .ref (xa 2), .ref (xa 3), .ref (xa 4), .ref (xa 5), .ref (xa 6), .ref (xa 7), .ref (xa 8), .ref (xa 9), .int 8, .ref (xa 11), .null, .int 0, .int (-1)])), ((xa 1), .inl (cy 0, 1600, .inl f))] sz) (S := (Nat → Nat) × (Nat → Nat → Int32) × (Nat → Nat → Int64) × (Nat → Int32)) (fun v u => v = none) (fun u => [((xa 0), .inr (9, [.ref (xa 1), .ref (xa 2), .ref (xa 3), .ref (xa 4), .ref (xa 5), .ref (xa 6), .ref (xa 7), .ref (xa 8), .ref (xa 9), .int 12, .ref (xa 11), .null, .int 0, .int (-1)])), ((xa 1), .inl (cy 0, 1600, .inl (u.2.1 0)))])) (va_A [((xa 0), .inr (9, [.ref (xa 1), .ref (xa 2), .ref (xa 3), .ref (xa 4), .ref (xa 5), .ref (xa 6), .ref (xa 7), .ref (xa 8), .ref (xa 9), .int 8, .ref (xa 11), .null, .int 0, .int (-1)])), ((xa 1), .inl (cy 0, 1600, .inl f))] sz) := by
  refine MM.of (by decide) (Nat.le_of_ble_eq_true rfl) ?_
  intro p e s m below meth c C hPW ls hl
  obtain ⟨hx, hb, hr, hml, hown, hts, hlocks, hK, hnm⟩ := C
  obtain ⟨rfl, hP, hD0⟩ := hPW
  have hD := hD0.self (sz := s.heap.size)
  have hA : ∀ q : Nat, s.heap.size ≤ q → (va_A [((xa 0), .inr (9, [.ref (xa 1), .ref (xa 2), .ref (xa 3), .ref (xa 4), .ref (xa 5), .ref (xa 6), .ref (xa 7), .ref (xa 8), .ref (xa 9), .int 8, .ref (xa 11), .null, .int 0, .int (-1)])), ((xa 1), .inl (cy 0, 1600, .inl f))] s.heap.size) q := fun q h => Or.inr h
  have hS : va_S (va_A [((xa 0), .inr (9, [.ref (xa 1), .ref (xa 2), .ref (xa 3), .ref (xa 4), .ref (xa 5), .ref (xa 6), .ref (xa 7), .ref (xa 8), .ref (xa 9), .int 8, .ref (xa 11), .null, .int 0, .int (-1)])), ((xa 1), .inl (cy 0, 1600, .inl f))] s.heap.size) s.heap s.heap [] := va_S.rf
  generalize va_A [((xa 0), .inr (9, [.ref (xa 1), .ref (xa 2), .ref (xa 3), .ref (xa 4), .ref (xa 5), .ref (xa 6), .ref (xa 7), .ref (xa 8), .ref (xa 9), .int 8, .ref (xa 11), .null, .int 0, .int (-1)])), ((xa 1), .inl (cy 0, 1600, .inl f))] s.heap.size = A at hD hA hS ⊢
  have hP : va_P D vwCl [((xa 0), .inr (9, [.ref (xa 1), .ref (xa 2), .ref (xa 3), .ref (xa 4), .ref (xa 5), .ref (xa 6), .ref (xa 7), .ref (xa 8), .ref (xa 9), .int 8, .ref (xa 11), .null, .int 0, .int (-1)])), ((xa 1), .inl (cy 0, 1600, .inl f))] s.heap := hP
  have hl : lv_has ls 3 [(0, .ref (xa 0)), (1, .int n0)] := hl
  refine lv_bipush (v := 24) hx hb dX9_tapeFour_0 (by decide) ?_
  refine lv_istore_n (lv' := [(2, .int 24), (0, .ref (xa 0)), (1, .int n0)]) hx hb dX9_tapeFour_2 rfl hl (by decide) rfl (fun ls hl => ?_)
  refine lv_iload_n hx hb dX9_tapeFour_3 rfl (lv_at hl 0 rfl) ?_
  refine lv_if_lt (tgt := 46) hx hb dX9_tapeFour_4 (by decide) (fun c_1 => absurd c_1 (by decide)) (fun _ => ?_)
  refine lv_aload_n hx hb dX9_tapeFour_7 rfl (lv_at hl 1 rfl) ?_
  refine va_get (D := D) (ci := 9) (v := .int 8) (C := RX9) (T := TX9) (N := 14) hx hb hts lay_X9 hown hK.1 hP 0 rfl rfl 9 (by decide) (hts _ fl_X9_75) (fun _ h9 => h9) rfl dX9_tapeFour_8 ?_
  refine lv_sipush (v := 1600) hx hb dX9_tapeFour_11 (by decide) ?_
  refine lv_icmp_ge (tgt := 40) hx hb dX9_tapeFour_14 (by decide) (fun c_2 => absurd c_2 (by decide)) (fun _ => ?_)
  refine lv_aload_n hx hb dX9_tapeFour_17 rfl (lv_at hl 1 rfl) ?_
  refine va_get (D := D) (ci := 9) (v := .ref (xa 1)) (C := RX9) (T := TX9) (N := 14) hx hb hts lay_X9 hown hK.1 hP 0 rfl rfl 0 (by decide) (hts _ fl_X9_9) (fun _ h9 => h9) rfl dX9_tapeFour_18 ?_
  refine lv_aload_n hx hb dX9_tapeFour_21 rfl (lv_at hl 1 rfl) ?_
  refine va_get (D := D) (ci := 9) (v := .int 8) (C := RX9) (T := TX9) (N := 14) hx hb hts lay_X9 hown hK.1 hP 0 rfl rfl 9 (by decide) (hts _ fl_X9_75) (fun _ h9 => h9) rfl dX9_tapeFour_22 ?_
  refine lv_iload_n hx hb dX9_tapeFour_25 rfl (lv_at hl 2 rfl) ?_
  refine lv_iload_n hx hb dX9_tapeFour_26 rfl (lv_at hl 0 rfl) ?_
  refine lv_ishr hx hb dX9_tapeFour_27 ?_
  refine lv_topi (fun z_3 ez_3 => ?_)
  refine lv_i2b hx hb dX9_tapeFour_28 rfl ?_
  refine lv_topi (fun z_4 ez_4 => ?_)
  refine va_bast hx hb hK.1 hP hD hS 1 0 rfl rfl (i := 8) (vp_in_iff.mpr (by decide)) dX9_tapeFour_29 (fun H locs hP hD hS => ?_)
  have hP : va_P D vwCl [((xa 0), .inr (9, [.ref (xa 1), .ref (xa 2), .ref (xa 3), .ref (xa 4), .ref (xa 5), .ref (xa 6), .ref (xa 7), .ref (xa 8), .ref (xa 9), .int 8, .ref (xa 11), .null, .int 0, .int (-1)])), ((xa 1), .inl (cy 0, 1600, .inl (upd f 8 (vp_nar .byte z_4))))] H := hP
  have hD : va_D A [((xa 0), .inr (9, [.ref (xa 1), .ref (xa 2), .ref (xa 3), .ref (xa 4), .ref (xa 5), .ref (xa 6), .ref (xa 7), .ref (xa 8), .ref (xa 9), .int 8, .ref (xa 11), .null, .int 0, .int (-1)])), ((xa 1), .inl (cy 0, 1600, .inl (upd f 8 (vp_nar .byte z_4))))] := hD
  generalize (upd f 8 (vp_nar .byte z_4)) = f_5 at hP hD
  refine lv_aload_n hx hb dX9_tapeFour_30 rfl (lv_at hl 1 rfl) ?_
  refine lv_dup hx hb dX9_tapeFour_31 rfl ?_
  refine va_get (D := D) (ci := 9) (v := .int 8) (C := RX9) (T := TX9) (N := 14) hx hb hts lay_X9 hown hK.1 hP 0 rfl rfl 9 (by decide) (hts _ fl_X9_75) (fun _ h9 => h9) rfl dX9_tapeFour_32 ?_
  refine lv_iconst (v := 1) hx hb dX9_tapeFour_35 (by decide) ?_
  refine lv_iadd hx hb dX9_tapeFour_36 ?_
  refine lv_topi (fun z_6 ez_6 => ?_)
  have ez_6 : z_6 = 9 := ez_6.trans (by decide)
  subst ez_6
  refine va_put (D := D) (ci := 9) (v := .int 9) (ty := tyX9 9) (C := RX9) (T := TX9) (N := 14) hx hb hts lay_X9 tyX9 tyX9_ok nmX9 hown hK.1 hP hD hS 0 rfl rfl 9 (by decide) (hts _ fl_X9_75) (fun _ h9 => h9) rfl (tyX9_ok 9 (by decide)) rfl rfl (Nat.le_of_ble_eq_true rfl) dX9_tapeFour_37 (fun H locs hP hD hS => ?_)
  have hP : va_P D vwCl [((xa 0), .inr (9, [.ref (xa 1), .ref (xa 2), .ref (xa 3), .ref (xa 4), .ref (xa 5), .ref (xa 6), .ref (xa 7), .ref (xa 8), .ref (xa 9), .int 9, .ref (xa 11), .null, .int 0, .int (-1)])), ((xa 1), .inl (cy 0, 1600, .inl f_5))] H := hP
  have hD : va_D A [((xa 0), .inr (9, [.ref (xa 1), .ref (xa 2), .ref (xa 3), .ref (xa 4), .ref (xa 5), .ref (xa 6), .ref (xa 7), .ref (xa 8), .ref (xa 9), .int 9, .ref (xa 11), .null, .int 0, .int (-1)])), ((xa 1), .inl (cy 0, 1600, .inl f_5))] := hD
  refine lv_iinc (v := 16) (lv' := [(2, .int 16), (0, .ref (xa 0)), (1, .int n0)]) hx hb dX9_tapeFour_40 hl (k := 0) rfl (by decide) (by decide) rfl (fun ls hl => ?_)
  refine lv_goto (tgt := 3) hx hb dX9_tapeFour_43 (by decide) ?_
  refine lv_iload_n hx hb dX9_tapeFour_3 rfl (lv_at hl 0 rfl) ?_
  refine lv_if_lt (tgt := 46) hx hb dX9_tapeFour_4 (by decide) (fun c_8 => absurd c_8 (by decide)) (fun _ => ?_)
  refine lv_aload_n hx hb dX9_tapeFour_7 rfl (lv_at hl 1 rfl) ?_
  refine va_get (D := D) (ci := 9) (v := .int 9) (C := RX9) (T := TX9) (N := 14) hx hb hts lay_X9 hown hK.1 hP 0 rfl rfl 9 (by decide) (hts _ fl_X9_75) (fun _ h9 => h9) rfl dX9_tapeFour_8 ?_
  refine lv_sipush (v := 1600) hx hb dX9_tapeFour_11 (by decide) ?_
  refine lv_icmp_ge (tgt := 40) hx hb dX9_tapeFour_14 (by decide) (fun c_9 => absurd c_9 (by decide)) (fun _ => ?_)
  refine lv_aload_n hx hb dX9_tapeFour_17 rfl (lv_at hl 1 rfl) ?_
  refine va_get (D := D) (ci := 9) (v := .ref (xa 1)) (C := RX9) (T := TX9) (N := 14) hx hb hts lay_X9 hown hK.1 hP 0 rfl rfl 0 (by decide) (hts _ fl_X9_9) (fun _ h9 => h9) rfl dX9_tapeFour_18 ?_
  refine lv_aload_n hx hb dX9_tapeFour_21 rfl (lv_at hl 1 rfl) ?_
  refine va_get (D := D) (ci := 9) (v := .int 9) (C := RX9) (T := TX9) (N := 14) hx hb hts lay_X9 hown hK.1 hP 0 rfl rfl 9 (by decide) (hts _ fl_X9_75) (fun _ h9 => h9) rfl dX9_tapeFour_22 ?_
  refine lv_iload_n hx hb dX9_tapeFour_25 rfl (lv_at hl 2 rfl) ?_
  refine lv_iload_n hx hb dX9_tapeFour_26 rfl (lv_at hl 0 rfl) ?_
  refine lv_ishr hx hb dX9_tapeFour_27 ?_
  refine lv_topi (fun z_10 ez_10 => ?_)
  refine lv_i2b hx hb dX9_tapeFour_28 rfl ?_
  refine lv_topi (fun z_11 ez_11 => ?_)
  refine va_bast hx hb hK.1 hP hD hS 1 0 rfl rfl (i := 9) (vp_in_iff.mpr (by decide)) dX9_tapeFour_29 (fun H locs hP hD hS => ?_)
  have hP : va_P D vwCl [((xa 0), .inr (9, [.ref (xa 1), .ref (xa 2), .ref (xa 3), .ref (xa 4), .ref (xa 5), .ref (xa 6), .ref (xa 7), .ref (xa 8), .ref (xa 9), .int 9, .ref (xa 11), .null, .int 0, .int (-1)])), ((xa 1), .inl (cy 0, 1600, .inl (upd f_5 9 (vp_nar .byte z_11))))] H := hP
  have hD : va_D A [((xa 0), .inr (9, [.ref (xa 1), .ref (xa 2), .ref (xa 3), .ref (xa 4), .ref (xa 5), .ref (xa 6), .ref (xa 7), .ref (xa 8), .ref (xa 9), .int 9, .ref (xa 11), .null, .int 0, .int (-1)])), ((xa 1), .inl (cy 0, 1600, .inl (upd f_5 9 (vp_nar .byte z_11))))] := hD
  generalize (upd f_5 9 (vp_nar .byte z_11)) = f_12 at hP hD
  refine lv_aload_n hx hb dX9_tapeFour_30 rfl (lv_at hl 1 rfl) ?_
  refine lv_dup hx hb dX9_tapeFour_31 rfl ?_
  refine va_get (D := D) (ci := 9) (v := .int 9) (C := RX9) (T := TX9) (N := 14) hx hb hts lay_X9 hown hK.1 hP 0 rfl rfl 9 (by decide) (hts _ fl_X9_75) (fun _ h9 => h9) rfl dX9_tapeFour_32 ?_
  refine lv_iconst (v := 1) hx hb dX9_tapeFour_35 (by decide) ?_
  refine lv_iadd hx hb dX9_tapeFour_36 ?_
  refine lv_topi (fun z_13 ez_13 => ?_)
  have ez_13 : z_13 = 10 := ez_13.trans (by decide)
  subst ez_13
  refine va_put (D := D) (ci := 9) (v := .int 10) (ty := tyX9 9) (C := RX9) (T := TX9) (N := 14) hx hb hts lay_X9 tyX9 tyX9_ok nmX9 hown hK.1 hP hD hS 0 rfl rfl 9 (by decide) (hts _ fl_X9_75) (fun _ h9 => h9) rfl (tyX9_ok 9 (by decide)) rfl rfl (Nat.le_of_ble_eq_true rfl) dX9_tapeFour_37 (fun H locs hP hD hS => ?_)
  have hP : va_P D vwCl [((xa 0), .inr (9, [.ref (xa 1), .ref (xa 2), .ref (xa 3), .ref (xa 4), .ref (xa 5), .ref (xa 6), .ref (xa 7), .ref (xa 8), .ref (xa 9), .int 10, .ref (xa 11), .null, .int 0, .int (-1)])), ((xa 1), .inl (cy 0, 1600, .inl f_12))] H := hP
  have hD : va_D A [((xa 0), .inr (9, [.ref (xa 1), .ref (xa 2), .ref (xa 3), .ref (xa 4), .ref (xa 5), .ref (xa 6), .ref (xa 7), .ref (xa 8), .ref (xa 9), .int 10, .ref (xa 11), .null, .int 0, .int (-1)])), ((xa 1), .inl (cy 0, 1600, .inl f_12))] := hD
  refine lv_iinc (v := 8) (lv' := [(2, .int 8), (0, .ref (xa 0)), (1, .int n0)]) hx hb dX9_tapeFour_40 hl (k := 0) rfl (by decide) (by decide) rfl (fun ls hl => ?_)
  refine lv_goto (tgt := 3) hx hb dX9_tapeFour_43 (by decide) ?_
  refine lv_iload_n hx hb dX9_tapeFour_3 rfl (lv_at hl 0 rfl) ?_
  refine lv_if_lt (tgt := 46) hx hb dX9_tapeFour_4 (by decide) (fun c_15 => absurd c_15 (by decide)) (fun _ => ?_)
  refine lv_aload_n hx hb dX9_tapeFour_7 rfl (lv_at hl 1 rfl) ?_
  refine va_get (D := D) (ci := 9) (v := .int 10) (C := RX9) (T := TX9) (N := 14) hx hb hts lay_X9 hown hK.1 hP 0 rfl rfl 9 (by decide) (hts _ fl_X9_75) (fun _ h9 => h9) rfl dX9_tapeFour_8 ?_
  refine lv_sipush (v := 1600) hx hb dX9_tapeFour_11 (by decide) ?_
  refine lv_icmp_ge (tgt := 40) hx hb dX9_tapeFour_14 (by decide) (fun c_16 => absurd c_16 (by decide)) (fun _ => ?_)
  refine lv_aload_n hx hb dX9_tapeFour_17 rfl (lv_at hl 1 rfl) ?_
  refine va_get (D := D) (ci := 9) (v := .ref (xa 1)) (C := RX9) (T := TX9) (N := 14) hx hb hts lay_X9 hown hK.1 hP 0 rfl rfl 0 (by decide) (hts _ fl_X9_9) (fun _ h9 => h9) rfl dX9_tapeFour_18 ?_
  refine lv_aload_n hx hb dX9_tapeFour_21 rfl (lv_at hl 1 rfl) ?_
  refine va_get (D := D) (ci := 9) (v := .int 10) (C := RX9) (T := TX9) (N := 14) hx hb hts lay_X9 hown hK.1 hP 0 rfl rfl 9 (by decide) (hts _ fl_X9_75) (fun _ h9 => h9) rfl dX9_tapeFour_22 ?_
  refine lv_iload_n hx hb dX9_tapeFour_25 rfl (lv_at hl 2 rfl) ?_
  refine lv_iload_n hx hb dX9_tapeFour_26 rfl (lv_at hl 0 rfl) ?_
  refine lv_ishr hx hb dX9_tapeFour_27 ?_
  refine lv_topi (fun z_17 ez_17 => ?_)
  refine lv_i2b hx hb dX9_tapeFour_28 rfl ?_
  refine lv_topi (fun z_18 ez_18 => ?_)
  refine va_bast hx hb hK.1 hP hD hS 1 0 rfl rfl (i := 10) (vp_in_iff.mpr (by decide)) dX9_tapeFour_29 (fun H locs hP hD hS => ?_)
  have hP : va_P D vwCl [((xa 0), .inr (9, [.ref (xa 1), .ref (xa 2), .ref (xa 3), .ref (xa 4), .ref (xa 5), .ref (xa 6), .ref (xa 7), .ref (xa 8), .ref (xa 9), .int 10, .ref (xa 11), .null, .int 0, .int (-1)])), ((xa 1), .inl (cy 0, 1600, .inl (upd f_12 10 (vp_nar .byte z_18))))] H := hP
  have hD : va_D A [((xa 0), .inr (9, [.ref (xa 1), .ref (xa 2), .ref (xa 3), .ref (xa 4), .ref (xa 5), .ref (xa 6), .ref (xa 7), .ref (xa 8), .ref (xa 9), .int 10, .ref (xa 11), .null, .int 0, .int (-1)])), ((xa 1), .inl (cy 0, 1600, .inl (upd f_12 10 (vp_nar .byte z_18))))] := hD
  generalize (upd f_12 10 (vp_nar .byte z_18)) = f_19 at hP hD
  refine lv_aload_n hx hb dX9_tapeFour_30 rfl (lv_at hl 1 rfl) ?_
  refine lv_dup hx hb dX9_tapeFour_31 rfl ?_
  refine va_get (D := D) (ci := 9) (v := .int 10) (C := RX9) (T := TX9) (N := 14) hx hb hts lay_X9 hown hK.1 hP 0 rfl rfl 9 (by decide) (hts _ fl_X9_75) (fun _ h9 => h9) rfl dX9_tapeFour_32 ?_
  refine lv_iconst (v := 1) hx hb dX9_tapeFour_35 (by decide) ?_
  refine lv_iadd hx hb dX9_tapeFour_36 ?_
  refine lv_topi (fun z_20 ez_20 => ?_)
  have ez_20 : z_20 = 11 := ez_20.trans (by decide)
  subst ez_20
  refine va_put (D := D) (ci := 9) (v := .int 11) (ty := tyX9 9) (C := RX9) (T := TX9) (N := 14) hx hb hts lay_X9 tyX9 tyX9_ok nmX9 hown hK.1 hP hD hS 0 rfl rfl 9 (by decide) (hts _ fl_X9_75) (fun _ h9 => h9) rfl (tyX9_ok 9 (by decide)) rfl rfl (Nat.le_of_ble_eq_true rfl) dX9_tapeFour_37 (fun H locs hP hD hS => ?_)
  have hP : va_P D vwCl [((xa 0), .inr (9, [.ref (xa 1), .ref (xa 2), .ref (xa 3), .ref (xa 4), .ref (xa 5), .ref (xa 6), .ref (xa 7), .ref (xa 8), .ref (xa 9), .int 11, .ref (xa 11), .null, .int 0, .int (-1)])), ((xa 1), .inl (cy 0, 1600, .inl f_19))] H := hP
  have hD : va_D A [((xa 0), .inr (9, [.ref (xa 1), .ref (xa 2), .ref (xa 3), .ref (xa 4), .ref (xa 5), .ref (xa 6), .ref (xa 7), .ref (xa 8), .ref (xa 9), .int 11, .ref (xa 11), .null, .int 0, .int (-1)])), ((xa 1), .inl (cy 0, 1600, .inl f_19))] := hD
  refine lv_iinc (v := 0) (lv' := [(2, .int 0), (0, .ref (xa 0)), (1, .int n0)]) hx hb dX9_tapeFour_40 hl (k := 0) rfl (by decide) (by decide) rfl (fun ls hl => ?_)
  refine lv_goto (tgt := 3) hx hb dX9_tapeFour_43 (by decide) ?_
  refine lv_iload_n hx hb dX9_tapeFour_3 rfl (lv_at hl 0 rfl) ?_
  refine lv_if_lt (tgt := 46) hx hb dX9_tapeFour_4 (by decide) (fun c_22 => absurd c_22 (by decide)) (fun _ => ?_)
  refine lv_aload_n hx hb dX9_tapeFour_7 rfl (lv_at hl 1 rfl) ?_
  refine va_get (D := D) (ci := 9) (v := .int 11) (C := RX9) (T := TX9) (N := 14) hx hb hts lay_X9 hown hK.1 hP 0 rfl rfl 9 (by decide) (hts _ fl_X9_75) (fun _ h9 => h9) rfl dX9_tapeFour_8 ?_
  refine lv_sipush (v := 1600) hx hb dX9_tapeFour_11 (by decide) ?_
  refine lv_icmp_ge (tgt := 40) hx hb dX9_tapeFour_14 (by decide) (fun c_23 => absurd c_23 (by decide)) (fun _ => ?_)
  refine lv_aload_n hx hb dX9_tapeFour_17 rfl (lv_at hl 1 rfl) ?_
  refine va_get (D := D) (ci := 9) (v := .ref (xa 1)) (C := RX9) (T := TX9) (N := 14) hx hb hts lay_X9 hown hK.1 hP 0 rfl rfl 0 (by decide) (hts _ fl_X9_9) (fun _ h9 => h9) rfl dX9_tapeFour_18 ?_
  refine lv_aload_n hx hb dX9_tapeFour_21 rfl (lv_at hl 1 rfl) ?_
  refine va_get (D := D) (ci := 9) (v := .int 11) (C := RX9) (T := TX9) (N := 14) hx hb hts lay_X9 hown hK.1 hP 0 rfl rfl 9 (by decide) (hts _ fl_X9_75) (fun _ h9 => h9) rfl dX9_tapeFour_22 ?_
  refine lv_iload_n hx hb dX9_tapeFour_25 rfl (lv_at hl 2 rfl) ?_
  refine lv_iload_n hx hb dX9_tapeFour_26 rfl (lv_at hl 0 rfl) ?_
  refine lv_ishr hx hb dX9_tapeFour_27 ?_
  refine lv_topi (fun z_24 ez_24 => ?_)
  refine lv_i2b hx hb dX9_tapeFour_28 rfl ?_
  refine lv_topi (fun z_25 ez_25 => ?_)
  refine va_bast hx hb hK.1 hP hD hS 1 0 rfl rfl (i := 11) (vp_in_iff.mpr (by decide)) dX9_tapeFour_29 (fun H locs hP hD hS => ?_)
  have hP : va_P D vwCl [((xa 0), .inr (9, [.ref (xa 1), .ref (xa 2), .ref (xa 3), .ref (xa 4), .ref (xa 5), .ref (xa 6), .ref (xa 7), .ref (xa 8), .ref (xa 9), .int 11, .ref (xa 11), .null, .int 0, .int (-1)])), ((xa 1), .inl (cy 0, 1600, .inl (upd f_19 11 (vp_nar .byte z_25))))] H := hP
  have hD : va_D A [((xa 0), .inr (9, [.ref (xa 1), .ref (xa 2), .ref (xa 3), .ref (xa 4), .ref (xa 5), .ref (xa 6), .ref (xa 7), .ref (xa 8), .ref (xa 9), .int 11, .ref (xa 11), .null, .int 0, .int (-1)])), ((xa 1), .inl (cy 0, 1600, .inl (upd f_19 11 (vp_nar .byte z_25))))] := hD
  generalize (upd f_19 11 (vp_nar .byte z_25)) = f_26 at hP hD
  refine lv_aload_n hx hb dX9_tapeFour_30 rfl (lv_at hl 1 rfl) ?_
  refine lv_dup hx hb dX9_tapeFour_31 rfl ?_
  refine va_get (D := D) (ci := 9) (v := .int 11) (C := RX9) (T := TX9) (N := 14) hx hb hts lay_X9 hown hK.1 hP 0 rfl rfl 9 (by decide) (hts _ fl_X9_75) (fun _ h9 => h9) rfl dX9_tapeFour_32 ?_
  refine lv_iconst (v := 1) hx hb dX9_tapeFour_35 (by decide) ?_
  refine lv_iadd hx hb dX9_tapeFour_36 ?_
  refine lv_topi (fun z_27 ez_27 => ?_)
  have ez_27 : z_27 = 12 := ez_27.trans (by decide)
  subst ez_27
  refine va_put (D := D) (ci := 9) (v := .int 12) (ty := tyX9 9) (C := RX9) (T := TX9) (N := 14) hx hb hts lay_X9 tyX9 tyX9_ok nmX9 hown hK.1 hP hD hS 0 rfl rfl 9 (by decide) (hts _ fl_X9_75) (fun _ h9 => h9) rfl (tyX9_ok 9 (by decide)) rfl rfl (Nat.le_of_ble_eq_true rfl) dX9_tapeFour_37 (fun H locs hP hD hS => ?_)
  have hP : va_P D vwCl [((xa 0), .inr (9, [.ref (xa 1), .ref (xa 2), .ref (xa 3), .ref (xa 4), .ref (xa 5), .ref (xa 6), .ref (xa 7), .ref (xa 8), .ref (xa 9), .int 12, .ref (xa 11), .null, .int 0, .int (-1)])), ((xa 1), .inl (cy 0, 1600, .inl f_26))] H := hP
  have hD : va_D A [((xa 0), .inr (9, [.ref (xa 1), .ref (xa 2), .ref (xa 3), .ref (xa 4), .ref (xa 5), .ref (xa 6), .ref (xa 7), .ref (xa 8), .ref (xa 9), .int 12, .ref (xa 11), .null, .int 0, .int (-1)])), ((xa 1), .inl (cy 0, 1600, .inl f_26))] := hD
  refine lv_iinc (v := (-8)) (lv' := [(2, .int (-8)), (0, .ref (xa 0)), (1, .int n0)]) hx hb dX9_tapeFour_40 hl (k := 0) rfl (by decide) (by decide) rfl (fun ls hl => ?_)
  refine lv_goto (tgt := 3) hx hb dX9_tapeFour_43 (by decide) ?_
  refine lv_iload_n hx hb dX9_tapeFour_3 rfl (lv_at hl 0 rfl) ?_
  refine lv_if_lt (tgt := 46) hx hb dX9_tapeFour_4 (by decide) (fun _ => ?_) (fun c_29 => absurd (by decide) c_29)
  exact ret_v hx hb hr hlocks ⟨⟨hS.1, hS.2.1⟩, ((fun _ => 0), (fun k => match k with | 0 => f_26 | _ => (fun _ => 0)), (fun _ => (fun _ => 0)), (fun _ => 0)), rfl, hP.sub [0, 1] rfl, hD.sub [0, 1] (by decide) rfl⟩ hS.2.2 (Nat.le_of_ble_eq_true rfl) (Nat.le_of_ble_eq_true rfl) dX9_tapeFour_46
set_option maxHeartbeats 4000000 in
set_option maxRecDepth 100000 in
theorem four_8 (l : Launch) (D : va_G) (cy : Nat → ClassId) (ma : Nat → Nat) (f : Nat → Int32) (n0 : Int32) (sz : Nat) : MM l yX10_four cX10_four 3 none 0 0 0 D cy [.ref (ma 0), .int n0] (PW D [((ma 0), .inr (10, [.int 0, .ref (ma 1), .ref (ma 2), .ref (ma 3), .ref (ma 4), .ref (ma 5), .int 8, .int 0, .int 0, .int 0, .int 0, .long 0, .int 0, .int 0, .int 0, .int (-1), .ref (ma 16), .ref (ma 17), .ref (ma 18), .ref (ma 19), .ref (ma 20), .ref (ma 21), .ref (ma 22), .ref (ma 23), .ref (ma 24), .ref (ma 25), .ref (ma 26), .ref (ma 27), .ref (ma 28), .ref (ma 29), .ref (ma 30), .ref (ma 31), .ref (ma 32), .ref (ma 33), .ref (ma 34), .ref (ma 35), .ref (ma 36), .ref (ma 37), .ref (ma 38), .ref (ma 39), .ref (ma 40), .ref (ma 41), .long 0])), ((ma 5), .inl (cy 0, 1600, .inl f))] sz) (QW D (va_A [((ma 0), .inr (10, [.int 0, .ref (ma 1), .ref (ma 2), .ref (ma 3), .ref (ma 4), .ref (ma 5), .int 8, .int 0, .int 0, .int 0, .int 0, .long 0, .int 0, .int 0, .int 0, .int (-1), .ref (ma 16), .ref (ma 17), .ref (ma 18), .ref (ma 19), .ref (ma 20), .ref (ma 21), .ref (ma 22), .ref (ma 23), .ref (ma 24), .ref (ma 25), .ref (ma 26), .ref (ma 27), .ref (ma 28), .ref (ma 29), .ref (ma 30), .ref (ma 31), .ref (ma 32), .ref (ma 33), .ref (ma 34), .ref (ma 35), .ref (ma 36), .ref (ma 37), .ref (ma 38), .ref (ma 39), .ref (ma 40), .ref (ma 41), .long 0])), ((ma 5), .inl (cy 0, 1600, .inl f))] sz) (S := (Nat → Nat) × (Nat → Nat → Int32) × (Nat → Nat → Int64) × (Nat → Int32)) (fun v u => v = none) (fun u => [((ma 0), .inr (10, [.int 0, .ref (ma 1), .ref (ma 2), .ref (ma 3), .ref (ma 4), .ref (ma 5), .int 12, .int 0, .int 0, .int 0, .int 0, .long 0, .int 0, .int 0, .int 0, .int (-1), .ref (ma 16), .ref (ma 17), .ref (ma 18), .ref (ma 19), .ref (ma 20), .ref (ma 21), .ref (ma 22), .ref (ma 23), .ref (ma 24), .ref (ma 25), .ref (ma 26), .ref (ma 27), .ref (ma 28), .ref (ma 29), .ref (ma 30), .ref (ma 31), .ref (ma 32), .ref (ma 33), .ref (ma 34), .ref (ma 35), .ref (ma 36), .ref (ma 37), .ref (ma 38), .ref (ma 39), .ref (ma 40), .ref (ma 41), .long 0])), ((ma 5), .inl (cy 0, 1600, .inl (u.2.1 0)))])) (va_A [((ma 0), .inr (10, [.int 0, .ref (ma 1), .ref (ma 2), .ref (ma 3), .ref (ma 4), .ref (ma 5), .int 8, .int 0, .int 0, .int 0, .int 0, .long 0, .int 0, .int 0, .int 0, .int (-1), .ref (ma 16), .ref (ma 17), .ref (ma 18), .ref (ma 19), .ref (ma 20), .ref (ma 21), .ref (ma 22), .ref (ma 23), .ref (ma 24), .ref (ma 25), .ref (ma 26), .ref (ma 27), .ref (ma 28), .ref (ma 29), .ref (ma 30), .ref (ma 31), .ref (ma 32), .ref (ma 33), .ref (ma 34), .ref (ma 35), .ref (ma 36), .ref (ma 37), .ref (ma 38), .ref (ma 39), .ref (ma 40), .ref (ma 41), .long 0])), ((ma 5), .inl (cy 0, 1600, .inl f))] sz) := by
  refine MM.of (by decide) (Nat.le_of_ble_eq_true rfl) ?_
  intro p e s m below meth c C hPW ls hl
  obtain ⟨hx, hb, hr, hml, hown, hts, hlocks, hK, hnm⟩ := C
  obtain ⟨rfl, hP, hD0⟩ := hPW
  have hD := hD0.self (sz := s.heap.size)
  have hA : ∀ q : Nat, s.heap.size ≤ q → (va_A [((ma 0), .inr (10, [.int 0, .ref (ma 1), .ref (ma 2), .ref (ma 3), .ref (ma 4), .ref (ma 5), .int 8, .int 0, .int 0, .int 0, .int 0, .long 0, .int 0, .int 0, .int 0, .int (-1), .ref (ma 16), .ref (ma 17), .ref (ma 18), .ref (ma 19), .ref (ma 20), .ref (ma 21), .ref (ma 22), .ref (ma 23), .ref (ma 24), .ref (ma 25), .ref (ma 26), .ref (ma 27), .ref (ma 28), .ref (ma 29), .ref (ma 30), .ref (ma 31), .ref (ma 32), .ref (ma 33), .ref (ma 34), .ref (ma 35), .ref (ma 36), .ref (ma 37), .ref (ma 38), .ref (ma 39), .ref (ma 40), .ref (ma 41), .long 0])), ((ma 5), .inl (cy 0, 1600, .inl f))] s.heap.size) q := fun q h => Or.inr h
  have hS : va_S (va_A [((ma 0), .inr (10, [.int 0, .ref (ma 1), .ref (ma 2), .ref (ma 3), .ref (ma 4), .ref (ma 5), .int 8, .int 0, .int 0, .int 0, .int 0, .long 0, .int 0, .int 0, .int 0, .int (-1), .ref (ma 16), .ref (ma 17), .ref (ma 18), .ref (ma 19), .ref (ma 20), .ref (ma 21), .ref (ma 22), .ref (ma 23), .ref (ma 24), .ref (ma 25), .ref (ma 26), .ref (ma 27), .ref (ma 28), .ref (ma 29), .ref (ma 30), .ref (ma 31), .ref (ma 32), .ref (ma 33), .ref (ma 34), .ref (ma 35), .ref (ma 36), .ref (ma 37), .ref (ma 38), .ref (ma 39), .ref (ma 40), .ref (ma 41), .long 0])), ((ma 5), .inl (cy 0, 1600, .inl f))] s.heap.size) s.heap s.heap [] := va_S.rf
  generalize va_A [((ma 0), .inr (10, [.int 0, .ref (ma 1), .ref (ma 2), .ref (ma 3), .ref (ma 4), .ref (ma 5), .int 8, .int 0, .int 0, .int 0, .int 0, .long 0, .int 0, .int 0, .int 0, .int (-1), .ref (ma 16), .ref (ma 17), .ref (ma 18), .ref (ma 19), .ref (ma 20), .ref (ma 21), .ref (ma 22), .ref (ma 23), .ref (ma 24), .ref (ma 25), .ref (ma 26), .ref (ma 27), .ref (ma 28), .ref (ma 29), .ref (ma 30), .ref (ma 31), .ref (ma 32), .ref (ma 33), .ref (ma 34), .ref (ma 35), .ref (ma 36), .ref (ma 37), .ref (ma 38), .ref (ma 39), .ref (ma 40), .ref (ma 41), .long 0])), ((ma 5), .inl (cy 0, 1600, .inl f))] s.heap.size = A at hD hA hS ⊢
  have hP : va_P D vwCl [((ma 0), .inr (10, [.int 0, .ref (ma 1), .ref (ma 2), .ref (ma 3), .ref (ma 4), .ref (ma 5), .int 8, .int 0, .int 0, .int 0, .int 0, .long 0, .int 0, .int 0, .int 0, .int (-1), .ref (ma 16), .ref (ma 17), .ref (ma 18), .ref (ma 19), .ref (ma 20), .ref (ma 21), .ref (ma 22), .ref (ma 23), .ref (ma 24), .ref (ma 25), .ref (ma 26), .ref (ma 27), .ref (ma 28), .ref (ma 29), .ref (ma 30), .ref (ma 31), .ref (ma 32), .ref (ma 33), .ref (ma 34), .ref (ma 35), .ref (ma 36), .ref (ma 37), .ref (ma 38), .ref (ma 39), .ref (ma 40), .ref (ma 41), .long 0])), ((ma 5), .inl (cy 0, 1600, .inl f))] s.heap := hP
  have hl : lv_has ls 3 [(0, .ref (ma 0)), (1, .int n0)] := hl
  refine lv_bipush (v := 24) hx hb dX10_four_0 (by decide) ?_
  refine lv_istore_n (lv' := [(2, .int 24), (0, .ref (ma 0)), (1, .int n0)]) hx hb dX10_four_2 rfl hl (by decide) rfl (fun ls hl => ?_)
  refine lv_iload_n hx hb dX10_four_3 rfl (lv_at hl 0 rfl) ?_
  refine lv_if_lt (tgt := 36) hx hb dX10_four_4 (by decide) (fun c_1 => absurd c_1 (by decide)) (fun _ => ?_)
  refine lv_aload_n hx hb dX10_four_7 rfl (lv_at hl 1 rfl) ?_
  refine va_get (D := D) (ci := 10) (v := .ref (ma 5)) (C := RX10) (T := TX10) (N := 43) hx hb hts lay_X10 hown hK.1 hP 0 rfl rfl 5 (by decide) (hts _ fl_X10_23) (fun _ h9 => h9) rfl dX10_four_8 ?_
  refine lv_aload_n hx hb dX10_four_11 rfl (lv_at hl 1 rfl) ?_
  refine va_get (D := D) (ci := 10) (v := .int 8) (C := RX10) (T := TX10) (N := 43) hx hb hts lay_X10 hown hK.1 hP 0 rfl rfl 6 (by decide) (hts _ fl_X10_128) (fun _ h9 => h9) rfl dX10_four_12 ?_
  refine lv_iload_n hx hb dX10_four_15 rfl (lv_at hl 2 rfl) ?_
  refine lv_iload_n hx hb dX10_four_16 rfl (lv_at hl 0 rfl) ?_
  refine lv_ishr hx hb dX10_four_17 ?_
  refine lv_topi (fun z_2 ez_2 => ?_)
  refine lv_i2b hx hb dX10_four_18 rfl ?_
  refine lv_topi (fun z_3 ez_3 => ?_)
  refine va_bast hx hb hK.1 hP hD hS 1 0 rfl rfl (i := 8) (vp_in_iff.mpr (by decide)) dX10_four_19 (fun H locs hP hD hS => ?_)
  have hP : va_P D vwCl [((ma 0), .inr (10, [.int 0, .ref (ma 1), .ref (ma 2), .ref (ma 3), .ref (ma 4), .ref (ma 5), .int 8, .int 0, .int 0, .int 0, .int 0, .long 0, .int 0, .int 0, .int 0, .int (-1), .ref (ma 16), .ref (ma 17), .ref (ma 18), .ref (ma 19), .ref (ma 20), .ref (ma 21), .ref (ma 22), .ref (ma 23), .ref (ma 24), .ref (ma 25), .ref (ma 26), .ref (ma 27), .ref (ma 28), .ref (ma 29), .ref (ma 30), .ref (ma 31), .ref (ma 32), .ref (ma 33), .ref (ma 34), .ref (ma 35), .ref (ma 36), .ref (ma 37), .ref (ma 38), .ref (ma 39), .ref (ma 40), .ref (ma 41), .long 0])), ((ma 5), .inl (cy 0, 1600, .inl (upd f 8 (vp_nar .byte z_3))))] H := hP
  have hD : va_D A [((ma 0), .inr (10, [.int 0, .ref (ma 1), .ref (ma 2), .ref (ma 3), .ref (ma 4), .ref (ma 5), .int 8, .int 0, .int 0, .int 0, .int 0, .long 0, .int 0, .int 0, .int 0, .int (-1), .ref (ma 16), .ref (ma 17), .ref (ma 18), .ref (ma 19), .ref (ma 20), .ref (ma 21), .ref (ma 22), .ref (ma 23), .ref (ma 24), .ref (ma 25), .ref (ma 26), .ref (ma 27), .ref (ma 28), .ref (ma 29), .ref (ma 30), .ref (ma 31), .ref (ma 32), .ref (ma 33), .ref (ma 34), .ref (ma 35), .ref (ma 36), .ref (ma 37), .ref (ma 38), .ref (ma 39), .ref (ma 40), .ref (ma 41), .long 0])), ((ma 5), .inl (cy 0, 1600, .inl (upd f 8 (vp_nar .byte z_3))))] := hD
  generalize (upd f 8 (vp_nar .byte z_3)) = f_4 at hP hD
  refine lv_aload_n hx hb dX10_four_20 rfl (lv_at hl 1 rfl) ?_
  refine lv_dup hx hb dX10_four_21 rfl ?_
  refine va_get (D := D) (ci := 10) (v := .int 8) (C := RX10) (T := TX10) (N := 43) hx hb hts lay_X10 hown hK.1 hP 0 rfl rfl 6 (by decide) (hts _ fl_X10_128) (fun _ h9 => h9) rfl dX10_four_22 ?_
  refine lv_iconst (v := 1) hx hb dX10_four_25 (by decide) ?_
  refine lv_iadd hx hb dX10_four_26 ?_
  refine lv_topi (fun z_5 ez_5 => ?_)
  have ez_5 : z_5 = 9 := ez_5.trans (by decide)
  subst ez_5
  refine va_put (D := D) (ci := 10) (v := .int 9) (ty := tyX10 6) (C := RX10) (T := TX10) (N := 43) hx hb hts lay_X10 tyX10 tyX10_ok nmX10 hown hK.1 hP hD hS 0 rfl rfl 6 (by decide) (hts _ fl_X10_128) (fun _ h9 => h9) rfl (tyX10_ok 6 (by decide)) rfl rfl (Nat.le_of_ble_eq_true rfl) dX10_four_27 (fun H locs hP hD hS => ?_)
  have hP : va_P D vwCl [((ma 0), .inr (10, [.int 0, .ref (ma 1), .ref (ma 2), .ref (ma 3), .ref (ma 4), .ref (ma 5), .int 9, .int 0, .int 0, .int 0, .int 0, .long 0, .int 0, .int 0, .int 0, .int (-1), .ref (ma 16), .ref (ma 17), .ref (ma 18), .ref (ma 19), .ref (ma 20), .ref (ma 21), .ref (ma 22), .ref (ma 23), .ref (ma 24), .ref (ma 25), .ref (ma 26), .ref (ma 27), .ref (ma 28), .ref (ma 29), .ref (ma 30), .ref (ma 31), .ref (ma 32), .ref (ma 33), .ref (ma 34), .ref (ma 35), .ref (ma 36), .ref (ma 37), .ref (ma 38), .ref (ma 39), .ref (ma 40), .ref (ma 41), .long 0])), ((ma 5), .inl (cy 0, 1600, .inl f_4))] H := hP
  have hD : va_D A [((ma 0), .inr (10, [.int 0, .ref (ma 1), .ref (ma 2), .ref (ma 3), .ref (ma 4), .ref (ma 5), .int 9, .int 0, .int 0, .int 0, .int 0, .long 0, .int 0, .int 0, .int 0, .int (-1), .ref (ma 16), .ref (ma 17), .ref (ma 18), .ref (ma 19), .ref (ma 20), .ref (ma 21), .ref (ma 22), .ref (ma 23), .ref (ma 24), .ref (ma 25), .ref (ma 26), .ref (ma 27), .ref (ma 28), .ref (ma 29), .ref (ma 30), .ref (ma 31), .ref (ma 32), .ref (ma 33), .ref (ma 34), .ref (ma 35), .ref (ma 36), .ref (ma 37), .ref (ma 38), .ref (ma 39), .ref (ma 40), .ref (ma 41), .long 0])), ((ma 5), .inl (cy 0, 1600, .inl f_4))] := hD
  refine lv_iinc (v := 16) (lv' := [(2, .int 16), (0, .ref (ma 0)), (1, .int n0)]) hx hb dX10_four_30 hl (k := 0) rfl (by decide) (by decide) rfl (fun ls hl => ?_)
  refine lv_goto (tgt := 3) hx hb dX10_four_33 (by decide) ?_
  refine lv_iload_n hx hb dX10_four_3 rfl (lv_at hl 0 rfl) ?_
  refine lv_if_lt (tgt := 36) hx hb dX10_four_4 (by decide) (fun c_7 => absurd c_7 (by decide)) (fun _ => ?_)
  refine lv_aload_n hx hb dX10_four_7 rfl (lv_at hl 1 rfl) ?_
  refine va_get (D := D) (ci := 10) (v := .ref (ma 5)) (C := RX10) (T := TX10) (N := 43) hx hb hts lay_X10 hown hK.1 hP 0 rfl rfl 5 (by decide) (hts _ fl_X10_23) (fun _ h9 => h9) rfl dX10_four_8 ?_
  refine lv_aload_n hx hb dX10_four_11 rfl (lv_at hl 1 rfl) ?_
  refine va_get (D := D) (ci := 10) (v := .int 9) (C := RX10) (T := TX10) (N := 43) hx hb hts lay_X10 hown hK.1 hP 0 rfl rfl 6 (by decide) (hts _ fl_X10_128) (fun _ h9 => h9) rfl dX10_four_12 ?_
  refine lv_iload_n hx hb dX10_four_15 rfl (lv_at hl 2 rfl) ?_
  refine lv_iload_n hx hb dX10_four_16 rfl (lv_at hl 0 rfl) ?_
  refine lv_ishr hx hb dX10_four_17 ?_
  refine lv_topi (fun z_8 ez_8 => ?_)
  refine lv_i2b hx hb dX10_four_18 rfl ?_
  refine lv_topi (fun z_9 ez_9 => ?_)
  refine va_bast hx hb hK.1 hP hD hS 1 0 rfl rfl (i := 9) (vp_in_iff.mpr (by decide)) dX10_four_19 (fun H locs hP hD hS => ?_)
  have hP : va_P D vwCl [((ma 0), .inr (10, [.int 0, .ref (ma 1), .ref (ma 2), .ref (ma 3), .ref (ma 4), .ref (ma 5), .int 9, .int 0, .int 0, .int 0, .int 0, .long 0, .int 0, .int 0, .int 0, .int (-1), .ref (ma 16), .ref (ma 17), .ref (ma 18), .ref (ma 19), .ref (ma 20), .ref (ma 21), .ref (ma 22), .ref (ma 23), .ref (ma 24), .ref (ma 25), .ref (ma 26), .ref (ma 27), .ref (ma 28), .ref (ma 29), .ref (ma 30), .ref (ma 31), .ref (ma 32), .ref (ma 33), .ref (ma 34), .ref (ma 35), .ref (ma 36), .ref (ma 37), .ref (ma 38), .ref (ma 39), .ref (ma 40), .ref (ma 41), .long 0])), ((ma 5), .inl (cy 0, 1600, .inl (upd f_4 9 (vp_nar .byte z_9))))] H := hP
  have hD : va_D A [((ma 0), .inr (10, [.int 0, .ref (ma 1), .ref (ma 2), .ref (ma 3), .ref (ma 4), .ref (ma 5), .int 9, .int 0, .int 0, .int 0, .int 0, .long 0, .int 0, .int 0, .int 0, .int (-1), .ref (ma 16), .ref (ma 17), .ref (ma 18), .ref (ma 19), .ref (ma 20), .ref (ma 21), .ref (ma 22), .ref (ma 23), .ref (ma 24), .ref (ma 25), .ref (ma 26), .ref (ma 27), .ref (ma 28), .ref (ma 29), .ref (ma 30), .ref (ma 31), .ref (ma 32), .ref (ma 33), .ref (ma 34), .ref (ma 35), .ref (ma 36), .ref (ma 37), .ref (ma 38), .ref (ma 39), .ref (ma 40), .ref (ma 41), .long 0])), ((ma 5), .inl (cy 0, 1600, .inl (upd f_4 9 (vp_nar .byte z_9))))] := hD
  generalize (upd f_4 9 (vp_nar .byte z_9)) = f_10 at hP hD
  refine lv_aload_n hx hb dX10_four_20 rfl (lv_at hl 1 rfl) ?_
  refine lv_dup hx hb dX10_four_21 rfl ?_
  refine va_get (D := D) (ci := 10) (v := .int 9) (C := RX10) (T := TX10) (N := 43) hx hb hts lay_X10 hown hK.1 hP 0 rfl rfl 6 (by decide) (hts _ fl_X10_128) (fun _ h9 => h9) rfl dX10_four_22 ?_
  refine lv_iconst (v := 1) hx hb dX10_four_25 (by decide) ?_
  refine lv_iadd hx hb dX10_four_26 ?_
  refine lv_topi (fun z_11 ez_11 => ?_)
  have ez_11 : z_11 = 10 := ez_11.trans (by decide)
  subst ez_11
  refine va_put (D := D) (ci := 10) (v := .int 10) (ty := tyX10 6) (C := RX10) (T := TX10) (N := 43) hx hb hts lay_X10 tyX10 tyX10_ok nmX10 hown hK.1 hP hD hS 0 rfl rfl 6 (by decide) (hts _ fl_X10_128) (fun _ h9 => h9) rfl (tyX10_ok 6 (by decide)) rfl rfl (Nat.le_of_ble_eq_true rfl) dX10_four_27 (fun H locs hP hD hS => ?_)
  have hP : va_P D vwCl [((ma 0), .inr (10, [.int 0, .ref (ma 1), .ref (ma 2), .ref (ma 3), .ref (ma 4), .ref (ma 5), .int 10, .int 0, .int 0, .int 0, .int 0, .long 0, .int 0, .int 0, .int 0, .int (-1), .ref (ma 16), .ref (ma 17), .ref (ma 18), .ref (ma 19), .ref (ma 20), .ref (ma 21), .ref (ma 22), .ref (ma 23), .ref (ma 24), .ref (ma 25), .ref (ma 26), .ref (ma 27), .ref (ma 28), .ref (ma 29), .ref (ma 30), .ref (ma 31), .ref (ma 32), .ref (ma 33), .ref (ma 34), .ref (ma 35), .ref (ma 36), .ref (ma 37), .ref (ma 38), .ref (ma 39), .ref (ma 40), .ref (ma 41), .long 0])), ((ma 5), .inl (cy 0, 1600, .inl f_10))] H := hP
  have hD : va_D A [((ma 0), .inr (10, [.int 0, .ref (ma 1), .ref (ma 2), .ref (ma 3), .ref (ma 4), .ref (ma 5), .int 10, .int 0, .int 0, .int 0, .int 0, .long 0, .int 0, .int 0, .int 0, .int (-1), .ref (ma 16), .ref (ma 17), .ref (ma 18), .ref (ma 19), .ref (ma 20), .ref (ma 21), .ref (ma 22), .ref (ma 23), .ref (ma 24), .ref (ma 25), .ref (ma 26), .ref (ma 27), .ref (ma 28), .ref (ma 29), .ref (ma 30), .ref (ma 31), .ref (ma 32), .ref (ma 33), .ref (ma 34), .ref (ma 35), .ref (ma 36), .ref (ma 37), .ref (ma 38), .ref (ma 39), .ref (ma 40), .ref (ma 41), .long 0])), ((ma 5), .inl (cy 0, 1600, .inl f_10))] := hD
  refine lv_iinc (v := 8) (lv' := [(2, .int 8), (0, .ref (ma 0)), (1, .int n0)]) hx hb dX10_four_30 hl (k := 0) rfl (by decide) (by decide) rfl (fun ls hl => ?_)
  refine lv_goto (tgt := 3) hx hb dX10_four_33 (by decide) ?_
  refine lv_iload_n hx hb dX10_four_3 rfl (lv_at hl 0 rfl) ?_
  refine lv_if_lt (tgt := 36) hx hb dX10_four_4 (by decide) (fun c_13 => absurd c_13 (by decide)) (fun _ => ?_)
  refine lv_aload_n hx hb dX10_four_7 rfl (lv_at hl 1 rfl) ?_
  refine va_get (D := D) (ci := 10) (v := .ref (ma 5)) (C := RX10) (T := TX10) (N := 43) hx hb hts lay_X10 hown hK.1 hP 0 rfl rfl 5 (by decide) (hts _ fl_X10_23) (fun _ h9 => h9) rfl dX10_four_8 ?_
  refine lv_aload_n hx hb dX10_four_11 rfl (lv_at hl 1 rfl) ?_
  refine va_get (D := D) (ci := 10) (v := .int 10) (C := RX10) (T := TX10) (N := 43) hx hb hts lay_X10 hown hK.1 hP 0 rfl rfl 6 (by decide) (hts _ fl_X10_128) (fun _ h9 => h9) rfl dX10_four_12 ?_
  refine lv_iload_n hx hb dX10_four_15 rfl (lv_at hl 2 rfl) ?_
  refine lv_iload_n hx hb dX10_four_16 rfl (lv_at hl 0 rfl) ?_
  refine lv_ishr hx hb dX10_four_17 ?_
  refine lv_topi (fun z_14 ez_14 => ?_)
  refine lv_i2b hx hb dX10_four_18 rfl ?_
  refine lv_topi (fun z_15 ez_15 => ?_)
  refine va_bast hx hb hK.1 hP hD hS 1 0 rfl rfl (i := 10) (vp_in_iff.mpr (by decide)) dX10_four_19 (fun H locs hP hD hS => ?_)
  have hP : va_P D vwCl [((ma 0), .inr (10, [.int 0, .ref (ma 1), .ref (ma 2), .ref (ma 3), .ref (ma 4), .ref (ma 5), .int 10, .int 0, .int 0, .int 0, .int 0, .long 0, .int 0, .int 0, .int 0, .int (-1), .ref (ma 16), .ref (ma 17), .ref (ma 18), .ref (ma 19), .ref (ma 20), .ref (ma 21), .ref (ma 22), .ref (ma 23), .ref (ma 24), .ref (ma 25), .ref (ma 26), .ref (ma 27), .ref (ma 28), .ref (ma 29), .ref (ma 30), .ref (ma 31), .ref (ma 32), .ref (ma 33), .ref (ma 34), .ref (ma 35), .ref (ma 36), .ref (ma 37), .ref (ma 38), .ref (ma 39), .ref (ma 40), .ref (ma 41), .long 0])), ((ma 5), .inl (cy 0, 1600, .inl (upd f_10 10 (vp_nar .byte z_15))))] H := hP
  have hD : va_D A [((ma 0), .inr (10, [.int 0, .ref (ma 1), .ref (ma 2), .ref (ma 3), .ref (ma 4), .ref (ma 5), .int 10, .int 0, .int 0, .int 0, .int 0, .long 0, .int 0, .int 0, .int 0, .int (-1), .ref (ma 16), .ref (ma 17), .ref (ma 18), .ref (ma 19), .ref (ma 20), .ref (ma 21), .ref (ma 22), .ref (ma 23), .ref (ma 24), .ref (ma 25), .ref (ma 26), .ref (ma 27), .ref (ma 28), .ref (ma 29), .ref (ma 30), .ref (ma 31), .ref (ma 32), .ref (ma 33), .ref (ma 34), .ref (ma 35), .ref (ma 36), .ref (ma 37), .ref (ma 38), .ref (ma 39), .ref (ma 40), .ref (ma 41), .long 0])), ((ma 5), .inl (cy 0, 1600, .inl (upd f_10 10 (vp_nar .byte z_15))))] := hD
  generalize (upd f_10 10 (vp_nar .byte z_15)) = f_16 at hP hD
  refine lv_aload_n hx hb dX10_four_20 rfl (lv_at hl 1 rfl) ?_
  refine lv_dup hx hb dX10_four_21 rfl ?_
  refine va_get (D := D) (ci := 10) (v := .int 10) (C := RX10) (T := TX10) (N := 43) hx hb hts lay_X10 hown hK.1 hP 0 rfl rfl 6 (by decide) (hts _ fl_X10_128) (fun _ h9 => h9) rfl dX10_four_22 ?_
  refine lv_iconst (v := 1) hx hb dX10_four_25 (by decide) ?_
  refine lv_iadd hx hb dX10_four_26 ?_
  refine lv_topi (fun z_17 ez_17 => ?_)
  have ez_17 : z_17 = 11 := ez_17.trans (by decide)
  subst ez_17
  refine va_put (D := D) (ci := 10) (v := .int 11) (ty := tyX10 6) (C := RX10) (T := TX10) (N := 43) hx hb hts lay_X10 tyX10 tyX10_ok nmX10 hown hK.1 hP hD hS 0 rfl rfl 6 (by decide) (hts _ fl_X10_128) (fun _ h9 => h9) rfl (tyX10_ok 6 (by decide)) rfl rfl (Nat.le_of_ble_eq_true rfl) dX10_four_27 (fun H locs hP hD hS => ?_)
  have hP : va_P D vwCl [((ma 0), .inr (10, [.int 0, .ref (ma 1), .ref (ma 2), .ref (ma 3), .ref (ma 4), .ref (ma 5), .int 11, .int 0, .int 0, .int 0, .int 0, .long 0, .int 0, .int 0, .int 0, .int (-1), .ref (ma 16), .ref (ma 17), .ref (ma 18), .ref (ma 19), .ref (ma 20), .ref (ma 21), .ref (ma 22), .ref (ma 23), .ref (ma 24), .ref (ma 25), .ref (ma 26), .ref (ma 27), .ref (ma 28), .ref (ma 29), .ref (ma 30), .ref (ma 31), .ref (ma 32), .ref (ma 33), .ref (ma 34), .ref (ma 35), .ref (ma 36), .ref (ma 37), .ref (ma 38), .ref (ma 39), .ref (ma 40), .ref (ma 41), .long 0])), ((ma 5), .inl (cy 0, 1600, .inl f_16))] H := hP
  have hD : va_D A [((ma 0), .inr (10, [.int 0, .ref (ma 1), .ref (ma 2), .ref (ma 3), .ref (ma 4), .ref (ma 5), .int 11, .int 0, .int 0, .int 0, .int 0, .long 0, .int 0, .int 0, .int 0, .int (-1), .ref (ma 16), .ref (ma 17), .ref (ma 18), .ref (ma 19), .ref (ma 20), .ref (ma 21), .ref (ma 22), .ref (ma 23), .ref (ma 24), .ref (ma 25), .ref (ma 26), .ref (ma 27), .ref (ma 28), .ref (ma 29), .ref (ma 30), .ref (ma 31), .ref (ma 32), .ref (ma 33), .ref (ma 34), .ref (ma 35), .ref (ma 36), .ref (ma 37), .ref (ma 38), .ref (ma 39), .ref (ma 40), .ref (ma 41), .long 0])), ((ma 5), .inl (cy 0, 1600, .inl f_16))] := hD
  refine lv_iinc (v := 0) (lv' := [(2, .int 0), (0, .ref (ma 0)), (1, .int n0)]) hx hb dX10_four_30 hl (k := 0) rfl (by decide) (by decide) rfl (fun ls hl => ?_)
  refine lv_goto (tgt := 3) hx hb dX10_four_33 (by decide) ?_
  refine lv_iload_n hx hb dX10_four_3 rfl (lv_at hl 0 rfl) ?_
  refine lv_if_lt (tgt := 36) hx hb dX10_four_4 (by decide) (fun c_19 => absurd c_19 (by decide)) (fun _ => ?_)
  refine lv_aload_n hx hb dX10_four_7 rfl (lv_at hl 1 rfl) ?_
  refine va_get (D := D) (ci := 10) (v := .ref (ma 5)) (C := RX10) (T := TX10) (N := 43) hx hb hts lay_X10 hown hK.1 hP 0 rfl rfl 5 (by decide) (hts _ fl_X10_23) (fun _ h9 => h9) rfl dX10_four_8 ?_
  refine lv_aload_n hx hb dX10_four_11 rfl (lv_at hl 1 rfl) ?_
  refine va_get (D := D) (ci := 10) (v := .int 11) (C := RX10) (T := TX10) (N := 43) hx hb hts lay_X10 hown hK.1 hP 0 rfl rfl 6 (by decide) (hts _ fl_X10_128) (fun _ h9 => h9) rfl dX10_four_12 ?_
  refine lv_iload_n hx hb dX10_four_15 rfl (lv_at hl 2 rfl) ?_
  refine lv_iload_n hx hb dX10_four_16 rfl (lv_at hl 0 rfl) ?_
  refine lv_ishr hx hb dX10_four_17 ?_
  refine lv_topi (fun z_20 ez_20 => ?_)
  refine lv_i2b hx hb dX10_four_18 rfl ?_
  refine lv_topi (fun z_21 ez_21 => ?_)
  refine va_bast hx hb hK.1 hP hD hS 1 0 rfl rfl (i := 11) (vp_in_iff.mpr (by decide)) dX10_four_19 (fun H locs hP hD hS => ?_)
  have hP : va_P D vwCl [((ma 0), .inr (10, [.int 0, .ref (ma 1), .ref (ma 2), .ref (ma 3), .ref (ma 4), .ref (ma 5), .int 11, .int 0, .int 0, .int 0, .int 0, .long 0, .int 0, .int 0, .int 0, .int (-1), .ref (ma 16), .ref (ma 17), .ref (ma 18), .ref (ma 19), .ref (ma 20), .ref (ma 21), .ref (ma 22), .ref (ma 23), .ref (ma 24), .ref (ma 25), .ref (ma 26), .ref (ma 27), .ref (ma 28), .ref (ma 29), .ref (ma 30), .ref (ma 31), .ref (ma 32), .ref (ma 33), .ref (ma 34), .ref (ma 35), .ref (ma 36), .ref (ma 37), .ref (ma 38), .ref (ma 39), .ref (ma 40), .ref (ma 41), .long 0])), ((ma 5), .inl (cy 0, 1600, .inl (upd f_16 11 (vp_nar .byte z_21))))] H := hP
  have hD : va_D A [((ma 0), .inr (10, [.int 0, .ref (ma 1), .ref (ma 2), .ref (ma 3), .ref (ma 4), .ref (ma 5), .int 11, .int 0, .int 0, .int 0, .int 0, .long 0, .int 0, .int 0, .int 0, .int (-1), .ref (ma 16), .ref (ma 17), .ref (ma 18), .ref (ma 19), .ref (ma 20), .ref (ma 21), .ref (ma 22), .ref (ma 23), .ref (ma 24), .ref (ma 25), .ref (ma 26), .ref (ma 27), .ref (ma 28), .ref (ma 29), .ref (ma 30), .ref (ma 31), .ref (ma 32), .ref (ma 33), .ref (ma 34), .ref (ma 35), .ref (ma 36), .ref (ma 37), .ref (ma 38), .ref (ma 39), .ref (ma 40), .ref (ma 41), .long 0])), ((ma 5), .inl (cy 0, 1600, .inl (upd f_16 11 (vp_nar .byte z_21))))] := hD
  generalize (upd f_16 11 (vp_nar .byte z_21)) = f_22 at hP hD
  refine lv_aload_n hx hb dX10_four_20 rfl (lv_at hl 1 rfl) ?_
  refine lv_dup hx hb dX10_four_21 rfl ?_
  refine va_get (D := D) (ci := 10) (v := .int 11) (C := RX10) (T := TX10) (N := 43) hx hb hts lay_X10 hown hK.1 hP 0 rfl rfl 6 (by decide) (hts _ fl_X10_128) (fun _ h9 => h9) rfl dX10_four_22 ?_
  refine lv_iconst (v := 1) hx hb dX10_four_25 (by decide) ?_
  refine lv_iadd hx hb dX10_four_26 ?_
  refine lv_topi (fun z_23 ez_23 => ?_)
  have ez_23 : z_23 = 12 := ez_23.trans (by decide)
  subst ez_23
  refine va_put (D := D) (ci := 10) (v := .int 12) (ty := tyX10 6) (C := RX10) (T := TX10) (N := 43) hx hb hts lay_X10 tyX10 tyX10_ok nmX10 hown hK.1 hP hD hS 0 rfl rfl 6 (by decide) (hts _ fl_X10_128) (fun _ h9 => h9) rfl (tyX10_ok 6 (by decide)) rfl rfl (Nat.le_of_ble_eq_true rfl) dX10_four_27 (fun H locs hP hD hS => ?_)
  have hP : va_P D vwCl [((ma 0), .inr (10, [.int 0, .ref (ma 1), .ref (ma 2), .ref (ma 3), .ref (ma 4), .ref (ma 5), .int 12, .int 0, .int 0, .int 0, .int 0, .long 0, .int 0, .int 0, .int 0, .int (-1), .ref (ma 16), .ref (ma 17), .ref (ma 18), .ref (ma 19), .ref (ma 20), .ref (ma 21), .ref (ma 22), .ref (ma 23), .ref (ma 24), .ref (ma 25), .ref (ma 26), .ref (ma 27), .ref (ma 28), .ref (ma 29), .ref (ma 30), .ref (ma 31), .ref (ma 32), .ref (ma 33), .ref (ma 34), .ref (ma 35), .ref (ma 36), .ref (ma 37), .ref (ma 38), .ref (ma 39), .ref (ma 40), .ref (ma 41), .long 0])), ((ma 5), .inl (cy 0, 1600, .inl f_22))] H := hP
  have hD : va_D A [((ma 0), .inr (10, [.int 0, .ref (ma 1), .ref (ma 2), .ref (ma 3), .ref (ma 4), .ref (ma 5), .int 12, .int 0, .int 0, .int 0, .int 0, .long 0, .int 0, .int 0, .int 0, .int (-1), .ref (ma 16), .ref (ma 17), .ref (ma 18), .ref (ma 19), .ref (ma 20), .ref (ma 21), .ref (ma 22), .ref (ma 23), .ref (ma 24), .ref (ma 25), .ref (ma 26), .ref (ma 27), .ref (ma 28), .ref (ma 29), .ref (ma 30), .ref (ma 31), .ref (ma 32), .ref (ma 33), .ref (ma 34), .ref (ma 35), .ref (ma 36), .ref (ma 37), .ref (ma 38), .ref (ma 39), .ref (ma 40), .ref (ma 41), .long 0])), ((ma 5), .inl (cy 0, 1600, .inl f_22))] := hD
  refine lv_iinc (v := (-8)) (lv' := [(2, .int (-8)), (0, .ref (ma 0)), (1, .int n0)]) hx hb dX10_four_30 hl (k := 0) rfl (by decide) (by decide) rfl (fun ls hl => ?_)
  refine lv_goto (tgt := 3) hx hb dX10_four_33 (by decide) ?_
  refine lv_iload_n hx hb dX10_four_3 rfl (lv_at hl 0 rfl) ?_
  refine lv_if_lt (tgt := 36) hx hb dX10_four_4 (by decide) (fun _ => ?_) (fun c_25 => absurd (by decide) c_25)
  exact ret_v hx hb hr hlocks ⟨⟨hS.1, hS.2.1⟩, ((fun _ => 0), (fun k => match k with | 0 => f_22 | _ => (fun _ => 0)), (fun _ => (fun _ => 0)), (fun _ => 0)), rfl, hP.sub [0, 1] rfl, hD.sub [0, 1] (by decide) rfl⟩ hS.2.2 (Nat.le_of_ble_eq_true rfl) (Nat.le_of_ble_eq_true rfl) dX10_four_36
set_option maxHeartbeats 4000000 in
set_option maxRecDepth 100000 in
theorem tape4_12 (l : Launch) (D : va_G) (cy : Nat → ClassId) (xa : Nat → Nat) (f : Nat → Int32) (n0 : Int32) (sz : Nat) : MM l yX9_tapeFour cX9_tapeFour 3 none 0 0 0 D cy [.ref (xa 0), .int n0] (PW D [((xa 0), .inr (9, [.ref (xa 1), .ref (xa 2), .ref (xa 3), .ref (xa 4), .ref (xa 5), .ref (xa 6), .ref (xa 7), .ref (xa 8), .ref (xa 9), .int 12, .ref (xa 11), .null, .int 0, .int (-1)])), ((xa 1), .inl (cy 0, 1600, .inl f))] sz) (QW D (va_A [((xa 0), .inr (9, [.ref (xa 1), .ref (xa 2), .ref (xa 3), .ref (xa 4), .ref (xa 5), .ref (xa 6), .ref (xa 7), .ref (xa 8), .ref (xa 9), .int 12, .ref (xa 11), .null, .int 0, .int (-1)])), ((xa 1), .inl (cy 0, 1600, .inl f))] sz) (S := (Nat → Nat) × (Nat → Nat → Int32) × (Nat → Nat → Int64) × (Nat → Int32)) (fun v u => v = none) (fun u => [((xa 0), .inr (9, [.ref (xa 1), .ref (xa 2), .ref (xa 3), .ref (xa 4), .ref (xa 5), .ref (xa 6), .ref (xa 7), .ref (xa 8), .ref (xa 9), .int 16, .ref (xa 11), .null, .int 0, .int (-1)])), ((xa 1), .inl (cy 0, 1600, .inl (u.2.1 0)))])) (va_A [((xa 0), .inr (9, [.ref (xa 1), .ref (xa 2), .ref (xa 3), .ref (xa 4), .ref (xa 5), .ref (xa 6), .ref (xa 7), .ref (xa 8), .ref (xa 9), .int 12, .ref (xa 11), .null, .int 0, .int (-1)])), ((xa 1), .inl (cy 0, 1600, .inl f))] sz) := by
  refine MM.of (by decide) (Nat.le_of_ble_eq_true rfl) ?_
  intro p e s m below meth c C hPW ls hl
  obtain ⟨hx, hb, hr, hml, hown, hts, hlocks, hK, hnm⟩ := C
  obtain ⟨rfl, hP, hD0⟩ := hPW
  have hD := hD0.self (sz := s.heap.size)
  have hA : ∀ q : Nat, s.heap.size ≤ q → (va_A [((xa 0), .inr (9, [.ref (xa 1), .ref (xa 2), .ref (xa 3), .ref (xa 4), .ref (xa 5), .ref (xa 6), .ref (xa 7), .ref (xa 8), .ref (xa 9), .int 12, .ref (xa 11), .null, .int 0, .int (-1)])), ((xa 1), .inl (cy 0, 1600, .inl f))] s.heap.size) q := fun q h => Or.inr h
  have hS : va_S (va_A [((xa 0), .inr (9, [.ref (xa 1), .ref (xa 2), .ref (xa 3), .ref (xa 4), .ref (xa 5), .ref (xa 6), .ref (xa 7), .ref (xa 8), .ref (xa 9), .int 12, .ref (xa 11), .null, .int 0, .int (-1)])), ((xa 1), .inl (cy 0, 1600, .inl f))] s.heap.size) s.heap s.heap [] := va_S.rf
  generalize va_A [((xa 0), .inr (9, [.ref (xa 1), .ref (xa 2), .ref (xa 3), .ref (xa 4), .ref (xa 5), .ref (xa 6), .ref (xa 7), .ref (xa 8), .ref (xa 9), .int 12, .ref (xa 11), .null, .int 0, .int (-1)])), ((xa 1), .inl (cy 0, 1600, .inl f))] s.heap.size = A at hD hA hS ⊢
  have hP : va_P D vwCl [((xa 0), .inr (9, [.ref (xa 1), .ref (xa 2), .ref (xa 3), .ref (xa 4), .ref (xa 5), .ref (xa 6), .ref (xa 7), .ref (xa 8), .ref (xa 9), .int 12, .ref (xa 11), .null, .int 0, .int (-1)])), ((xa 1), .inl (cy 0, 1600, .inl f))] s.heap := hP
  have hl : lv_has ls 3 [(0, .ref (xa 0)), (1, .int n0)] := hl
  refine lv_bipush (v := 24) hx hb dX9_tapeFour_0 (by decide) ?_
  refine lv_istore_n (lv' := [(2, .int 24), (0, .ref (xa 0)), (1, .int n0)]) hx hb dX9_tapeFour_2 rfl hl (by decide) rfl (fun ls hl => ?_)
  refine lv_iload_n hx hb dX9_tapeFour_3 rfl (lv_at hl 0 rfl) ?_
  refine lv_if_lt (tgt := 46) hx hb dX9_tapeFour_4 (by decide) (fun c_1 => absurd c_1 (by decide)) (fun _ => ?_)
  refine lv_aload_n hx hb dX9_tapeFour_7 rfl (lv_at hl 1 rfl) ?_
  refine va_get (D := D) (ci := 9) (v := .int 12) (C := RX9) (T := TX9) (N := 14) hx hb hts lay_X9 hown hK.1 hP 0 rfl rfl 9 (by decide) (hts _ fl_X9_75) (fun _ h9 => h9) rfl dX9_tapeFour_8 ?_
  refine lv_sipush (v := 1600) hx hb dX9_tapeFour_11 (by decide) ?_
  refine lv_icmp_ge (tgt := 40) hx hb dX9_tapeFour_14 (by decide) (fun c_2 => absurd c_2 (by decide)) (fun _ => ?_)
  refine lv_aload_n hx hb dX9_tapeFour_17 rfl (lv_at hl 1 rfl) ?_
  refine va_get (D := D) (ci := 9) (v := .ref (xa 1)) (C := RX9) (T := TX9) (N := 14) hx hb hts lay_X9 hown hK.1 hP 0 rfl rfl 0 (by decide) (hts _ fl_X9_9) (fun _ h9 => h9) rfl dX9_tapeFour_18 ?_
  refine lv_aload_n hx hb dX9_tapeFour_21 rfl (lv_at hl 1 rfl) ?_
  refine va_get (D := D) (ci := 9) (v := .int 12) (C := RX9) (T := TX9) (N := 14) hx hb hts lay_X9 hown hK.1 hP 0 rfl rfl 9 (by decide) (hts _ fl_X9_75) (fun _ h9 => h9) rfl dX9_tapeFour_22 ?_
  refine lv_iload_n hx hb dX9_tapeFour_25 rfl (lv_at hl 2 rfl) ?_
  refine lv_iload_n hx hb dX9_tapeFour_26 rfl (lv_at hl 0 rfl) ?_
  refine lv_ishr hx hb dX9_tapeFour_27 ?_
  refine lv_topi (fun z_3 ez_3 => ?_)
  refine lv_i2b hx hb dX9_tapeFour_28 rfl ?_
  refine lv_topi (fun z_4 ez_4 => ?_)
  refine va_bast hx hb hK.1 hP hD hS 1 0 rfl rfl (i := 12) (vp_in_iff.mpr (by decide)) dX9_tapeFour_29 (fun H locs hP hD hS => ?_)
  have hP : va_P D vwCl [((xa 0), .inr (9, [.ref (xa 1), .ref (xa 2), .ref (xa 3), .ref (xa 4), .ref (xa 5), .ref (xa 6), .ref (xa 7), .ref (xa 8), .ref (xa 9), .int 12, .ref (xa 11), .null, .int 0, .int (-1)])), ((xa 1), .inl (cy 0, 1600, .inl (upd f 12 (vp_nar .byte z_4))))] H := hP
  have hD : va_D A [((xa 0), .inr (9, [.ref (xa 1), .ref (xa 2), .ref (xa 3), .ref (xa 4), .ref (xa 5), .ref (xa 6), .ref (xa 7), .ref (xa 8), .ref (xa 9), .int 12, .ref (xa 11), .null, .int 0, .int (-1)])), ((xa 1), .inl (cy 0, 1600, .inl (upd f 12 (vp_nar .byte z_4))))] := hD
  generalize (upd f 12 (vp_nar .byte z_4)) = f_5 at hP hD
  refine lv_aload_n hx hb dX9_tapeFour_30 rfl (lv_at hl 1 rfl) ?_
  refine lv_dup hx hb dX9_tapeFour_31 rfl ?_
  refine va_get (D := D) (ci := 9) (v := .int 12) (C := RX9) (T := TX9) (N := 14) hx hb hts lay_X9 hown hK.1 hP 0 rfl rfl 9 (by decide) (hts _ fl_X9_75) (fun _ h9 => h9) rfl dX9_tapeFour_32 ?_
  refine lv_iconst (v := 1) hx hb dX9_tapeFour_35 (by decide) ?_
  refine lv_iadd hx hb dX9_tapeFour_36 ?_
  refine lv_topi (fun z_6 ez_6 => ?_)
  have ez_6 : z_6 = 13 := ez_6.trans (by decide)
  subst ez_6
  refine va_put (D := D) (ci := 9) (v := .int 13) (ty := tyX9 9) (C := RX9) (T := TX9) (N := 14) hx hb hts lay_X9 tyX9 tyX9_ok nmX9 hown hK.1 hP hD hS 0 rfl rfl 9 (by decide) (hts _ fl_X9_75) (fun _ h9 => h9) rfl (tyX9_ok 9 (by decide)) rfl rfl (Nat.le_of_ble_eq_true rfl) dX9_tapeFour_37 (fun H locs hP hD hS => ?_)
  have hP : va_P D vwCl [((xa 0), .inr (9, [.ref (xa 1), .ref (xa 2), .ref (xa 3), .ref (xa 4), .ref (xa 5), .ref (xa 6), .ref (xa 7), .ref (xa 8), .ref (xa 9), .int 13, .ref (xa 11), .null, .int 0, .int (-1)])), ((xa 1), .inl (cy 0, 1600, .inl f_5))] H := hP
  have hD : va_D A [((xa 0), .inr (9, [.ref (xa 1), .ref (xa 2), .ref (xa 3), .ref (xa 4), .ref (xa 5), .ref (xa 6), .ref (xa 7), .ref (xa 8), .ref (xa 9), .int 13, .ref (xa 11), .null, .int 0, .int (-1)])), ((xa 1), .inl (cy 0, 1600, .inl f_5))] := hD
  refine lv_iinc (v := 16) (lv' := [(2, .int 16), (0, .ref (xa 0)), (1, .int n0)]) hx hb dX9_tapeFour_40 hl (k := 0) rfl (by decide) (by decide) rfl (fun ls hl => ?_)
  refine lv_goto (tgt := 3) hx hb dX9_tapeFour_43 (by decide) ?_
  refine lv_iload_n hx hb dX9_tapeFour_3 rfl (lv_at hl 0 rfl) ?_
  refine lv_if_lt (tgt := 46) hx hb dX9_tapeFour_4 (by decide) (fun c_8 => absurd c_8 (by decide)) (fun _ => ?_)
  refine lv_aload_n hx hb dX9_tapeFour_7 rfl (lv_at hl 1 rfl) ?_
  refine va_get (D := D) (ci := 9) (v := .int 13) (C := RX9) (T := TX9) (N := 14) hx hb hts lay_X9 hown hK.1 hP 0 rfl rfl 9 (by decide) (hts _ fl_X9_75) (fun _ h9 => h9) rfl dX9_tapeFour_8 ?_
  refine lv_sipush (v := 1600) hx hb dX9_tapeFour_11 (by decide) ?_
  refine lv_icmp_ge (tgt := 40) hx hb dX9_tapeFour_14 (by decide) (fun c_9 => absurd c_9 (by decide)) (fun _ => ?_)
  refine lv_aload_n hx hb dX9_tapeFour_17 rfl (lv_at hl 1 rfl) ?_
  refine va_get (D := D) (ci := 9) (v := .ref (xa 1)) (C := RX9) (T := TX9) (N := 14) hx hb hts lay_X9 hown hK.1 hP 0 rfl rfl 0 (by decide) (hts _ fl_X9_9) (fun _ h9 => h9) rfl dX9_tapeFour_18 ?_
  refine lv_aload_n hx hb dX9_tapeFour_21 rfl (lv_at hl 1 rfl) ?_
  refine va_get (D := D) (ci := 9) (v := .int 13) (C := RX9) (T := TX9) (N := 14) hx hb hts lay_X9 hown hK.1 hP 0 rfl rfl 9 (by decide) (hts _ fl_X9_75) (fun _ h9 => h9) rfl dX9_tapeFour_22 ?_
  refine lv_iload_n hx hb dX9_tapeFour_25 rfl (lv_at hl 2 rfl) ?_
  refine lv_iload_n hx hb dX9_tapeFour_26 rfl (lv_at hl 0 rfl) ?_
  refine lv_ishr hx hb dX9_tapeFour_27 ?_
  refine lv_topi (fun z_10 ez_10 => ?_)
  refine lv_i2b hx hb dX9_tapeFour_28 rfl ?_
  refine lv_topi (fun z_11 ez_11 => ?_)
  refine va_bast hx hb hK.1 hP hD hS 1 0 rfl rfl (i := 13) (vp_in_iff.mpr (by decide)) dX9_tapeFour_29 (fun H locs hP hD hS => ?_)
  have hP : va_P D vwCl [((xa 0), .inr (9, [.ref (xa 1), .ref (xa 2), .ref (xa 3), .ref (xa 4), .ref (xa 5), .ref (xa 6), .ref (xa 7), .ref (xa 8), .ref (xa 9), .int 13, .ref (xa 11), .null, .int 0, .int (-1)])), ((xa 1), .inl (cy 0, 1600, .inl (upd f_5 13 (vp_nar .byte z_11))))] H := hP
  have hD : va_D A [((xa 0), .inr (9, [.ref (xa 1), .ref (xa 2), .ref (xa 3), .ref (xa 4), .ref (xa 5), .ref (xa 6), .ref (xa 7), .ref (xa 8), .ref (xa 9), .int 13, .ref (xa 11), .null, .int 0, .int (-1)])), ((xa 1), .inl (cy 0, 1600, .inl (upd f_5 13 (vp_nar .byte z_11))))] := hD
  generalize (upd f_5 13 (vp_nar .byte z_11)) = f_12 at hP hD
  refine lv_aload_n hx hb dX9_tapeFour_30 rfl (lv_at hl 1 rfl) ?_
  refine lv_dup hx hb dX9_tapeFour_31 rfl ?_
  refine va_get (D := D) (ci := 9) (v := .int 13) (C := RX9) (T := TX9) (N := 14) hx hb hts lay_X9 hown hK.1 hP 0 rfl rfl 9 (by decide) (hts _ fl_X9_75) (fun _ h9 => h9) rfl dX9_tapeFour_32 ?_
  refine lv_iconst (v := 1) hx hb dX9_tapeFour_35 (by decide) ?_
  refine lv_iadd hx hb dX9_tapeFour_36 ?_
  refine lv_topi (fun z_13 ez_13 => ?_)
  have ez_13 : z_13 = 14 := ez_13.trans (by decide)
  subst ez_13
  refine va_put (D := D) (ci := 9) (v := .int 14) (ty := tyX9 9) (C := RX9) (T := TX9) (N := 14) hx hb hts lay_X9 tyX9 tyX9_ok nmX9 hown hK.1 hP hD hS 0 rfl rfl 9 (by decide) (hts _ fl_X9_75) (fun _ h9 => h9) rfl (tyX9_ok 9 (by decide)) rfl rfl (Nat.le_of_ble_eq_true rfl) dX9_tapeFour_37 (fun H locs hP hD hS => ?_)
  have hP : va_P D vwCl [((xa 0), .inr (9, [.ref (xa 1), .ref (xa 2), .ref (xa 3), .ref (xa 4), .ref (xa 5), .ref (xa 6), .ref (xa 7), .ref (xa 8), .ref (xa 9), .int 14, .ref (xa 11), .null, .int 0, .int (-1)])), ((xa 1), .inl (cy 0, 1600, .inl f_12))] H := hP
  have hD : va_D A [((xa 0), .inr (9, [.ref (xa 1), .ref (xa 2), .ref (xa 3), .ref (xa 4), .ref (xa 5), .ref (xa 6), .ref (xa 7), .ref (xa 8), .ref (xa 9), .int 14, .ref (xa 11), .null, .int 0, .int (-1)])), ((xa 1), .inl (cy 0, 1600, .inl f_12))] := hD
  refine lv_iinc (v := 8) (lv' := [(2, .int 8), (0, .ref (xa 0)), (1, .int n0)]) hx hb dX9_tapeFour_40 hl (k := 0) rfl (by decide) (by decide) rfl (fun ls hl => ?_)
  refine lv_goto (tgt := 3) hx hb dX9_tapeFour_43 (by decide) ?_
  refine lv_iload_n hx hb dX9_tapeFour_3 rfl (lv_at hl 0 rfl) ?_
  refine lv_if_lt (tgt := 46) hx hb dX9_tapeFour_4 (by decide) (fun c_15 => absurd c_15 (by decide)) (fun _ => ?_)
  refine lv_aload_n hx hb dX9_tapeFour_7 rfl (lv_at hl 1 rfl) ?_
  refine va_get (D := D) (ci := 9) (v := .int 14) (C := RX9) (T := TX9) (N := 14) hx hb hts lay_X9 hown hK.1 hP 0 rfl rfl 9 (by decide) (hts _ fl_X9_75) (fun _ h9 => h9) rfl dX9_tapeFour_8 ?_
  refine lv_sipush (v := 1600) hx hb dX9_tapeFour_11 (by decide) ?_
  refine lv_icmp_ge (tgt := 40) hx hb dX9_tapeFour_14 (by decide) (fun c_16 => absurd c_16 (by decide)) (fun _ => ?_)
  refine lv_aload_n hx hb dX9_tapeFour_17 rfl (lv_at hl 1 rfl) ?_
  refine va_get (D := D) (ci := 9) (v := .ref (xa 1)) (C := RX9) (T := TX9) (N := 14) hx hb hts lay_X9 hown hK.1 hP 0 rfl rfl 0 (by decide) (hts _ fl_X9_9) (fun _ h9 => h9) rfl dX9_tapeFour_18 ?_
  refine lv_aload_n hx hb dX9_tapeFour_21 rfl (lv_at hl 1 rfl) ?_
  refine va_get (D := D) (ci := 9) (v := .int 14) (C := RX9) (T := TX9) (N := 14) hx hb hts lay_X9 hown hK.1 hP 0 rfl rfl 9 (by decide) (hts _ fl_X9_75) (fun _ h9 => h9) rfl dX9_tapeFour_22 ?_
  refine lv_iload_n hx hb dX9_tapeFour_25 rfl (lv_at hl 2 rfl) ?_
  refine lv_iload_n hx hb dX9_tapeFour_26 rfl (lv_at hl 0 rfl) ?_
  refine lv_ishr hx hb dX9_tapeFour_27 ?_
  refine lv_topi (fun z_17 ez_17 => ?_)
  refine lv_i2b hx hb dX9_tapeFour_28 rfl ?_
  refine lv_topi (fun z_18 ez_18 => ?_)
  refine va_bast hx hb hK.1 hP hD hS 1 0 rfl rfl (i := 14) (vp_in_iff.mpr (by decide)) dX9_tapeFour_29 (fun H locs hP hD hS => ?_)
  have hP : va_P D vwCl [((xa 0), .inr (9, [.ref (xa 1), .ref (xa 2), .ref (xa 3), .ref (xa 4), .ref (xa 5), .ref (xa 6), .ref (xa 7), .ref (xa 8), .ref (xa 9), .int 14, .ref (xa 11), .null, .int 0, .int (-1)])), ((xa 1), .inl (cy 0, 1600, .inl (upd f_12 14 (vp_nar .byte z_18))))] H := hP
  have hD : va_D A [((xa 0), .inr (9, [.ref (xa 1), .ref (xa 2), .ref (xa 3), .ref (xa 4), .ref (xa 5), .ref (xa 6), .ref (xa 7), .ref (xa 8), .ref (xa 9), .int 14, .ref (xa 11), .null, .int 0, .int (-1)])), ((xa 1), .inl (cy 0, 1600, .inl (upd f_12 14 (vp_nar .byte z_18))))] := hD
  generalize (upd f_12 14 (vp_nar .byte z_18)) = f_19 at hP hD
  refine lv_aload_n hx hb dX9_tapeFour_30 rfl (lv_at hl 1 rfl) ?_
  refine lv_dup hx hb dX9_tapeFour_31 rfl ?_
  refine va_get (D := D) (ci := 9) (v := .int 14) (C := RX9) (T := TX9) (N := 14) hx hb hts lay_X9 hown hK.1 hP 0 rfl rfl 9 (by decide) (hts _ fl_X9_75) (fun _ h9 => h9) rfl dX9_tapeFour_32 ?_
  refine lv_iconst (v := 1) hx hb dX9_tapeFour_35 (by decide) ?_
  refine lv_iadd hx hb dX9_tapeFour_36 ?_
  refine lv_topi (fun z_20 ez_20 => ?_)
  have ez_20 : z_20 = 15 := ez_20.trans (by decide)
  subst ez_20
  refine va_put (D := D) (ci := 9) (v := .int 15) (ty := tyX9 9) (C := RX9) (T := TX9) (N := 14) hx hb hts lay_X9 tyX9 tyX9_ok nmX9 hown hK.1 hP hD hS 0 rfl rfl 9 (by decide) (hts _ fl_X9_75) (fun _ h9 => h9) rfl (tyX9_ok 9 (by decide)) rfl rfl (Nat.le_of_ble_eq_true rfl) dX9_tapeFour_37 (fun H locs hP hD hS => ?_)
  have hP : va_P D vwCl [((xa 0), .inr (9, [.ref (xa 1), .ref (xa 2), .ref (xa 3), .ref (xa 4), .ref (xa 5), .ref (xa 6), .ref (xa 7), .ref (xa 8), .ref (xa 9), .int 15, .ref (xa 11), .null, .int 0, .int (-1)])), ((xa 1), .inl (cy 0, 1600, .inl f_19))] H := hP
  have hD : va_D A [((xa 0), .inr (9, [.ref (xa 1), .ref (xa 2), .ref (xa 3), .ref (xa 4), .ref (xa 5), .ref (xa 6), .ref (xa 7), .ref (xa 8), .ref (xa 9), .int 15, .ref (xa 11), .null, .int 0, .int (-1)])), ((xa 1), .inl (cy 0, 1600, .inl f_19))] := hD
  refine lv_iinc (v := 0) (lv' := [(2, .int 0), (0, .ref (xa 0)), (1, .int n0)]) hx hb dX9_tapeFour_40 hl (k := 0) rfl (by decide) (by decide) rfl (fun ls hl => ?_)
  refine lv_goto (tgt := 3) hx hb dX9_tapeFour_43 (by decide) ?_
  refine lv_iload_n hx hb dX9_tapeFour_3 rfl (lv_at hl 0 rfl) ?_
  refine lv_if_lt (tgt := 46) hx hb dX9_tapeFour_4 (by decide) (fun c_22 => absurd c_22 (by decide)) (fun _ => ?_)
  refine lv_aload_n hx hb dX9_tapeFour_7 rfl (lv_at hl 1 rfl) ?_
  refine va_get (D := D) (ci := 9) (v := .int 15) (C := RX9) (T := TX9) (N := 14) hx hb hts lay_X9 hown hK.1 hP 0 rfl rfl 9 (by decide) (hts _ fl_X9_75) (fun _ h9 => h9) rfl dX9_tapeFour_8 ?_
  refine lv_sipush (v := 1600) hx hb dX9_tapeFour_11 (by decide) ?_
  refine lv_icmp_ge (tgt := 40) hx hb dX9_tapeFour_14 (by decide) (fun c_23 => absurd c_23 (by decide)) (fun _ => ?_)
  refine lv_aload_n hx hb dX9_tapeFour_17 rfl (lv_at hl 1 rfl) ?_
  refine va_get (D := D) (ci := 9) (v := .ref (xa 1)) (C := RX9) (T := TX9) (N := 14) hx hb hts lay_X9 hown hK.1 hP 0 rfl rfl 0 (by decide) (hts _ fl_X9_9) (fun _ h9 => h9) rfl dX9_tapeFour_18 ?_
  refine lv_aload_n hx hb dX9_tapeFour_21 rfl (lv_at hl 1 rfl) ?_
  refine va_get (D := D) (ci := 9) (v := .int 15) (C := RX9) (T := TX9) (N := 14) hx hb hts lay_X9 hown hK.1 hP 0 rfl rfl 9 (by decide) (hts _ fl_X9_75) (fun _ h9 => h9) rfl dX9_tapeFour_22 ?_
  refine lv_iload_n hx hb dX9_tapeFour_25 rfl (lv_at hl 2 rfl) ?_
  refine lv_iload_n hx hb dX9_tapeFour_26 rfl (lv_at hl 0 rfl) ?_
  refine lv_ishr hx hb dX9_tapeFour_27 ?_
  refine lv_topi (fun z_24 ez_24 => ?_)
  refine lv_i2b hx hb dX9_tapeFour_28 rfl ?_
  refine lv_topi (fun z_25 ez_25 => ?_)
  refine va_bast hx hb hK.1 hP hD hS 1 0 rfl rfl (i := 15) (vp_in_iff.mpr (by decide)) dX9_tapeFour_29 (fun H locs hP hD hS => ?_)
  have hP : va_P D vwCl [((xa 0), .inr (9, [.ref (xa 1), .ref (xa 2), .ref (xa 3), .ref (xa 4), .ref (xa 5), .ref (xa 6), .ref (xa 7), .ref (xa 8), .ref (xa 9), .int 15, .ref (xa 11), .null, .int 0, .int (-1)])), ((xa 1), .inl (cy 0, 1600, .inl (upd f_19 15 (vp_nar .byte z_25))))] H := hP
  have hD : va_D A [((xa 0), .inr (9, [.ref (xa 1), .ref (xa 2), .ref (xa 3), .ref (xa 4), .ref (xa 5), .ref (xa 6), .ref (xa 7), .ref (xa 8), .ref (xa 9), .int 15, .ref (xa 11), .null, .int 0, .int (-1)])), ((xa 1), .inl (cy 0, 1600, .inl (upd f_19 15 (vp_nar .byte z_25))))] := hD
  generalize (upd f_19 15 (vp_nar .byte z_25)) = f_26 at hP hD
  refine lv_aload_n hx hb dX9_tapeFour_30 rfl (lv_at hl 1 rfl) ?_
  refine lv_dup hx hb dX9_tapeFour_31 rfl ?_
  refine va_get (D := D) (ci := 9) (v := .int 15) (C := RX9) (T := TX9) (N := 14) hx hb hts lay_X9 hown hK.1 hP 0 rfl rfl 9 (by decide) (hts _ fl_X9_75) (fun _ h9 => h9) rfl dX9_tapeFour_32 ?_
  refine lv_iconst (v := 1) hx hb dX9_tapeFour_35 (by decide) ?_
  refine lv_iadd hx hb dX9_tapeFour_36 ?_
  refine lv_topi (fun z_27 ez_27 => ?_)
  have ez_27 : z_27 = 16 := ez_27.trans (by decide)
  subst ez_27
  refine va_put (D := D) (ci := 9) (v := .int 16) (ty := tyX9 9) (C := RX9) (T := TX9) (N := 14) hx hb hts lay_X9 tyX9 tyX9_ok nmX9 hown hK.1 hP hD hS 0 rfl rfl 9 (by decide) (hts _ fl_X9_75) (fun _ h9 => h9) rfl (tyX9_ok 9 (by decide)) rfl rfl (Nat.le_of_ble_eq_true rfl) dX9_tapeFour_37 (fun H locs hP hD hS => ?_)
  have hP : va_P D vwCl [((xa 0), .inr (9, [.ref (xa 1), .ref (xa 2), .ref (xa 3), .ref (xa 4), .ref (xa 5), .ref (xa 6), .ref (xa 7), .ref (xa 8), .ref (xa 9), .int 16, .ref (xa 11), .null, .int 0, .int (-1)])), ((xa 1), .inl (cy 0, 1600, .inl f_26))] H := hP
  have hD : va_D A [((xa 0), .inr (9, [.ref (xa 1), .ref (xa 2), .ref (xa 3), .ref (xa 4), .ref (xa 5), .ref (xa 6), .ref (xa 7), .ref (xa 8), .ref (xa 9), .int 16, .ref (xa 11), .null, .int 0, .int (-1)])), ((xa 1), .inl (cy 0, 1600, .inl f_26))] := hD
  refine lv_iinc (v := (-8)) (lv' := [(2, .int (-8)), (0, .ref (xa 0)), (1, .int n0)]) hx hb dX9_tapeFour_40 hl (k := 0) rfl (by decide) (by decide) rfl (fun ls hl => ?_)
  refine lv_goto (tgt := 3) hx hb dX9_tapeFour_43 (by decide) ?_
  refine lv_iload_n hx hb dX9_tapeFour_3 rfl (lv_at hl 0 rfl) ?_
  refine lv_if_lt (tgt := 46) hx hb dX9_tapeFour_4 (by decide) (fun _ => ?_) (fun c_29 => absurd (by decide) c_29)
  exact ret_v hx hb hr hlocks ⟨⟨hS.1, hS.2.1⟩, ((fun _ => 0), (fun k => match k with | 0 => f_26 | _ => (fun _ => 0)), (fun _ => (fun _ => 0)), (fun _ => 0)), rfl, hP.sub [0, 1] rfl, hD.sub [0, 1] (by decide) rfl⟩ hS.2.2 (Nat.le_of_ble_eq_true rfl) (Nat.le_of_ble_eq_true rfl) dX9_tapeFour_46
set_option maxHeartbeats 4000000 in
set_option maxRecDepth 100000 in
theorem four_12 (l : Launch) (D : va_G) (cy : Nat → ClassId) (ma : Nat → Nat) (f : Nat → Int32) (n0 : Int32) (sz : Nat) : MM l yX10_four cX10_four 3 none 0 0 0 D cy [.ref (ma 0), .int n0] (PW D [((ma 0), .inr (10, [.int 0, .ref (ma 1), .ref (ma 2), .ref (ma 3), .ref (ma 4), .ref (ma 5), .int 12, .int 0, .int 0, .int 0, .int 0, .long 0, .int 0, .int 0, .int 0, .int (-1), .ref (ma 16), .ref (ma 17), .ref (ma 18), .ref (ma 19), .ref (ma 20), .ref (ma 21), .ref (ma 22), .ref (ma 23), .ref (ma 24), .ref (ma 25), .ref (ma 26), .ref (ma 27), .ref (ma 28), .ref (ma 29), .ref (ma 30), .ref (ma 31), .ref (ma 32), .ref (ma 33), .ref (ma 34), .ref (ma 35), .ref (ma 36), .ref (ma 37), .ref (ma 38), .ref (ma 39), .ref (ma 40), .ref (ma 41), .long 0])), ((ma 5), .inl (cy 0, 1600, .inl f))] sz) (QW D (va_A [((ma 0), .inr (10, [.int 0, .ref (ma 1), .ref (ma 2), .ref (ma 3), .ref (ma 4), .ref (ma 5), .int 12, .int 0, .int 0, .int 0, .int 0, .long 0, .int 0, .int 0, .int 0, .int (-1), .ref (ma 16), .ref (ma 17), .ref (ma 18), .ref (ma 19), .ref (ma 20), .ref (ma 21), .ref (ma 22), .ref (ma 23), .ref (ma 24), .ref (ma 25), .ref (ma 26), .ref (ma 27), .ref (ma 28), .ref (ma 29), .ref (ma 30), .ref (ma 31), .ref (ma 32), .ref (ma 33), .ref (ma 34), .ref (ma 35), .ref (ma 36), .ref (ma 37), .ref (ma 38), .ref (ma 39), .ref (ma 40), .ref (ma 41), .long 0])), ((ma 5), .inl (cy 0, 1600, .inl f))] sz) (S := (Nat → Nat) × (Nat → Nat → Int32) × (Nat → Nat → Int64) × (Nat → Int32)) (fun v u => v = none) (fun u => [((ma 0), .inr (10, [.int 0, .ref (ma 1), .ref (ma 2), .ref (ma 3), .ref (ma 4), .ref (ma 5), .int 16, .int 0, .int 0, .int 0, .int 0, .long 0, .int 0, .int 0, .int 0, .int (-1), .ref (ma 16), .ref (ma 17), .ref (ma 18), .ref (ma 19), .ref (ma 20), .ref (ma 21), .ref (ma 22), .ref (ma 23), .ref (ma 24), .ref (ma 25), .ref (ma 26), .ref (ma 27), .ref (ma 28), .ref (ma 29), .ref (ma 30), .ref (ma 31), .ref (ma 32), .ref (ma 33), .ref (ma 34), .ref (ma 35), .ref (ma 36), .ref (ma 37), .ref (ma 38), .ref (ma 39), .ref (ma 40), .ref (ma 41), .long 0])), ((ma 5), .inl (cy 0, 1600, .inl (u.2.1 0)))])) (va_A [((ma 0), .inr (10, [.int 0, .ref (ma 1), .ref (ma 2), .ref (ma 3), .ref (ma 4), .ref (ma 5), .int 12, .int 0, .int 0, .int 0, .int 0, .long 0, .int 0, .int 0, .int 0, .int (-1), .ref (ma 16), .ref (ma 17), .ref (ma 18), .ref (ma 19), .ref (ma 20), .ref (ma 21), .ref (ma 22), .ref (ma 23), .ref (ma 24), .ref (ma 25), .ref (ma 26), .ref (ma 27), .ref (ma 28), .ref (ma 29), .ref (ma 30), .ref (ma 31), .ref (ma 32), .ref (ma 33), .ref (ma 34), .ref (ma 35), .ref (ma 36), .ref (ma 37), .ref (ma 38), .ref (ma 39), .ref (ma 40), .ref (ma 41), .long 0])), ((ma 5), .inl (cy 0, 1600, .inl f))] sz) := by
  refine MM.of (by decide) (Nat.le_of_ble_eq_true rfl) ?_
  intro p e s m below meth c C hPW ls hl
  obtain ⟨hx, hb, hr, hml, hown, hts, hlocks, hK, hnm⟩ := C
  obtain ⟨rfl, hP, hD0⟩ := hPW
  have hD := hD0.self (sz := s.heap.size)
  have hA : ∀ q : Nat, s.heap.size ≤ q → (va_A [((ma 0), .inr (10, [.int 0, .ref (ma 1), .ref (ma 2), .ref (ma 3), .ref (ma 4), .ref (ma 5), .int 12, .int 0, .int 0, .int 0, .int 0, .long 0, .int 0, .int 0, .int 0, .int (-1), .ref (ma 16), .ref (ma 17), .ref (ma 18), .ref (ma 19), .ref (ma 20), .ref (ma 21), .ref (ma 22), .ref (ma 23), .ref (ma 24), .ref (ma 25), .ref (ma 26), .ref (ma 27), .ref (ma 28), .ref (ma 29), .ref (ma 30), .ref (ma 31), .ref (ma 32), .ref (ma 33), .ref (ma 34), .ref (ma 35), .ref (ma 36), .ref (ma 37), .ref (ma 38), .ref (ma 39), .ref (ma 40), .ref (ma 41), .long 0])), ((ma 5), .inl (cy 0, 1600, .inl f))] s.heap.size) q := fun q h => Or.inr h
  have hS : va_S (va_A [((ma 0), .inr (10, [.int 0, .ref (ma 1), .ref (ma 2), .ref (ma 3), .ref (ma 4), .ref (ma 5), .int 12, .int 0, .int 0, .int 0, .int 0, .long 0, .int 0, .int 0, .int 0, .int (-1), .ref (ma 16), .ref (ma 17), .ref (ma 18), .ref (ma 19), .ref (ma 20), .ref (ma 21), .ref (ma 22), .ref (ma 23), .ref (ma 24), .ref (ma 25), .ref (ma 26), .ref (ma 27), .ref (ma 28), .ref (ma 29), .ref (ma 30), .ref (ma 31), .ref (ma 32), .ref (ma 33), .ref (ma 34), .ref (ma 35), .ref (ma 36), .ref (ma 37), .ref (ma 38), .ref (ma 39), .ref (ma 40), .ref (ma 41), .long 0])), ((ma 5), .inl (cy 0, 1600, .inl f))] s.heap.size) s.heap s.heap [] := va_S.rf
  generalize va_A [((ma 0), .inr (10, [.int 0, .ref (ma 1), .ref (ma 2), .ref (ma 3), .ref (ma 4), .ref (ma 5), .int 12, .int 0, .int 0, .int 0, .int 0, .long 0, .int 0, .int 0, .int 0, .int (-1), .ref (ma 16), .ref (ma 17), .ref (ma 18), .ref (ma 19), .ref (ma 20), .ref (ma 21), .ref (ma 22), .ref (ma 23), .ref (ma 24), .ref (ma 25), .ref (ma 26), .ref (ma 27), .ref (ma 28), .ref (ma 29), .ref (ma 30), .ref (ma 31), .ref (ma 32), .ref (ma 33), .ref (ma 34), .ref (ma 35), .ref (ma 36), .ref (ma 37), .ref (ma 38), .ref (ma 39), .ref (ma 40), .ref (ma 41), .long 0])), ((ma 5), .inl (cy 0, 1600, .inl f))] s.heap.size = A at hD hA hS ⊢
  have hP : va_P D vwCl [((ma 0), .inr (10, [.int 0, .ref (ma 1), .ref (ma 2), .ref (ma 3), .ref (ma 4), .ref (ma 5), .int 12, .int 0, .int 0, .int 0, .int 0, .long 0, .int 0, .int 0, .int 0, .int (-1), .ref (ma 16), .ref (ma 17), .ref (ma 18), .ref (ma 19), .ref (ma 20), .ref (ma 21), .ref (ma 22), .ref (ma 23), .ref (ma 24), .ref (ma 25), .ref (ma 26), .ref (ma 27), .ref (ma 28), .ref (ma 29), .ref (ma 30), .ref (ma 31), .ref (ma 32), .ref (ma 33), .ref (ma 34), .ref (ma 35), .ref (ma 36), .ref (ma 37), .ref (ma 38), .ref (ma 39), .ref (ma 40), .ref (ma 41), .long 0])), ((ma 5), .inl (cy 0, 1600, .inl f))] s.heap := hP
  have hl : lv_has ls 3 [(0, .ref (ma 0)), (1, .int n0)] := hl
  refine lv_bipush (v := 24) hx hb dX10_four_0 (by decide) ?_
  refine lv_istore_n (lv' := [(2, .int 24), (0, .ref (ma 0)), (1, .int n0)]) hx hb dX10_four_2 rfl hl (by decide) rfl (fun ls hl => ?_)
  refine lv_iload_n hx hb dX10_four_3 rfl (lv_at hl 0 rfl) ?_
  refine lv_if_lt (tgt := 36) hx hb dX10_four_4 (by decide) (fun c_1 => absurd c_1 (by decide)) (fun _ => ?_)
  refine lv_aload_n hx hb dX10_four_7 rfl (lv_at hl 1 rfl) ?_
  refine va_get (D := D) (ci := 10) (v := .ref (ma 5)) (C := RX10) (T := TX10) (N := 43) hx hb hts lay_X10 hown hK.1 hP 0 rfl rfl 5 (by decide) (hts _ fl_X10_23) (fun _ h9 => h9) rfl dX10_four_8 ?_
  refine lv_aload_n hx hb dX10_four_11 rfl (lv_at hl 1 rfl) ?_
  refine va_get (D := D) (ci := 10) (v := .int 12) (C := RX10) (T := TX10) (N := 43) hx hb hts lay_X10 hown hK.1 hP 0 rfl rfl 6 (by decide) (hts _ fl_X10_128) (fun _ h9 => h9) rfl dX10_four_12 ?_
  refine lv_iload_n hx hb dX10_four_15 rfl (lv_at hl 2 rfl) ?_
  refine lv_iload_n hx hb dX10_four_16 rfl (lv_at hl 0 rfl) ?_
  refine lv_ishr hx hb dX10_four_17 ?_
  refine lv_topi (fun z_2 ez_2 => ?_)
  refine lv_i2b hx hb dX10_four_18 rfl ?_
  refine lv_topi (fun z_3 ez_3 => ?_)
  refine va_bast hx hb hK.1 hP hD hS 1 0 rfl rfl (i := 12) (vp_in_iff.mpr (by decide)) dX10_four_19 (fun H locs hP hD hS => ?_)
  have hP : va_P D vwCl [((ma 0), .inr (10, [.int 0, .ref (ma 1), .ref (ma 2), .ref (ma 3), .ref (ma 4), .ref (ma 5), .int 12, .int 0, .int 0, .int 0, .int 0, .long 0, .int 0, .int 0, .int 0, .int (-1), .ref (ma 16), .ref (ma 17), .ref (ma 18), .ref (ma 19), .ref (ma 20), .ref (ma 21), .ref (ma 22), .ref (ma 23), .ref (ma 24), .ref (ma 25), .ref (ma 26), .ref (ma 27), .ref (ma 28), .ref (ma 29), .ref (ma 30), .ref (ma 31), .ref (ma 32), .ref (ma 33), .ref (ma 34), .ref (ma 35), .ref (ma 36), .ref (ma 37), .ref (ma 38), .ref (ma 39), .ref (ma 40), .ref (ma 41), .long 0])), ((ma 5), .inl (cy 0, 1600, .inl (upd f 12 (vp_nar .byte z_3))))] H := hP
  have hD : va_D A [((ma 0), .inr (10, [.int 0, .ref (ma 1), .ref (ma 2), .ref (ma 3), .ref (ma 4), .ref (ma 5), .int 12, .int 0, .int 0, .int 0, .int 0, .long 0, .int 0, .int 0, .int 0, .int (-1), .ref (ma 16), .ref (ma 17), .ref (ma 18), .ref (ma 19), .ref (ma 20), .ref (ma 21), .ref (ma 22), .ref (ma 23), .ref (ma 24), .ref (ma 25), .ref (ma 26), .ref (ma 27), .ref (ma 28), .ref (ma 29), .ref (ma 30), .ref (ma 31), .ref (ma 32), .ref (ma 33), .ref (ma 34), .ref (ma 35), .ref (ma 36), .ref (ma 37), .ref (ma 38), .ref (ma 39), .ref (ma 40), .ref (ma 41), .long 0])), ((ma 5), .inl (cy 0, 1600, .inl (upd f 12 (vp_nar .byte z_3))))] := hD
  generalize (upd f 12 (vp_nar .byte z_3)) = f_4 at hP hD
  refine lv_aload_n hx hb dX10_four_20 rfl (lv_at hl 1 rfl) ?_
  refine lv_dup hx hb dX10_four_21 rfl ?_
  refine va_get (D := D) (ci := 10) (v := .int 12) (C := RX10) (T := TX10) (N := 43) hx hb hts lay_X10 hown hK.1 hP 0 rfl rfl 6 (by decide) (hts _ fl_X10_128) (fun _ h9 => h9) rfl dX10_four_22 ?_
  refine lv_iconst (v := 1) hx hb dX10_four_25 (by decide) ?_
  refine lv_iadd hx hb dX10_four_26 ?_
  refine lv_topi (fun z_5 ez_5 => ?_)
  have ez_5 : z_5 = 13 := ez_5.trans (by decide)
  subst ez_5
  refine va_put (D := D) (ci := 10) (v := .int 13) (ty := tyX10 6) (C := RX10) (T := TX10) (N := 43) hx hb hts lay_X10 tyX10 tyX10_ok nmX10 hown hK.1 hP hD hS 0 rfl rfl 6 (by decide) (hts _ fl_X10_128) (fun _ h9 => h9) rfl (tyX10_ok 6 (by decide)) rfl rfl (Nat.le_of_ble_eq_true rfl) dX10_four_27 (fun H locs hP hD hS => ?_)
  have hP : va_P D vwCl [((ma 0), .inr (10, [.int 0, .ref (ma 1), .ref (ma 2), .ref (ma 3), .ref (ma 4), .ref (ma 5), .int 13, .int 0, .int 0, .int 0, .int 0, .long 0, .int 0, .int 0, .int 0, .int (-1), .ref (ma 16), .ref (ma 17), .ref (ma 18), .ref (ma 19), .ref (ma 20), .ref (ma 21), .ref (ma 22), .ref (ma 23), .ref (ma 24), .ref (ma 25), .ref (ma 26), .ref (ma 27), .ref (ma 28), .ref (ma 29), .ref (ma 30), .ref (ma 31), .ref (ma 32), .ref (ma 33), .ref (ma 34), .ref (ma 35), .ref (ma 36), .ref (ma 37), .ref (ma 38), .ref (ma 39), .ref (ma 40), .ref (ma 41), .long 0])), ((ma 5), .inl (cy 0, 1600, .inl f_4))] H := hP
  have hD : va_D A [((ma 0), .inr (10, [.int 0, .ref (ma 1), .ref (ma 2), .ref (ma 3), .ref (ma 4), .ref (ma 5), .int 13, .int 0, .int 0, .int 0, .int 0, .long 0, .int 0, .int 0, .int 0, .int (-1), .ref (ma 16), .ref (ma 17), .ref (ma 18), .ref (ma 19), .ref (ma 20), .ref (ma 21), .ref (ma 22), .ref (ma 23), .ref (ma 24), .ref (ma 25), .ref (ma 26), .ref (ma 27), .ref (ma 28), .ref (ma 29), .ref (ma 30), .ref (ma 31), .ref (ma 32), .ref (ma 33), .ref (ma 34), .ref (ma 35), .ref (ma 36), .ref (ma 37), .ref (ma 38), .ref (ma 39), .ref (ma 40), .ref (ma 41), .long 0])), ((ma 5), .inl (cy 0, 1600, .inl f_4))] := hD
  refine lv_iinc (v := 16) (lv' := [(2, .int 16), (0, .ref (ma 0)), (1, .int n0)]) hx hb dX10_four_30 hl (k := 0) rfl (by decide) (by decide) rfl (fun ls hl => ?_)
  refine lv_goto (tgt := 3) hx hb dX10_four_33 (by decide) ?_
  refine lv_iload_n hx hb dX10_four_3 rfl (lv_at hl 0 rfl) ?_
  refine lv_if_lt (tgt := 36) hx hb dX10_four_4 (by decide) (fun c_7 => absurd c_7 (by decide)) (fun _ => ?_)
  refine lv_aload_n hx hb dX10_four_7 rfl (lv_at hl 1 rfl) ?_
  refine va_get (D := D) (ci := 10) (v := .ref (ma 5)) (C := RX10) (T := TX10) (N := 43) hx hb hts lay_X10 hown hK.1 hP 0 rfl rfl 5 (by decide) (hts _ fl_X10_23) (fun _ h9 => h9) rfl dX10_four_8 ?_
  refine lv_aload_n hx hb dX10_four_11 rfl (lv_at hl 1 rfl) ?_
  refine va_get (D := D) (ci := 10) (v := .int 13) (C := RX10) (T := TX10) (N := 43) hx hb hts lay_X10 hown hK.1 hP 0 rfl rfl 6 (by decide) (hts _ fl_X10_128) (fun _ h9 => h9) rfl dX10_four_12 ?_
  refine lv_iload_n hx hb dX10_four_15 rfl (lv_at hl 2 rfl) ?_
  refine lv_iload_n hx hb dX10_four_16 rfl (lv_at hl 0 rfl) ?_
  refine lv_ishr hx hb dX10_four_17 ?_
  refine lv_topi (fun z_8 ez_8 => ?_)
  refine lv_i2b hx hb dX10_four_18 rfl ?_
  refine lv_topi (fun z_9 ez_9 => ?_)
  refine va_bast hx hb hK.1 hP hD hS 1 0 rfl rfl (i := 13) (vp_in_iff.mpr (by decide)) dX10_four_19 (fun H locs hP hD hS => ?_)
  have hP : va_P D vwCl [((ma 0), .inr (10, [.int 0, .ref (ma 1), .ref (ma 2), .ref (ma 3), .ref (ma 4), .ref (ma 5), .int 13, .int 0, .int 0, .int 0, .int 0, .long 0, .int 0, .int 0, .int 0, .int (-1), .ref (ma 16), .ref (ma 17), .ref (ma 18), .ref (ma 19), .ref (ma 20), .ref (ma 21), .ref (ma 22), .ref (ma 23), .ref (ma 24), .ref (ma 25), .ref (ma 26), .ref (ma 27), .ref (ma 28), .ref (ma 29), .ref (ma 30), .ref (ma 31), .ref (ma 32), .ref (ma 33), .ref (ma 34), .ref (ma 35), .ref (ma 36), .ref (ma 37), .ref (ma 38), .ref (ma 39), .ref (ma 40), .ref (ma 41), .long 0])), ((ma 5), .inl (cy 0, 1600, .inl (upd f_4 13 (vp_nar .byte z_9))))] H := hP
  have hD : va_D A [((ma 0), .inr (10, [.int 0, .ref (ma 1), .ref (ma 2), .ref (ma 3), .ref (ma 4), .ref (ma 5), .int 13, .int 0, .int 0, .int 0, .int 0, .long 0, .int 0, .int 0, .int 0, .int (-1), .ref (ma 16), .ref (ma 17), .ref (ma 18), .ref (ma 19), .ref (ma 20), .ref (ma 21), .ref (ma 22), .ref (ma 23), .ref (ma 24), .ref (ma 25), .ref (ma 26), .ref (ma 27), .ref (ma 28), .ref (ma 29), .ref (ma 30), .ref (ma 31), .ref (ma 32), .ref (ma 33), .ref (ma 34), .ref (ma 35), .ref (ma 36), .ref (ma 37), .ref (ma 38), .ref (ma 39), .ref (ma 40), .ref (ma 41), .long 0])), ((ma 5), .inl (cy 0, 1600, .inl (upd f_4 13 (vp_nar .byte z_9))))] := hD
  generalize (upd f_4 13 (vp_nar .byte z_9)) = f_10 at hP hD
  refine lv_aload_n hx hb dX10_four_20 rfl (lv_at hl 1 rfl) ?_
  refine lv_dup hx hb dX10_four_21 rfl ?_
  refine va_get (D := D) (ci := 10) (v := .int 13) (C := RX10) (T := TX10) (N := 43) hx hb hts lay_X10 hown hK.1 hP 0 rfl rfl 6 (by decide) (hts _ fl_X10_128) (fun _ h9 => h9) rfl dX10_four_22 ?_
  refine lv_iconst (v := 1) hx hb dX10_four_25 (by decide) ?_
  refine lv_iadd hx hb dX10_four_26 ?_
  refine lv_topi (fun z_11 ez_11 => ?_)
  have ez_11 : z_11 = 14 := ez_11.trans (by decide)
  subst ez_11
  refine va_put (D := D) (ci := 10) (v := .int 14) (ty := tyX10 6) (C := RX10) (T := TX10) (N := 43) hx hb hts lay_X10 tyX10 tyX10_ok nmX10 hown hK.1 hP hD hS 0 rfl rfl 6 (by decide) (hts _ fl_X10_128) (fun _ h9 => h9) rfl (tyX10_ok 6 (by decide)) rfl rfl (Nat.le_of_ble_eq_true rfl) dX10_four_27 (fun H locs hP hD hS => ?_)
  have hP : va_P D vwCl [((ma 0), .inr (10, [.int 0, .ref (ma 1), .ref (ma 2), .ref (ma 3), .ref (ma 4), .ref (ma 5), .int 14, .int 0, .int 0, .int 0, .int 0, .long 0, .int 0, .int 0, .int 0, .int (-1), .ref (ma 16), .ref (ma 17), .ref (ma 18), .ref (ma 19), .ref (ma 20), .ref (ma 21), .ref (ma 22), .ref (ma 23), .ref (ma 24), .ref (ma 25), .ref (ma 26), .ref (ma 27), .ref (ma 28), .ref (ma 29), .ref (ma 30), .ref (ma 31), .ref (ma 32), .ref (ma 33), .ref (ma 34), .ref (ma 35), .ref (ma 36), .ref (ma 37), .ref (ma 38), .ref (ma 39), .ref (ma 40), .ref (ma 41), .long 0])), ((ma 5), .inl (cy 0, 1600, .inl f_10))] H := hP
  have hD : va_D A [((ma 0), .inr (10, [.int 0, .ref (ma 1), .ref (ma 2), .ref (ma 3), .ref (ma 4), .ref (ma 5), .int 14, .int 0, .int 0, .int 0, .int 0, .long 0, .int 0, .int 0, .int 0, .int (-1), .ref (ma 16), .ref (ma 17), .ref (ma 18), .ref (ma 19), .ref (ma 20), .ref (ma 21), .ref (ma 22), .ref (ma 23), .ref (ma 24), .ref (ma 25), .ref (ma 26), .ref (ma 27), .ref (ma 28), .ref (ma 29), .ref (ma 30), .ref (ma 31), .ref (ma 32), .ref (ma 33), .ref (ma 34), .ref (ma 35), .ref (ma 36), .ref (ma 37), .ref (ma 38), .ref (ma 39), .ref (ma 40), .ref (ma 41), .long 0])), ((ma 5), .inl (cy 0, 1600, .inl f_10))] := hD
  refine lv_iinc (v := 8) (lv' := [(2, .int 8), (0, .ref (ma 0)), (1, .int n0)]) hx hb dX10_four_30 hl (k := 0) rfl (by decide) (by decide) rfl (fun ls hl => ?_)
  refine lv_goto (tgt := 3) hx hb dX10_four_33 (by decide) ?_
  refine lv_iload_n hx hb dX10_four_3 rfl (lv_at hl 0 rfl) ?_
  refine lv_if_lt (tgt := 36) hx hb dX10_four_4 (by decide) (fun c_13 => absurd c_13 (by decide)) (fun _ => ?_)
  refine lv_aload_n hx hb dX10_four_7 rfl (lv_at hl 1 rfl) ?_
  refine va_get (D := D) (ci := 10) (v := .ref (ma 5)) (C := RX10) (T := TX10) (N := 43) hx hb hts lay_X10 hown hK.1 hP 0 rfl rfl 5 (by decide) (hts _ fl_X10_23) (fun _ h9 => h9) rfl dX10_four_8 ?_
  refine lv_aload_n hx hb dX10_four_11 rfl (lv_at hl 1 rfl) ?_
  refine va_get (D := D) (ci := 10) (v := .int 14) (C := RX10) (T := TX10) (N := 43) hx hb hts lay_X10 hown hK.1 hP 0 rfl rfl 6 (by decide) (hts _ fl_X10_128) (fun _ h9 => h9) rfl dX10_four_12 ?_
  refine lv_iload_n hx hb dX10_four_15 rfl (lv_at hl 2 rfl) ?_
  refine lv_iload_n hx hb dX10_four_16 rfl (lv_at hl 0 rfl) ?_
  refine lv_ishr hx hb dX10_four_17 ?_
  refine lv_topi (fun z_14 ez_14 => ?_)
  refine lv_i2b hx hb dX10_four_18 rfl ?_
  refine lv_topi (fun z_15 ez_15 => ?_)
  refine va_bast hx hb hK.1 hP hD hS 1 0 rfl rfl (i := 14) (vp_in_iff.mpr (by decide)) dX10_four_19 (fun H locs hP hD hS => ?_)
  have hP : va_P D vwCl [((ma 0), .inr (10, [.int 0, .ref (ma 1), .ref (ma 2), .ref (ma 3), .ref (ma 4), .ref (ma 5), .int 14, .int 0, .int 0, .int 0, .int 0, .long 0, .int 0, .int 0, .int 0, .int (-1), .ref (ma 16), .ref (ma 17), .ref (ma 18), .ref (ma 19), .ref (ma 20), .ref (ma 21), .ref (ma 22), .ref (ma 23), .ref (ma 24), .ref (ma 25), .ref (ma 26), .ref (ma 27), .ref (ma 28), .ref (ma 29), .ref (ma 30), .ref (ma 31), .ref (ma 32), .ref (ma 33), .ref (ma 34), .ref (ma 35), .ref (ma 36), .ref (ma 37), .ref (ma 38), .ref (ma 39), .ref (ma 40), .ref (ma 41), .long 0])), ((ma 5), .inl (cy 0, 1600, .inl (upd f_10 14 (vp_nar .byte z_15))))] H := hP
  have hD : va_D A [((ma 0), .inr (10, [.int 0, .ref (ma 1), .ref (ma 2), .ref (ma 3), .ref (ma 4), .ref (ma 5), .int 14, .int 0, .int 0, .int 0, .int 0, .long 0, .int 0, .int 0, .int 0, .int (-1), .ref (ma 16), .ref (ma 17), .ref (ma 18), .ref (ma 19), .ref (ma 20), .ref (ma 21), .ref (ma 22), .ref (ma 23), .ref (ma 24), .ref (ma 25), .ref (ma 26), .ref (ma 27), .ref (ma 28), .ref (ma 29), .ref (ma 30), .ref (ma 31), .ref (ma 32), .ref (ma 33), .ref (ma 34), .ref (ma 35), .ref (ma 36), .ref (ma 37), .ref (ma 38), .ref (ma 39), .ref (ma 40), .ref (ma 41), .long 0])), ((ma 5), .inl (cy 0, 1600, .inl (upd f_10 14 (vp_nar .byte z_15))))] := hD
  generalize (upd f_10 14 (vp_nar .byte z_15)) = f_16 at hP hD
  refine lv_aload_n hx hb dX10_four_20 rfl (lv_at hl 1 rfl) ?_
  refine lv_dup hx hb dX10_four_21 rfl ?_
  refine va_get (D := D) (ci := 10) (v := .int 14) (C := RX10) (T := TX10) (N := 43) hx hb hts lay_X10 hown hK.1 hP 0 rfl rfl 6 (by decide) (hts _ fl_X10_128) (fun _ h9 => h9) rfl dX10_four_22 ?_
  refine lv_iconst (v := 1) hx hb dX10_four_25 (by decide) ?_
  refine lv_iadd hx hb dX10_four_26 ?_
  refine lv_topi (fun z_17 ez_17 => ?_)
  have ez_17 : z_17 = 15 := ez_17.trans (by decide)
  subst ez_17
  refine va_put (D := D) (ci := 10) (v := .int 15) (ty := tyX10 6) (C := RX10) (T := TX10) (N := 43) hx hb hts lay_X10 tyX10 tyX10_ok nmX10 hown hK.1 hP hD hS 0 rfl rfl 6 (by decide) (hts _ fl_X10_128) (fun _ h9 => h9) rfl (tyX10_ok 6 (by decide)) rfl rfl (Nat.le_of_ble_eq_true rfl) dX10_four_27 (fun H locs hP hD hS => ?_)
  have hP : va_P D vwCl [((ma 0), .inr (10, [.int 0, .ref (ma 1), .ref (ma 2), .ref (ma 3), .ref (ma 4), .ref (ma 5), .int 15, .int 0, .int 0, .int 0, .int 0, .long 0, .int 0, .int 0, .int 0, .int (-1), .ref (ma 16), .ref (ma 17), .ref (ma 18), .ref (ma 19), .ref (ma 20), .ref (ma 21), .ref (ma 22), .ref (ma 23), .ref (ma 24), .ref (ma 25), .ref (ma 26), .ref (ma 27), .ref (ma 28), .ref (ma 29), .ref (ma 30), .ref (ma 31), .ref (ma 32), .ref (ma 33), .ref (ma 34), .ref (ma 35), .ref (ma 36), .ref (ma 37), .ref (ma 38), .ref (ma 39), .ref (ma 40), .ref (ma 41), .long 0])), ((ma 5), .inl (cy 0, 1600, .inl f_16))] H := hP
  have hD : va_D A [((ma 0), .inr (10, [.int 0, .ref (ma 1), .ref (ma 2), .ref (ma 3), .ref (ma 4), .ref (ma 5), .int 15, .int 0, .int 0, .int 0, .int 0, .long 0, .int 0, .int 0, .int 0, .int (-1), .ref (ma 16), .ref (ma 17), .ref (ma 18), .ref (ma 19), .ref (ma 20), .ref (ma 21), .ref (ma 22), .ref (ma 23), .ref (ma 24), .ref (ma 25), .ref (ma 26), .ref (ma 27), .ref (ma 28), .ref (ma 29), .ref (ma 30), .ref (ma 31), .ref (ma 32), .ref (ma 33), .ref (ma 34), .ref (ma 35), .ref (ma 36), .ref (ma 37), .ref (ma 38), .ref (ma 39), .ref (ma 40), .ref (ma 41), .long 0])), ((ma 5), .inl (cy 0, 1600, .inl f_16))] := hD
  refine lv_iinc (v := 0) (lv' := [(2, .int 0), (0, .ref (ma 0)), (1, .int n0)]) hx hb dX10_four_30 hl (k := 0) rfl (by decide) (by decide) rfl (fun ls hl => ?_)
  refine lv_goto (tgt := 3) hx hb dX10_four_33 (by decide) ?_
  refine lv_iload_n hx hb dX10_four_3 rfl (lv_at hl 0 rfl) ?_
  refine lv_if_lt (tgt := 36) hx hb dX10_four_4 (by decide) (fun c_19 => absurd c_19 (by decide)) (fun _ => ?_)
  refine lv_aload_n hx hb dX10_four_7 rfl (lv_at hl 1 rfl) ?_
  refine va_get (D := D) (ci := 10) (v := .ref (ma 5)) (C := RX10) (T := TX10) (N := 43) hx hb hts lay_X10 hown hK.1 hP 0 rfl rfl 5 (by decide) (hts _ fl_X10_23) (fun _ h9 => h9) rfl dX10_four_8 ?_
  refine lv_aload_n hx hb dX10_four_11 rfl (lv_at hl 1 rfl) ?_
  refine va_get (D := D) (ci := 10) (v := .int 15) (C := RX10) (T := TX10) (N := 43) hx hb hts lay_X10 hown hK.1 hP 0 rfl rfl 6 (by decide) (hts _ fl_X10_128) (fun _ h9 => h9) rfl dX10_four_12 ?_
  refine lv_iload_n hx hb dX10_four_15 rfl (lv_at hl 2 rfl) ?_
  refine lv_iload_n hx hb dX10_four_16 rfl (lv_at hl 0 rfl) ?_
  refine lv_ishr hx hb dX10_four_17 ?_
  refine lv_topi (fun z_20 ez_20 => ?_)
  refine lv_i2b hx hb dX10_four_18 rfl ?_
  refine lv_topi (fun z_21 ez_21 => ?_)
  refine va_bast hx hb hK.1 hP hD hS 1 0 rfl rfl (i := 15) (vp_in_iff.mpr (by decide)) dX10_four_19 (fun H locs hP hD hS => ?_)
  have hP : va_P D vwCl [((ma 0), .inr (10, [.int 0, .ref (ma 1), .ref (ma 2), .ref (ma 3), .ref (ma 4), .ref (ma 5), .int 15, .int 0, .int 0, .int 0, .int 0, .long 0, .int 0, .int 0, .int 0, .int (-1), .ref (ma 16), .ref (ma 17), .ref (ma 18), .ref (ma 19), .ref (ma 20), .ref (ma 21), .ref (ma 22), .ref (ma 23), .ref (ma 24), .ref (ma 25), .ref (ma 26), .ref (ma 27), .ref (ma 28), .ref (ma 29), .ref (ma 30), .ref (ma 31), .ref (ma 32), .ref (ma 33), .ref (ma 34), .ref (ma 35), .ref (ma 36), .ref (ma 37), .ref (ma 38), .ref (ma 39), .ref (ma 40), .ref (ma 41), .long 0])), ((ma 5), .inl (cy 0, 1600, .inl (upd f_16 15 (vp_nar .byte z_21))))] H := hP
  have hD : va_D A [((ma 0), .inr (10, [.int 0, .ref (ma 1), .ref (ma 2), .ref (ma 3), .ref (ma 4), .ref (ma 5), .int 15, .int 0, .int 0, .int 0, .int 0, .long 0, .int 0, .int 0, .int 0, .int (-1), .ref (ma 16), .ref (ma 17), .ref (ma 18), .ref (ma 19), .ref (ma 20), .ref (ma 21), .ref (ma 22), .ref (ma 23), .ref (ma 24), .ref (ma 25), .ref (ma 26), .ref (ma 27), .ref (ma 28), .ref (ma 29), .ref (ma 30), .ref (ma 31), .ref (ma 32), .ref (ma 33), .ref (ma 34), .ref (ma 35), .ref (ma 36), .ref (ma 37), .ref (ma 38), .ref (ma 39), .ref (ma 40), .ref (ma 41), .long 0])), ((ma 5), .inl (cy 0, 1600, .inl (upd f_16 15 (vp_nar .byte z_21))))] := hD
  generalize (upd f_16 15 (vp_nar .byte z_21)) = f_22 at hP hD
  refine lv_aload_n hx hb dX10_four_20 rfl (lv_at hl 1 rfl) ?_
  refine lv_dup hx hb dX10_four_21 rfl ?_
  refine va_get (D := D) (ci := 10) (v := .int 15) (C := RX10) (T := TX10) (N := 43) hx hb hts lay_X10 hown hK.1 hP 0 rfl rfl 6 (by decide) (hts _ fl_X10_128) (fun _ h9 => h9) rfl dX10_four_22 ?_
  refine lv_iconst (v := 1) hx hb dX10_four_25 (by decide) ?_
  refine lv_iadd hx hb dX10_four_26 ?_
  refine lv_topi (fun z_23 ez_23 => ?_)
  have ez_23 : z_23 = 16 := ez_23.trans (by decide)
  subst ez_23
  refine va_put (D := D) (ci := 10) (v := .int 16) (ty := tyX10 6) (C := RX10) (T := TX10) (N := 43) hx hb hts lay_X10 tyX10 tyX10_ok nmX10 hown hK.1 hP hD hS 0 rfl rfl 6 (by decide) (hts _ fl_X10_128) (fun _ h9 => h9) rfl (tyX10_ok 6 (by decide)) rfl rfl (Nat.le_of_ble_eq_true rfl) dX10_four_27 (fun H locs hP hD hS => ?_)
  have hP : va_P D vwCl [((ma 0), .inr (10, [.int 0, .ref (ma 1), .ref (ma 2), .ref (ma 3), .ref (ma 4), .ref (ma 5), .int 16, .int 0, .int 0, .int 0, .int 0, .long 0, .int 0, .int 0, .int 0, .int (-1), .ref (ma 16), .ref (ma 17), .ref (ma 18), .ref (ma 19), .ref (ma 20), .ref (ma 21), .ref (ma 22), .ref (ma 23), .ref (ma 24), .ref (ma 25), .ref (ma 26), .ref (ma 27), .ref (ma 28), .ref (ma 29), .ref (ma 30), .ref (ma 31), .ref (ma 32), .ref (ma 33), .ref (ma 34), .ref (ma 35), .ref (ma 36), .ref (ma 37), .ref (ma 38), .ref (ma 39), .ref (ma 40), .ref (ma 41), .long 0])), ((ma 5), .inl (cy 0, 1600, .inl f_22))] H := hP
  have hD : va_D A [((ma 0), .inr (10, [.int 0, .ref (ma 1), .ref (ma 2), .ref (ma 3), .ref (ma 4), .ref (ma 5), .int 16, .int 0, .int 0, .int 0, .int 0, .long 0, .int 0, .int 0, .int 0, .int (-1), .ref (ma 16), .ref (ma 17), .ref (ma 18), .ref (ma 19), .ref (ma 20), .ref (ma 21), .ref (ma 22), .ref (ma 23), .ref (ma 24), .ref (ma 25), .ref (ma 26), .ref (ma 27), .ref (ma 28), .ref (ma 29), .ref (ma 30), .ref (ma 31), .ref (ma 32), .ref (ma 33), .ref (ma 34), .ref (ma 35), .ref (ma 36), .ref (ma 37), .ref (ma 38), .ref (ma 39), .ref (ma 40), .ref (ma 41), .long 0])), ((ma 5), .inl (cy 0, 1600, .inl f_22))] := hD
  refine lv_iinc (v := (-8)) (lv' := [(2, .int (-8)), (0, .ref (ma 0)), (1, .int n0)]) hx hb dX10_four_30 hl (k := 0) rfl (by decide) (by decide) rfl (fun ls hl => ?_)
  refine lv_goto (tgt := 3) hx hb dX10_four_33 (by decide) ?_
  refine lv_iload_n hx hb dX10_four_3 rfl (lv_at hl 0 rfl) ?_
  refine lv_if_lt (tgt := 36) hx hb dX10_four_4 (by decide) (fun _ => ?_) (fun c_25 => absurd (by decide) c_25)
  exact ret_v hx hb hr hlocks ⟨⟨hS.1, hS.2.1⟩, ((fun _ => 0), (fun k => match k with | 0 => f_22 | _ => (fun _ => 0)), (fun _ => (fun _ => 0)), (fun _ => 0)), rfl, hP.sub [0, 1] rfl, hD.sub [0, 1] (by decide) rfl⟩ hS.2.2 (Nat.le_of_ble_eq_true rfl) (Nat.le_of_ble_eq_true rfl) dX10_four_36
set_option maxHeartbeats 4000000 in
set_option maxRecDepth 100000 in
theorem tape4_16 (l : Launch) (D : va_G) (cy : Nat → ClassId) (xa : Nat → Nat) (f : Nat → Int32) (n0 : Int32) (sz : Nat) : MM l yX9_tapeFour cX9_tapeFour 3 none 0 0 0 D cy [.ref (xa 0), .int n0] (PW D [((xa 0), .inr (9, [.ref (xa 1), .ref (xa 2), .ref (xa 3), .ref (xa 4), .ref (xa 5), .ref (xa 6), .ref (xa 7), .ref (xa 8), .ref (xa 9), .int 16, .ref (xa 11), .null, .int 0, .int (-1)])), ((xa 1), .inl (cy 0, 1600, .inl f))] sz) (QW D (va_A [((xa 0), .inr (9, [.ref (xa 1), .ref (xa 2), .ref (xa 3), .ref (xa 4), .ref (xa 5), .ref (xa 6), .ref (xa 7), .ref (xa 8), .ref (xa 9), .int 16, .ref (xa 11), .null, .int 0, .int (-1)])), ((xa 1), .inl (cy 0, 1600, .inl f))] sz) (S := (Nat → Nat) × (Nat → Nat → Int32) × (Nat → Nat → Int64) × (Nat → Int32)) (fun v u => v = none) (fun u => [((xa 0), .inr (9, [.ref (xa 1), .ref (xa 2), .ref (xa 3), .ref (xa 4), .ref (xa 5), .ref (xa 6), .ref (xa 7), .ref (xa 8), .ref (xa 9), .int 20, .ref (xa 11), .null, .int 0, .int (-1)])), ((xa 1), .inl (cy 0, 1600, .inl (u.2.1 0)))])) (va_A [((xa 0), .inr (9, [.ref (xa 1), .ref (xa 2), .ref (xa 3), .ref (xa 4), .ref (xa 5), .ref (xa 6), .ref (xa 7), .ref (xa 8), .ref (xa 9), .int 16, .ref (xa 11), .null, .int 0, .int (-1)])), ((xa 1), .inl (cy 0, 1600, .inl f))] sz) := by
  refine MM.of (by decide) (Nat.le_of_ble_eq_true rfl) ?_
  intro p e s m below meth c C hPW ls hl
  obtain ⟨hx, hb, hr, hml, hown, hts, hlocks, hK, hnm⟩ := C
  obtain ⟨rfl, hP, hD0⟩ := hPW
  have hD := hD0.self (sz := s.heap.size)
  have hA : ∀ q : Nat, s.heap.size ≤ q → (va_A [((xa 0), .inr (9, [.ref (xa 1), .ref (xa 2), .ref (xa 3), .ref (xa 4), .ref (xa 5), .ref (xa 6), .ref (xa 7), .ref (xa 8), .ref (xa 9), .int 16, .ref (xa 11), .null, .int 0, .int (-1)])), ((xa 1), .inl (cy 0, 1600, .inl f))] s.heap.size) q := fun q h => Or.inr h
  have hS : va_S (va_A [((xa 0), .inr (9, [.ref (xa 1), .ref (xa 2), .ref (xa 3), .ref (xa 4), .ref (xa 5), .ref (xa 6), .ref (xa 7), .ref (xa 8), .ref (xa 9), .int 16, .ref (xa 11), .null, .int 0, .int (-1)])), ((xa 1), .inl (cy 0, 1600, .inl f))] s.heap.size) s.heap s.heap [] := va_S.rf
  generalize va_A [((xa 0), .inr (9, [.ref (xa 1), .ref (xa 2), .ref (xa 3), .ref (xa 4), .ref (xa 5), .ref (xa 6), .ref (xa 7), .ref (xa 8), .ref (xa 9), .int 16, .ref (xa 11), .null, .int 0, .int (-1)])), ((xa 1), .inl (cy 0, 1600, .inl f))] s.heap.size = A at hD hA hS ⊢
  have hP : va_P D vwCl [((xa 0), .inr (9, [.ref (xa 1), .ref (xa 2), .ref (xa 3), .ref (xa 4), .ref (xa 5), .ref (xa 6), .ref (xa 7), .ref (xa 8), .ref (xa 9), .int 16, .ref (xa 11), .null, .int 0, .int (-1)])), ((xa 1), .inl (cy 0, 1600, .inl f))] s.heap := hP
  have hl : lv_has ls 3 [(0, .ref (xa 0)), (1, .int n0)] := hl
  refine lv_bipush (v := 24) hx hb dX9_tapeFour_0 (by decide) ?_
  refine lv_istore_n (lv' := [(2, .int 24), (0, .ref (xa 0)), (1, .int n0)]) hx hb dX9_tapeFour_2 rfl hl (by decide) rfl (fun ls hl => ?_)
  refine lv_iload_n hx hb dX9_tapeFour_3 rfl (lv_at hl 0 rfl) ?_
  refine lv_if_lt (tgt := 46) hx hb dX9_tapeFour_4 (by decide) (fun c_1 => absurd c_1 (by decide)) (fun _ => ?_)
  refine lv_aload_n hx hb dX9_tapeFour_7 rfl (lv_at hl 1 rfl) ?_
  refine va_get (D := D) (ci := 9) (v := .int 16) (C := RX9) (T := TX9) (N := 14) hx hb hts lay_X9 hown hK.1 hP 0 rfl rfl 9 (by decide) (hts _ fl_X9_75) (fun _ h9 => h9) rfl dX9_tapeFour_8 ?_
  refine lv_sipush (v := 1600) hx hb dX9_tapeFour_11 (by decide) ?_
  refine lv_icmp_ge (tgt := 40) hx hb dX9_tapeFour_14 (by decide) (fun c_2 => absurd c_2 (by decide)) (fun _ => ?_)
  refine lv_aload_n hx hb dX9_tapeFour_17 rfl (lv_at hl 1 rfl) ?_
  refine va_get (D := D) (ci := 9) (v := .ref (xa 1)) (C := RX9) (T := TX9) (N := 14) hx hb hts lay_X9 hown hK.1 hP 0 rfl rfl 0 (by decide) (hts _ fl_X9_9) (fun _ h9 => h9) rfl dX9_tapeFour_18 ?_
  refine lv_aload_n hx hb dX9_tapeFour_21 rfl (lv_at hl 1 rfl) ?_
  refine va_get (D := D) (ci := 9) (v := .int 16) (C := RX9) (T := TX9) (N := 14) hx hb hts lay_X9 hown hK.1 hP 0 rfl rfl 9 (by decide) (hts _ fl_X9_75) (fun _ h9 => h9) rfl dX9_tapeFour_22 ?_
  refine lv_iload_n hx hb dX9_tapeFour_25 rfl (lv_at hl 2 rfl) ?_
  refine lv_iload_n hx hb dX9_tapeFour_26 rfl (lv_at hl 0 rfl) ?_
  refine lv_ishr hx hb dX9_tapeFour_27 ?_
  refine lv_topi (fun z_3 ez_3 => ?_)
  refine lv_i2b hx hb dX9_tapeFour_28 rfl ?_
  refine lv_topi (fun z_4 ez_4 => ?_)
  refine va_bast hx hb hK.1 hP hD hS 1 0 rfl rfl (i := 16) (vp_in_iff.mpr (by decide)) dX9_tapeFour_29 (fun H locs hP hD hS => ?_)
  have hP : va_P D vwCl [((xa 0), .inr (9, [.ref (xa 1), .ref (xa 2), .ref (xa 3), .ref (xa 4), .ref (xa 5), .ref (xa 6), .ref (xa 7), .ref (xa 8), .ref (xa 9), .int 16, .ref (xa 11), .null, .int 0, .int (-1)])), ((xa 1), .inl (cy 0, 1600, .inl (upd f 16 (vp_nar .byte z_4))))] H := hP
  have hD : va_D A [((xa 0), .inr (9, [.ref (xa 1), .ref (xa 2), .ref (xa 3), .ref (xa 4), .ref (xa 5), .ref (xa 6), .ref (xa 7), .ref (xa 8), .ref (xa 9), .int 16, .ref (xa 11), .null, .int 0, .int (-1)])), ((xa 1), .inl (cy 0, 1600, .inl (upd f 16 (vp_nar .byte z_4))))] := hD
  generalize (upd f 16 (vp_nar .byte z_4)) = f_5 at hP hD
  refine lv_aload_n hx hb dX9_tapeFour_30 rfl (lv_at hl 1 rfl) ?_
  refine lv_dup hx hb dX9_tapeFour_31 rfl ?_
  refine va_get (D := D) (ci := 9) (v := .int 16) (C := RX9) (T := TX9) (N := 14) hx hb hts lay_X9 hown hK.1 hP 0 rfl rfl 9 (by decide) (hts _ fl_X9_75) (fun _ h9 => h9) rfl dX9_tapeFour_32 ?_
  refine lv_iconst (v := 1) hx hb dX9_tapeFour_35 (by decide) ?_
  refine lv_iadd hx hb dX9_tapeFour_36 ?_
  refine lv_topi (fun z_6 ez_6 => ?_)
  have ez_6 : z_6 = 17 := ez_6.trans (by decide)
  subst ez_6
  refine va_put (D := D) (ci := 9) (v := .int 17) (ty := tyX9 9) (C := RX9) (T := TX9) (N := 14) hx hb hts lay_X9 tyX9 tyX9_ok nmX9 hown hK.1 hP hD hS 0 rfl rfl 9 (by decide) (hts _ fl_X9_75) (fun _ h9 => h9) rfl (tyX9_ok 9 (by decide)) rfl rfl (Nat.le_of_ble_eq_true rfl) dX9_tapeFour_37 (fun H locs hP hD hS => ?_)
  have hP : va_P D vwCl [((xa 0), .inr (9, [.ref (xa 1), .ref (xa 2), .ref (xa 3), .ref (xa 4), .ref (xa 5), .ref (xa 6), .ref (xa 7), .ref (xa 8), .ref (xa 9), .int 17, .ref (xa 11), .null, .int 0, .int (-1)])), ((xa 1), .inl (cy 0, 1600, .inl f_5))] H := hP
  have hD : va_D A [((xa 0), .inr (9, [.ref (xa 1), .ref (xa 2), .ref (xa 3), .ref (xa 4), .ref (xa 5), .ref (xa 6), .ref (xa 7), .ref (xa 8), .ref (xa 9), .int 17, .ref (xa 11), .null, .int 0, .int (-1)])), ((xa 1), .inl (cy 0, 1600, .inl f_5))] := hD
  refine lv_iinc (v := 16) (lv' := [(2, .int 16), (0, .ref (xa 0)), (1, .int n0)]) hx hb dX9_tapeFour_40 hl (k := 0) rfl (by decide) (by decide) rfl (fun ls hl => ?_)
  refine lv_goto (tgt := 3) hx hb dX9_tapeFour_43 (by decide) ?_
  refine lv_iload_n hx hb dX9_tapeFour_3 rfl (lv_at hl 0 rfl) ?_
  refine lv_if_lt (tgt := 46) hx hb dX9_tapeFour_4 (by decide) (fun c_8 => absurd c_8 (by decide)) (fun _ => ?_)
  refine lv_aload_n hx hb dX9_tapeFour_7 rfl (lv_at hl 1 rfl) ?_
  refine va_get (D := D) (ci := 9) (v := .int 17) (C := RX9) (T := TX9) (N := 14) hx hb hts lay_X9 hown hK.1 hP 0 rfl rfl 9 (by decide) (hts _ fl_X9_75) (fun _ h9 => h9) rfl dX9_tapeFour_8 ?_
  refine lv_sipush (v := 1600) hx hb dX9_tapeFour_11 (by decide) ?_
  refine lv_icmp_ge (tgt := 40) hx hb dX9_tapeFour_14 (by decide) (fun c_9 => absurd c_9 (by decide)) (fun _ => ?_)
  refine lv_aload_n hx hb dX9_tapeFour_17 rfl (lv_at hl 1 rfl) ?_
  refine va_get (D := D) (ci := 9) (v := .ref (xa 1)) (C := RX9) (T := TX9) (N := 14) hx hb hts lay_X9 hown hK.1 hP 0 rfl rfl 0 (by decide) (hts _ fl_X9_9) (fun _ h9 => h9) rfl dX9_tapeFour_18 ?_
  refine lv_aload_n hx hb dX9_tapeFour_21 rfl (lv_at hl 1 rfl) ?_
  refine va_get (D := D) (ci := 9) (v := .int 17) (C := RX9) (T := TX9) (N := 14) hx hb hts lay_X9 hown hK.1 hP 0 rfl rfl 9 (by decide) (hts _ fl_X9_75) (fun _ h9 => h9) rfl dX9_tapeFour_22 ?_
  refine lv_iload_n hx hb dX9_tapeFour_25 rfl (lv_at hl 2 rfl) ?_
  refine lv_iload_n hx hb dX9_tapeFour_26 rfl (lv_at hl 0 rfl) ?_
  refine lv_ishr hx hb dX9_tapeFour_27 ?_
  refine lv_topi (fun z_10 ez_10 => ?_)
  refine lv_i2b hx hb dX9_tapeFour_28 rfl ?_
  refine lv_topi (fun z_11 ez_11 => ?_)
  refine va_bast hx hb hK.1 hP hD hS 1 0 rfl rfl (i := 17) (vp_in_iff.mpr (by decide)) dX9_tapeFour_29 (fun H locs hP hD hS => ?_)
  have hP : va_P D vwCl [((xa 0), .inr (9, [.ref (xa 1), .ref (xa 2), .ref (xa 3), .ref (xa 4), .ref (xa 5), .ref (xa 6), .ref (xa 7), .ref (xa 8), .ref (xa 9), .int 17, .ref (xa 11), .null, .int 0, .int (-1)])), ((xa 1), .inl (cy 0, 1600, .inl (upd f_5 17 (vp_nar .byte z_11))))] H := hP
  have hD : va_D A [((xa 0), .inr (9, [.ref (xa 1), .ref (xa 2), .ref (xa 3), .ref (xa 4), .ref (xa 5), .ref (xa 6), .ref (xa 7), .ref (xa 8), .ref (xa 9), .int 17, .ref (xa 11), .null, .int 0, .int (-1)])), ((xa 1), .inl (cy 0, 1600, .inl (upd f_5 17 (vp_nar .byte z_11))))] := hD
  generalize (upd f_5 17 (vp_nar .byte z_11)) = f_12 at hP hD
  refine lv_aload_n hx hb dX9_tapeFour_30 rfl (lv_at hl 1 rfl) ?_
  refine lv_dup hx hb dX9_tapeFour_31 rfl ?_
  refine va_get (D := D) (ci := 9) (v := .int 17) (C := RX9) (T := TX9) (N := 14) hx hb hts lay_X9 hown hK.1 hP 0 rfl rfl 9 (by decide) (hts _ fl_X9_75) (fun _ h9 => h9) rfl dX9_tapeFour_32 ?_
  refine lv_iconst (v := 1) hx hb dX9_tapeFour_35 (by decide) ?_
  refine lv_iadd hx hb dX9_tapeFour_36 ?_
  refine lv_topi (fun z_13 ez_13 => ?_)
  have ez_13 : z_13 = 18 := ez_13.trans (by decide)
  subst ez_13
  refine va_put (D := D) (ci := 9) (v := .int 18) (ty := tyX9 9) (C := RX9) (T := TX9) (N := 14) hx hb hts lay_X9 tyX9 tyX9_ok nmX9 hown hK.1 hP hD hS 0 rfl rfl 9 (by decide) (hts _ fl_X9_75) (fun _ h9 => h9) rfl (tyX9_ok 9 (by decide)) rfl rfl (Nat.le_of_ble_eq_true rfl) dX9_tapeFour_37 (fun H locs hP hD hS => ?_)
  have hP : va_P D vwCl [((xa 0), .inr (9, [.ref (xa 1), .ref (xa 2), .ref (xa 3), .ref (xa 4), .ref (xa 5), .ref (xa 6), .ref (xa 7), .ref (xa 8), .ref (xa 9), .int 18, .ref (xa 11), .null, .int 0, .int (-1)])), ((xa 1), .inl (cy 0, 1600, .inl f_12))] H := hP
  have hD : va_D A [((xa 0), .inr (9, [.ref (xa 1), .ref (xa 2), .ref (xa 3), .ref (xa 4), .ref (xa 5), .ref (xa 6), .ref (xa 7), .ref (xa 8), .ref (xa 9), .int 18, .ref (xa 11), .null, .int 0, .int (-1)])), ((xa 1), .inl (cy 0, 1600, .inl f_12))] := hD
  refine lv_iinc (v := 8) (lv' := [(2, .int 8), (0, .ref (xa 0)), (1, .int n0)]) hx hb dX9_tapeFour_40 hl (k := 0) rfl (by decide) (by decide) rfl (fun ls hl => ?_)
  refine lv_goto (tgt := 3) hx hb dX9_tapeFour_43 (by decide) ?_
  refine lv_iload_n hx hb dX9_tapeFour_3 rfl (lv_at hl 0 rfl) ?_
  refine lv_if_lt (tgt := 46) hx hb dX9_tapeFour_4 (by decide) (fun c_15 => absurd c_15 (by decide)) (fun _ => ?_)
  refine lv_aload_n hx hb dX9_tapeFour_7 rfl (lv_at hl 1 rfl) ?_
  refine va_get (D := D) (ci := 9) (v := .int 18) (C := RX9) (T := TX9) (N := 14) hx hb hts lay_X9 hown hK.1 hP 0 rfl rfl 9 (by decide) (hts _ fl_X9_75) (fun _ h9 => h9) rfl dX9_tapeFour_8 ?_
  refine lv_sipush (v := 1600) hx hb dX9_tapeFour_11 (by decide) ?_
  refine lv_icmp_ge (tgt := 40) hx hb dX9_tapeFour_14 (by decide) (fun c_16 => absurd c_16 (by decide)) (fun _ => ?_)
  refine lv_aload_n hx hb dX9_tapeFour_17 rfl (lv_at hl 1 rfl) ?_
  refine va_get (D := D) (ci := 9) (v := .ref (xa 1)) (C := RX9) (T := TX9) (N := 14) hx hb hts lay_X9 hown hK.1 hP 0 rfl rfl 0 (by decide) (hts _ fl_X9_9) (fun _ h9 => h9) rfl dX9_tapeFour_18 ?_
  refine lv_aload_n hx hb dX9_tapeFour_21 rfl (lv_at hl 1 rfl) ?_
  refine va_get (D := D) (ci := 9) (v := .int 18) (C := RX9) (T := TX9) (N := 14) hx hb hts lay_X9 hown hK.1 hP 0 rfl rfl 9 (by decide) (hts _ fl_X9_75) (fun _ h9 => h9) rfl dX9_tapeFour_22 ?_
  refine lv_iload_n hx hb dX9_tapeFour_25 rfl (lv_at hl 2 rfl) ?_
  refine lv_iload_n hx hb dX9_tapeFour_26 rfl (lv_at hl 0 rfl) ?_
  refine lv_ishr hx hb dX9_tapeFour_27 ?_
  refine lv_topi (fun z_17 ez_17 => ?_)
  refine lv_i2b hx hb dX9_tapeFour_28 rfl ?_
  refine lv_topi (fun z_18 ez_18 => ?_)
  refine va_bast hx hb hK.1 hP hD hS 1 0 rfl rfl (i := 18) (vp_in_iff.mpr (by decide)) dX9_tapeFour_29 (fun H locs hP hD hS => ?_)
  have hP : va_P D vwCl [((xa 0), .inr (9, [.ref (xa 1), .ref (xa 2), .ref (xa 3), .ref (xa 4), .ref (xa 5), .ref (xa 6), .ref (xa 7), .ref (xa 8), .ref (xa 9), .int 18, .ref (xa 11), .null, .int 0, .int (-1)])), ((xa 1), .inl (cy 0, 1600, .inl (upd f_12 18 (vp_nar .byte z_18))))] H := hP
  have hD : va_D A [((xa 0), .inr (9, [.ref (xa 1), .ref (xa 2), .ref (xa 3), .ref (xa 4), .ref (xa 5), .ref (xa 6), .ref (xa 7), .ref (xa 8), .ref (xa 9), .int 18, .ref (xa 11), .null, .int 0, .int (-1)])), ((xa 1), .inl (cy 0, 1600, .inl (upd f_12 18 (vp_nar .byte z_18))))] := hD
  generalize (upd f_12 18 (vp_nar .byte z_18)) = f_19 at hP hD
  refine lv_aload_n hx hb dX9_tapeFour_30 rfl (lv_at hl 1 rfl) ?_
  refine lv_dup hx hb dX9_tapeFour_31 rfl ?_
  refine va_get (D := D) (ci := 9) (v := .int 18) (C := RX9) (T := TX9) (N := 14) hx hb hts lay_X9 hown hK.1 hP 0 rfl rfl 9 (by decide) (hts _ fl_X9_75) (fun _ h9 => h9) rfl dX9_tapeFour_32 ?_
  refine lv_iconst (v := 1) hx hb dX9_tapeFour_35 (by decide) ?_
  refine lv_iadd hx hb dX9_tapeFour_36 ?_
  refine lv_topi (fun z_20 ez_20 => ?_)
  have ez_20 : z_20 = 19 := ez_20.trans (by decide)
  subst ez_20
  refine va_put (D := D) (ci := 9) (v := .int 19) (ty := tyX9 9) (C := RX9) (T := TX9) (N := 14) hx hb hts lay_X9 tyX9 tyX9_ok nmX9 hown hK.1 hP hD hS 0 rfl rfl 9 (by decide) (hts _ fl_X9_75) (fun _ h9 => h9) rfl (tyX9_ok 9 (by decide)) rfl rfl (Nat.le_of_ble_eq_true rfl) dX9_tapeFour_37 (fun H locs hP hD hS => ?_)
  have hP : va_P D vwCl [((xa 0), .inr (9, [.ref (xa 1), .ref (xa 2), .ref (xa 3), .ref (xa 4), .ref (xa 5), .ref (xa 6), .ref (xa 7), .ref (xa 8), .ref (xa 9), .int 19, .ref (xa 11), .null, .int 0, .int (-1)])), ((xa 1), .inl (cy 0, 1600, .inl f_19))] H := hP
  have hD : va_D A [((xa 0), .inr (9, [.ref (xa 1), .ref (xa 2), .ref (xa 3), .ref (xa 4), .ref (xa 5), .ref (xa 6), .ref (xa 7), .ref (xa 8), .ref (xa 9), .int 19, .ref (xa 11), .null, .int 0, .int (-1)])), ((xa 1), .inl (cy 0, 1600, .inl f_19))] := hD
  refine lv_iinc (v := 0) (lv' := [(2, .int 0), (0, .ref (xa 0)), (1, .int n0)]) hx hb dX9_tapeFour_40 hl (k := 0) rfl (by decide) (by decide) rfl (fun ls hl => ?_)
  refine lv_goto (tgt := 3) hx hb dX9_tapeFour_43 (by decide) ?_
  refine lv_iload_n hx hb dX9_tapeFour_3 rfl (lv_at hl 0 rfl) ?_
  refine lv_if_lt (tgt := 46) hx hb dX9_tapeFour_4 (by decide) (fun c_22 => absurd c_22 (by decide)) (fun _ => ?_)
  refine lv_aload_n hx hb dX9_tapeFour_7 rfl (lv_at hl 1 rfl) ?_
  refine va_get (D := D) (ci := 9) (v := .int 19) (C := RX9) (T := TX9) (N := 14) hx hb hts lay_X9 hown hK.1 hP 0 rfl rfl 9 (by decide) (hts _ fl_X9_75) (fun _ h9 => h9) rfl dX9_tapeFour_8 ?_
  refine lv_sipush (v := 1600) hx hb dX9_tapeFour_11 (by decide) ?_
  refine lv_icmp_ge (tgt := 40) hx hb dX9_tapeFour_14 (by decide) (fun c_23 => absurd c_23 (by decide)) (fun _ => ?_)
  refine lv_aload_n hx hb dX9_tapeFour_17 rfl (lv_at hl 1 rfl) ?_
  refine va_get (D := D) (ci := 9) (v := .ref (xa 1)) (C := RX9) (T := TX9) (N := 14) hx hb hts lay_X9 hown hK.1 hP 0 rfl rfl 0 (by decide) (hts _ fl_X9_9) (fun _ h9 => h9) rfl dX9_tapeFour_18 ?_
  refine lv_aload_n hx hb dX9_tapeFour_21 rfl (lv_at hl 1 rfl) ?_
  refine va_get (D := D) (ci := 9) (v := .int 19) (C := RX9) (T := TX9) (N := 14) hx hb hts lay_X9 hown hK.1 hP 0 rfl rfl 9 (by decide) (hts _ fl_X9_75) (fun _ h9 => h9) rfl dX9_tapeFour_22 ?_
  refine lv_iload_n hx hb dX9_tapeFour_25 rfl (lv_at hl 2 rfl) ?_
  refine lv_iload_n hx hb dX9_tapeFour_26 rfl (lv_at hl 0 rfl) ?_
  refine lv_ishr hx hb dX9_tapeFour_27 ?_
  refine lv_topi (fun z_24 ez_24 => ?_)
  refine lv_i2b hx hb dX9_tapeFour_28 rfl ?_
  refine lv_topi (fun z_25 ez_25 => ?_)
  refine va_bast hx hb hK.1 hP hD hS 1 0 rfl rfl (i := 19) (vp_in_iff.mpr (by decide)) dX9_tapeFour_29 (fun H locs hP hD hS => ?_)
  have hP : va_P D vwCl [((xa 0), .inr (9, [.ref (xa 1), .ref (xa 2), .ref (xa 3), .ref (xa 4), .ref (xa 5), .ref (xa 6), .ref (xa 7), .ref (xa 8), .ref (xa 9), .int 19, .ref (xa 11), .null, .int 0, .int (-1)])), ((xa 1), .inl (cy 0, 1600, .inl (upd f_19 19 (vp_nar .byte z_25))))] H := hP
  have hD : va_D A [((xa 0), .inr (9, [.ref (xa 1), .ref (xa 2), .ref (xa 3), .ref (xa 4), .ref (xa 5), .ref (xa 6), .ref (xa 7), .ref (xa 8), .ref (xa 9), .int 19, .ref (xa 11), .null, .int 0, .int (-1)])), ((xa 1), .inl (cy 0, 1600, .inl (upd f_19 19 (vp_nar .byte z_25))))] := hD
  generalize (upd f_19 19 (vp_nar .byte z_25)) = f_26 at hP hD
  refine lv_aload_n hx hb dX9_tapeFour_30 rfl (lv_at hl 1 rfl) ?_
  refine lv_dup hx hb dX9_tapeFour_31 rfl ?_
  refine va_get (D := D) (ci := 9) (v := .int 19) (C := RX9) (T := TX9) (N := 14) hx hb hts lay_X9 hown hK.1 hP 0 rfl rfl 9 (by decide) (hts _ fl_X9_75) (fun _ h9 => h9) rfl dX9_tapeFour_32 ?_
  refine lv_iconst (v := 1) hx hb dX9_tapeFour_35 (by decide) ?_
  refine lv_iadd hx hb dX9_tapeFour_36 ?_
  refine lv_topi (fun z_27 ez_27 => ?_)
  have ez_27 : z_27 = 20 := ez_27.trans (by decide)
  subst ez_27
  refine va_put (D := D) (ci := 9) (v := .int 20) (ty := tyX9 9) (C := RX9) (T := TX9) (N := 14) hx hb hts lay_X9 tyX9 tyX9_ok nmX9 hown hK.1 hP hD hS 0 rfl rfl 9 (by decide) (hts _ fl_X9_75) (fun _ h9 => h9) rfl (tyX9_ok 9 (by decide)) rfl rfl (Nat.le_of_ble_eq_true rfl) dX9_tapeFour_37 (fun H locs hP hD hS => ?_)
  have hP : va_P D vwCl [((xa 0), .inr (9, [.ref (xa 1), .ref (xa 2), .ref (xa 3), .ref (xa 4), .ref (xa 5), .ref (xa 6), .ref (xa 7), .ref (xa 8), .ref (xa 9), .int 20, .ref (xa 11), .null, .int 0, .int (-1)])), ((xa 1), .inl (cy 0, 1600, .inl f_26))] H := hP
  have hD : va_D A [((xa 0), .inr (9, [.ref (xa 1), .ref (xa 2), .ref (xa 3), .ref (xa 4), .ref (xa 5), .ref (xa 6), .ref (xa 7), .ref (xa 8), .ref (xa 9), .int 20, .ref (xa 11), .null, .int 0, .int (-1)])), ((xa 1), .inl (cy 0, 1600, .inl f_26))] := hD
  refine lv_iinc (v := (-8)) (lv' := [(2, .int (-8)), (0, .ref (xa 0)), (1, .int n0)]) hx hb dX9_tapeFour_40 hl (k := 0) rfl (by decide) (by decide) rfl (fun ls hl => ?_)
  refine lv_goto (tgt := 3) hx hb dX9_tapeFour_43 (by decide) ?_
  refine lv_iload_n hx hb dX9_tapeFour_3 rfl (lv_at hl 0 rfl) ?_
  refine lv_if_lt (tgt := 46) hx hb dX9_tapeFour_4 (by decide) (fun _ => ?_) (fun c_29 => absurd (by decide) c_29)
  exact ret_v hx hb hr hlocks ⟨⟨hS.1, hS.2.1⟩, ((fun _ => 0), (fun k => match k with | 0 => f_26 | _ => (fun _ => 0)), (fun _ => (fun _ => 0)), (fun _ => 0)), rfl, hP.sub [0, 1] rfl, hD.sub [0, 1] (by decide) rfl⟩ hS.2.2 (Nat.le_of_ble_eq_true rfl) (Nat.le_of_ble_eq_true rfl) dX9_tapeFour_46
set_option maxHeartbeats 4000000 in
set_option maxRecDepth 100000 in
theorem four_16 (l : Launch) (D : va_G) (cy : Nat → ClassId) (ma : Nat → Nat) (f : Nat → Int32) (n0 : Int32) (sz : Nat) : MM l yX10_four cX10_four 3 none 0 0 0 D cy [.ref (ma 0), .int n0] (PW D [((ma 0), .inr (10, [.int 0, .ref (ma 1), .ref (ma 2), .ref (ma 3), .ref (ma 4), .ref (ma 5), .int 16, .int 0, .int 0, .int 0, .int 0, .long 0, .int 0, .int 0, .int 0, .int (-1), .ref (ma 16), .ref (ma 17), .ref (ma 18), .ref (ma 19), .ref (ma 20), .ref (ma 21), .ref (ma 22), .ref (ma 23), .ref (ma 24), .ref (ma 25), .ref (ma 26), .ref (ma 27), .ref (ma 28), .ref (ma 29), .ref (ma 30), .ref (ma 31), .ref (ma 32), .ref (ma 33), .ref (ma 34), .ref (ma 35), .ref (ma 36), .ref (ma 37), .ref (ma 38), .ref (ma 39), .ref (ma 40), .ref (ma 41), .long 0])), ((ma 5), .inl (cy 0, 1600, .inl f))] sz) (QW D (va_A [((ma 0), .inr (10, [.int 0, .ref (ma 1), .ref (ma 2), .ref (ma 3), .ref (ma 4), .ref (ma 5), .int 16, .int 0, .int 0, .int 0, .int 0, .long 0, .int 0, .int 0, .int 0, .int (-1), .ref (ma 16), .ref (ma 17), .ref (ma 18), .ref (ma 19), .ref (ma 20), .ref (ma 21), .ref (ma 22), .ref (ma 23), .ref (ma 24), .ref (ma 25), .ref (ma 26), .ref (ma 27), .ref (ma 28), .ref (ma 29), .ref (ma 30), .ref (ma 31), .ref (ma 32), .ref (ma 33), .ref (ma 34), .ref (ma 35), .ref (ma 36), .ref (ma 37), .ref (ma 38), .ref (ma 39), .ref (ma 40), .ref (ma 41), .long 0])), ((ma 5), .inl (cy 0, 1600, .inl f))] sz) (S := (Nat → Nat) × (Nat → Nat → Int32) × (Nat → Nat → Int64) × (Nat → Int32)) (fun v u => v = none) (fun u => [((ma 0), .inr (10, [.int 0, .ref (ma 1), .ref (ma 2), .ref (ma 3), .ref (ma 4), .ref (ma 5), .int 20, .int 0, .int 0, .int 0, .int 0, .long 0, .int 0, .int 0, .int 0, .int (-1), .ref (ma 16), .ref (ma 17), .ref (ma 18), .ref (ma 19), .ref (ma 20), .ref (ma 21), .ref (ma 22), .ref (ma 23), .ref (ma 24), .ref (ma 25), .ref (ma 26), .ref (ma 27), .ref (ma 28), .ref (ma 29), .ref (ma 30), .ref (ma 31), .ref (ma 32), .ref (ma 33), .ref (ma 34), .ref (ma 35), .ref (ma 36), .ref (ma 37), .ref (ma 38), .ref (ma 39), .ref (ma 40), .ref (ma 41), .long 0])), ((ma 5), .inl (cy 0, 1600, .inl (u.2.1 0)))])) (va_A [((ma 0), .inr (10, [.int 0, .ref (ma 1), .ref (ma 2), .ref (ma 3), .ref (ma 4), .ref (ma 5), .int 16, .int 0, .int 0, .int 0, .int 0, .long 0, .int 0, .int 0, .int 0, .int (-1), .ref (ma 16), .ref (ma 17), .ref (ma 18), .ref (ma 19), .ref (ma 20), .ref (ma 21), .ref (ma 22), .ref (ma 23), .ref (ma 24), .ref (ma 25), .ref (ma 26), .ref (ma 27), .ref (ma 28), .ref (ma 29), .ref (ma 30), .ref (ma 31), .ref (ma 32), .ref (ma 33), .ref (ma 34), .ref (ma 35), .ref (ma 36), .ref (ma 37), .ref (ma 38), .ref (ma 39), .ref (ma 40), .ref (ma 41), .long 0])), ((ma 5), .inl (cy 0, 1600, .inl f))] sz) := by
  refine MM.of (by decide) (Nat.le_of_ble_eq_true rfl) ?_
  intro p e s m below meth c C hPW ls hl
  obtain ⟨hx, hb, hr, hml, hown, hts, hlocks, hK, hnm⟩ := C
  obtain ⟨rfl, hP, hD0⟩ := hPW
  have hD := hD0.self (sz := s.heap.size)
  have hA : ∀ q : Nat, s.heap.size ≤ q → (va_A [((ma 0), .inr (10, [.int 0, .ref (ma 1), .ref (ma 2), .ref (ma 3), .ref (ma 4), .ref (ma 5), .int 16, .int 0, .int 0, .int 0, .int 0, .long 0, .int 0, .int 0, .int 0, .int (-1), .ref (ma 16), .ref (ma 17), .ref (ma 18), .ref (ma 19), .ref (ma 20), .ref (ma 21), .ref (ma 22), .ref (ma 23), .ref (ma 24), .ref (ma 25), .ref (ma 26), .ref (ma 27), .ref (ma 28), .ref (ma 29), .ref (ma 30), .ref (ma 31), .ref (ma 32), .ref (ma 33), .ref (ma 34), .ref (ma 35), .ref (ma 36), .ref (ma 37), .ref (ma 38), .ref (ma 39), .ref (ma 40), .ref (ma 41), .long 0])), ((ma 5), .inl (cy 0, 1600, .inl f))] s.heap.size) q := fun q h => Or.inr h
  have hS : va_S (va_A [((ma 0), .inr (10, [.int 0, .ref (ma 1), .ref (ma 2), .ref (ma 3), .ref (ma 4), .ref (ma 5), .int 16, .int 0, .int 0, .int 0, .int 0, .long 0, .int 0, .int 0, .int 0, .int (-1), .ref (ma 16), .ref (ma 17), .ref (ma 18), .ref (ma 19), .ref (ma 20), .ref (ma 21), .ref (ma 22), .ref (ma 23), .ref (ma 24), .ref (ma 25), .ref (ma 26), .ref (ma 27), .ref (ma 28), .ref (ma 29), .ref (ma 30), .ref (ma 31), .ref (ma 32), .ref (ma 33), .ref (ma 34), .ref (ma 35), .ref (ma 36), .ref (ma 37), .ref (ma 38), .ref (ma 39), .ref (ma 40), .ref (ma 41), .long 0])), ((ma 5), .inl (cy 0, 1600, .inl f))] s.heap.size) s.heap s.heap [] := va_S.rf
  generalize va_A [((ma 0), .inr (10, [.int 0, .ref (ma 1), .ref (ma 2), .ref (ma 3), .ref (ma 4), .ref (ma 5), .int 16, .int 0, .int 0, .int 0, .int 0, .long 0, .int 0, .int 0, .int 0, .int (-1), .ref (ma 16), .ref (ma 17), .ref (ma 18), .ref (ma 19), .ref (ma 20), .ref (ma 21), .ref (ma 22), .ref (ma 23), .ref (ma 24), .ref (ma 25), .ref (ma 26), .ref (ma 27), .ref (ma 28), .ref (ma 29), .ref (ma 30), .ref (ma 31), .ref (ma 32), .ref (ma 33), .ref (ma 34), .ref (ma 35), .ref (ma 36), .ref (ma 37), .ref (ma 38), .ref (ma 39), .ref (ma 40), .ref (ma 41), .long 0])), ((ma 5), .inl (cy 0, 1600, .inl f))] s.heap.size = A at hD hA hS ⊢
  have hP : va_P D vwCl [((ma 0), .inr (10, [.int 0, .ref (ma 1), .ref (ma 2), .ref (ma 3), .ref (ma 4), .ref (ma 5), .int 16, .int 0, .int 0, .int 0, .int 0, .long 0, .int 0, .int 0, .int 0, .int (-1), .ref (ma 16), .ref (ma 17), .ref (ma 18), .ref (ma 19), .ref (ma 20), .ref (ma 21), .ref (ma 22), .ref (ma 23), .ref (ma 24), .ref (ma 25), .ref (ma 26), .ref (ma 27), .ref (ma 28), .ref (ma 29), .ref (ma 30), .ref (ma 31), .ref (ma 32), .ref (ma 33), .ref (ma 34), .ref (ma 35), .ref (ma 36), .ref (ma 37), .ref (ma 38), .ref (ma 39), .ref (ma 40), .ref (ma 41), .long 0])), ((ma 5), .inl (cy 0, 1600, .inl f))] s.heap := hP
  have hl : lv_has ls 3 [(0, .ref (ma 0)), (1, .int n0)] := hl
  refine lv_bipush (v := 24) hx hb dX10_four_0 (by decide) ?_
  refine lv_istore_n (lv' := [(2, .int 24), (0, .ref (ma 0)), (1, .int n0)]) hx hb dX10_four_2 rfl hl (by decide) rfl (fun ls hl => ?_)
  refine lv_iload_n hx hb dX10_four_3 rfl (lv_at hl 0 rfl) ?_
  refine lv_if_lt (tgt := 36) hx hb dX10_four_4 (by decide) (fun c_1 => absurd c_1 (by decide)) (fun _ => ?_)
  refine lv_aload_n hx hb dX10_four_7 rfl (lv_at hl 1 rfl) ?_
  refine va_get (D := D) (ci := 10) (v := .ref (ma 5)) (C := RX10) (T := TX10) (N := 43) hx hb hts lay_X10 hown hK.1 hP 0 rfl rfl 5 (by decide) (hts _ fl_X10_23) (fun _ h9 => h9) rfl dX10_four_8 ?_
  refine lv_aload_n hx hb dX10_four_11 rfl (lv_at hl 1 rfl) ?_
  refine va_get (D := D) (ci := 10) (v := .int 16) (C := RX10) (T := TX10) (N := 43) hx hb hts lay_X10 hown hK.1 hP 0 rfl rfl 6 (by decide) (hts _ fl_X10_128) (fun _ h9 => h9) rfl dX10_four_12 ?_
  refine lv_iload_n hx hb dX10_four_15 rfl (lv_at hl 2 rfl) ?_
  refine lv_iload_n hx hb dX10_four_16 rfl (lv_at hl 0 rfl) ?_
  refine lv_ishr hx hb dX10_four_17 ?_
  refine lv_topi (fun z_2 ez_2 => ?_)
  refine lv_i2b hx hb dX10_four_18 rfl ?_
  refine lv_topi (fun z_3 ez_3 => ?_)
  refine va_bast hx hb hK.1 hP hD hS 1 0 rfl rfl (i := 16) (vp_in_iff.mpr (by decide)) dX10_four_19 (fun H locs hP hD hS => ?_)
  have hP : va_P D vwCl [((ma 0), .inr (10, [.int 0, .ref (ma 1), .ref (ma 2), .ref (ma 3), .ref (ma 4), .ref (ma 5), .int 16, .int 0, .int 0, .int 0, .int 0, .long 0, .int 0, .int 0, .int 0, .int (-1), .ref (ma 16), .ref (ma 17), .ref (ma 18), .ref (ma 19), .ref (ma 20), .ref (ma 21), .ref (ma 22), .ref (ma 23), .ref (ma 24), .ref (ma 25), .ref (ma 26), .ref (ma 27), .ref (ma 28), .ref (ma 29), .ref (ma 30), .ref (ma 31), .ref (ma 32), .ref (ma 33), .ref (ma 34), .ref (ma 35), .ref (ma 36), .ref (ma 37), .ref (ma 38), .ref (ma 39), .ref (ma 40), .ref (ma 41), .long 0])), ((ma 5), .inl (cy 0, 1600, .inl (upd f 16 (vp_nar .byte z_3))))] H := hP
  have hD : va_D A [((ma 0), .inr (10, [.int 0, .ref (ma 1), .ref (ma 2), .ref (ma 3), .ref (ma 4), .ref (ma 5), .int 16, .int 0, .int 0, .int 0, .int 0, .long 0, .int 0, .int 0, .int 0, .int (-1), .ref (ma 16), .ref (ma 17), .ref (ma 18), .ref (ma 19), .ref (ma 20), .ref (ma 21), .ref (ma 22), .ref (ma 23), .ref (ma 24), .ref (ma 25), .ref (ma 26), .ref (ma 27), .ref (ma 28), .ref (ma 29), .ref (ma 30), .ref (ma 31), .ref (ma 32), .ref (ma 33), .ref (ma 34), .ref (ma 35), .ref (ma 36), .ref (ma 37), .ref (ma 38), .ref (ma 39), .ref (ma 40), .ref (ma 41), .long 0])), ((ma 5), .inl (cy 0, 1600, .inl (upd f 16 (vp_nar .byte z_3))))] := hD
  generalize (upd f 16 (vp_nar .byte z_3)) = f_4 at hP hD
  refine lv_aload_n hx hb dX10_four_20 rfl (lv_at hl 1 rfl) ?_
  refine lv_dup hx hb dX10_four_21 rfl ?_
  refine va_get (D := D) (ci := 10) (v := .int 16) (C := RX10) (T := TX10) (N := 43) hx hb hts lay_X10 hown hK.1 hP 0 rfl rfl 6 (by decide) (hts _ fl_X10_128) (fun _ h9 => h9) rfl dX10_four_22 ?_
  refine lv_iconst (v := 1) hx hb dX10_four_25 (by decide) ?_
  refine lv_iadd hx hb dX10_four_26 ?_
  refine lv_topi (fun z_5 ez_5 => ?_)
  have ez_5 : z_5 = 17 := ez_5.trans (by decide)
  subst ez_5
  refine va_put (D := D) (ci := 10) (v := .int 17) (ty := tyX10 6) (C := RX10) (T := TX10) (N := 43) hx hb hts lay_X10 tyX10 tyX10_ok nmX10 hown hK.1 hP hD hS 0 rfl rfl 6 (by decide) (hts _ fl_X10_128) (fun _ h9 => h9) rfl (tyX10_ok 6 (by decide)) rfl rfl (Nat.le_of_ble_eq_true rfl) dX10_four_27 (fun H locs hP hD hS => ?_)
  have hP : va_P D vwCl [((ma 0), .inr (10, [.int 0, .ref (ma 1), .ref (ma 2), .ref (ma 3), .ref (ma 4), .ref (ma 5), .int 17, .int 0, .int 0, .int 0, .int 0, .long 0, .int 0, .int 0, .int 0, .int (-1), .ref (ma 16), .ref (ma 17), .ref (ma 18), .ref (ma 19), .ref (ma 20), .ref (ma 21), .ref (ma 22), .ref (ma 23), .ref (ma 24), .ref (ma 25), .ref (ma 26), .ref (ma 27), .ref (ma 28), .ref (ma 29), .ref (ma 30), .ref (ma 31), .ref (ma 32), .ref (ma 33), .ref (ma 34), .ref (ma 35), .ref (ma 36), .ref (ma 37), .ref (ma 38), .ref (ma 39), .ref (ma 40), .ref (ma 41), .long 0])), ((ma 5), .inl (cy 0, 1600, .inl f_4))] H := hP
  have hD : va_D A [((ma 0), .inr (10, [.int 0, .ref (ma 1), .ref (ma 2), .ref (ma 3), .ref (ma 4), .ref (ma 5), .int 17, .int 0, .int 0, .int 0, .int 0, .long 0, .int 0, .int 0, .int 0, .int (-1), .ref (ma 16), .ref (ma 17), .ref (ma 18), .ref (ma 19), .ref (ma 20), .ref (ma 21), .ref (ma 22), .ref (ma 23), .ref (ma 24), .ref (ma 25), .ref (ma 26), .ref (ma 27), .ref (ma 28), .ref (ma 29), .ref (ma 30), .ref (ma 31), .ref (ma 32), .ref (ma 33), .ref (ma 34), .ref (ma 35), .ref (ma 36), .ref (ma 37), .ref (ma 38), .ref (ma 39), .ref (ma 40), .ref (ma 41), .long 0])), ((ma 5), .inl (cy 0, 1600, .inl f_4))] := hD
  refine lv_iinc (v := 16) (lv' := [(2, .int 16), (0, .ref (ma 0)), (1, .int n0)]) hx hb dX10_four_30 hl (k := 0) rfl (by decide) (by decide) rfl (fun ls hl => ?_)
  refine lv_goto (tgt := 3) hx hb dX10_four_33 (by decide) ?_
  refine lv_iload_n hx hb dX10_four_3 rfl (lv_at hl 0 rfl) ?_
  refine lv_if_lt (tgt := 36) hx hb dX10_four_4 (by decide) (fun c_7 => absurd c_7 (by decide)) (fun _ => ?_)
  refine lv_aload_n hx hb dX10_four_7 rfl (lv_at hl 1 rfl) ?_
  refine va_get (D := D) (ci := 10) (v := .ref (ma 5)) (C := RX10) (T := TX10) (N := 43) hx hb hts lay_X10 hown hK.1 hP 0 rfl rfl 5 (by decide) (hts _ fl_X10_23) (fun _ h9 => h9) rfl dX10_four_8 ?_
  refine lv_aload_n hx hb dX10_four_11 rfl (lv_at hl 1 rfl) ?_
  refine va_get (D := D) (ci := 10) (v := .int 17) (C := RX10) (T := TX10) (N := 43) hx hb hts lay_X10 hown hK.1 hP 0 rfl rfl 6 (by decide) (hts _ fl_X10_128) (fun _ h9 => h9) rfl dX10_four_12 ?_
  refine lv_iload_n hx hb dX10_four_15 rfl (lv_at hl 2 rfl) ?_
  refine lv_iload_n hx hb dX10_four_16 rfl (lv_at hl 0 rfl) ?_
  refine lv_ishr hx hb dX10_four_17 ?_
  refine lv_topi (fun z_8 ez_8 => ?_)
  refine lv_i2b hx hb dX10_four_18 rfl ?_
  refine lv_topi (fun z_9 ez_9 => ?_)
  refine va_bast hx hb hK.1 hP hD hS 1 0 rfl rfl (i := 17) (vp_in_iff.mpr (by decide)) dX10_four_19 (fun H locs hP hD hS => ?_)
  have hP : va_P D vwCl [((ma 0), .inr (10, [.int 0, .ref (ma 1), .ref (ma 2), .ref (ma 3), .ref (ma 4), .ref (ma 5), .int 17, .int 0, .int 0, .int 0, .int 0, .long 0, .int 0, .int 0, .int 0, .int (-1), .ref (ma 16), .ref (ma 17), .ref (ma 18), .ref (ma 19), .ref (ma 20), .ref (ma 21), .ref (ma 22), .ref (ma 23), .ref (ma 24), .ref (ma 25), .ref (ma 26), .ref (ma 27), .ref (ma 28), .ref (ma 29), .ref (ma 30), .ref (ma 31), .ref (ma 32), .ref (ma 33), .ref (ma 34), .ref (ma 35), .ref (ma 36), .ref (ma 37), .ref (ma 38), .ref (ma 39), .ref (ma 40), .ref (ma 41), .long 0])), ((ma 5), .inl (cy 0, 1600, .inl (upd f_4 17 (vp_nar .byte z_9))))] H := hP
  have hD : va_D A [((ma 0), .inr (10, [.int 0, .ref (ma 1), .ref (ma 2), .ref (ma 3), .ref (ma 4), .ref (ma 5), .int 17, .int 0, .int 0, .int 0, .int 0, .long 0, .int 0, .int 0, .int 0, .int (-1), .ref (ma 16), .ref (ma 17), .ref (ma 18), .ref (ma 19), .ref (ma 20), .ref (ma 21), .ref (ma 22), .ref (ma 23), .ref (ma 24), .ref (ma 25), .ref (ma 26), .ref (ma 27), .ref (ma 28), .ref (ma 29), .ref (ma 30), .ref (ma 31), .ref (ma 32), .ref (ma 33), .ref (ma 34), .ref (ma 35), .ref (ma 36), .ref (ma 37), .ref (ma 38), .ref (ma 39), .ref (ma 40), .ref (ma 41), .long 0])), ((ma 5), .inl (cy 0, 1600, .inl (upd f_4 17 (vp_nar .byte z_9))))] := hD
  generalize (upd f_4 17 (vp_nar .byte z_9)) = f_10 at hP hD
  refine lv_aload_n hx hb dX10_four_20 rfl (lv_at hl 1 rfl) ?_
  refine lv_dup hx hb dX10_four_21 rfl ?_
  refine va_get (D := D) (ci := 10) (v := .int 17) (C := RX10) (T := TX10) (N := 43) hx hb hts lay_X10 hown hK.1 hP 0 rfl rfl 6 (by decide) (hts _ fl_X10_128) (fun _ h9 => h9) rfl dX10_four_22 ?_
  refine lv_iconst (v := 1) hx hb dX10_four_25 (by decide) ?_
  refine lv_iadd hx hb dX10_four_26 ?_
  refine lv_topi (fun z_11 ez_11 => ?_)
  have ez_11 : z_11 = 18 := ez_11.trans (by decide)
  subst ez_11
  refine va_put (D := D) (ci := 10) (v := .int 18) (ty := tyX10 6) (C := RX10) (T := TX10) (N := 43) hx hb hts lay_X10 tyX10 tyX10_ok nmX10 hown hK.1 hP hD hS 0 rfl rfl 6 (by decide) (hts _ fl_X10_128) (fun _ h9 => h9) rfl (tyX10_ok 6 (by decide)) rfl rfl (Nat.le_of_ble_eq_true rfl) dX10_four_27 (fun H locs hP hD hS => ?_)
  have hP : va_P D vwCl [((ma 0), .inr (10, [.int 0, .ref (ma 1), .ref (ma 2), .ref (ma 3), .ref (ma 4), .ref (ma 5), .int 18, .int 0, .int 0, .int 0, .int 0, .long 0, .int 0, .int 0, .int 0, .int (-1), .ref (ma 16), .ref (ma 17), .ref (ma 18), .ref (ma 19), .ref (ma 20), .ref (ma 21), .ref (ma 22), .ref (ma 23), .ref (ma 24), .ref (ma 25), .ref (ma 26), .ref (ma 27), .ref (ma 28), .ref (ma 29), .ref (ma 30), .ref (ma 31), .ref (ma 32), .ref (ma 33), .ref (ma 34), .ref (ma 35), .ref (ma 36), .ref (ma 37), .ref (ma 38), .ref (ma 39), .ref (ma 40), .ref (ma 41), .long 0])), ((ma 5), .inl (cy 0, 1600, .inl f_10))] H := hP
  have hD : va_D A [((ma 0), .inr (10, [.int 0, .ref (ma 1), .ref (ma 2), .ref (ma 3), .ref (ma 4), .ref (ma 5), .int 18, .int 0, .int 0, .int 0, .int 0, .long 0, .int 0, .int 0, .int 0, .int (-1), .ref (ma 16), .ref (ma 17), .ref (ma 18), .ref (ma 19), .ref (ma 20), .ref (ma 21), .ref (ma 22), .ref (ma 23), .ref (ma 24), .ref (ma 25), .ref (ma 26), .ref (ma 27), .ref (ma 28), .ref (ma 29), .ref (ma 30), .ref (ma 31), .ref (ma 32), .ref (ma 33), .ref (ma 34), .ref (ma 35), .ref (ma 36), .ref (ma 37), .ref (ma 38), .ref (ma 39), .ref (ma 40), .ref (ma 41), .long 0])), ((ma 5), .inl (cy 0, 1600, .inl f_10))] := hD
  refine lv_iinc (v := 8) (lv' := [(2, .int 8), (0, .ref (ma 0)), (1, .int n0)]) hx hb dX10_four_30 hl (k := 0) rfl (by decide) (by decide) rfl (fun ls hl => ?_)
  refine lv_goto (tgt := 3) hx hb dX10_four_33 (by decide) ?_
  refine lv_iload_n hx hb dX10_four_3 rfl (lv_at hl 0 rfl) ?_
  refine lv_if_lt (tgt := 36) hx hb dX10_four_4 (by decide) (fun c_13 => absurd c_13 (by decide)) (fun _ => ?_)
  refine lv_aload_n hx hb dX10_four_7 rfl (lv_at hl 1 rfl) ?_
  refine va_get (D := D) (ci := 10) (v := .ref (ma 5)) (C := RX10) (T := TX10) (N := 43) hx hb hts lay_X10 hown hK.1 hP 0 rfl rfl 5 (by decide) (hts _ fl_X10_23) (fun _ h9 => h9) rfl dX10_four_8 ?_
  refine lv_aload_n hx hb dX10_four_11 rfl (lv_at hl 1 rfl) ?_
  refine va_get (D := D) (ci := 10) (v := .int 18) (C := RX10) (T := TX10) (N := 43) hx hb hts lay_X10 hown hK.1 hP 0 rfl rfl 6 (by decide) (hts _ fl_X10_128) (fun _ h9 => h9) rfl dX10_four_12 ?_
  refine lv_iload_n hx hb dX10_four_15 rfl (lv_at hl 2 rfl) ?_
  refine lv_iload_n hx hb dX10_four_16 rfl (lv_at hl 0 rfl) ?_
  refine lv_ishr hx hb dX10_four_17 ?_
  refine lv_topi (fun z_14 ez_14 => ?_)
  refine lv_i2b hx hb dX10_four_18 rfl ?_
  refine lv_topi (fun z_15 ez_15 => ?_)
  refine va_bast hx hb hK.1 hP hD hS 1 0 rfl rfl (i := 18) (vp_in_iff.mpr (by decide)) dX10_four_19 (fun H locs hP hD hS => ?_)
  have hP : va_P D vwCl [((ma 0), .inr (10, [.int 0, .ref (ma 1), .ref (ma 2), .ref (ma 3), .ref (ma 4), .ref (ma 5), .int 18, .int 0, .int 0, .int 0, .int 0, .long 0, .int 0, .int 0, .int 0, .int (-1), .ref (ma 16), .ref (ma 17), .ref (ma 18), .ref (ma 19), .ref (ma 20), .ref (ma 21), .ref (ma 22), .ref (ma 23), .ref (ma 24), .ref (ma 25), .ref (ma 26), .ref (ma 27), .ref (ma 28), .ref (ma 29), .ref (ma 30), .ref (ma 31), .ref (ma 32), .ref (ma 33), .ref (ma 34), .ref (ma 35), .ref (ma 36), .ref (ma 37), .ref (ma 38), .ref (ma 39), .ref (ma 40), .ref (ma 41), .long 0])), ((ma 5), .inl (cy 0, 1600, .inl (upd f_10 18 (vp_nar .byte z_15))))] H := hP
  have hD : va_D A [((ma 0), .inr (10, [.int 0, .ref (ma 1), .ref (ma 2), .ref (ma 3), .ref (ma 4), .ref (ma 5), .int 18, .int 0, .int 0, .int 0, .int 0, .long 0, .int 0, .int 0, .int 0, .int (-1), .ref (ma 16), .ref (ma 17), .ref (ma 18), .ref (ma 19), .ref (ma 20), .ref (ma 21), .ref (ma 22), .ref (ma 23), .ref (ma 24), .ref (ma 25), .ref (ma 26), .ref (ma 27), .ref (ma 28), .ref (ma 29), .ref (ma 30), .ref (ma 31), .ref (ma 32), .ref (ma 33), .ref (ma 34), .ref (ma 35), .ref (ma 36), .ref (ma 37), .ref (ma 38), .ref (ma 39), .ref (ma 40), .ref (ma 41), .long 0])), ((ma 5), .inl (cy 0, 1600, .inl (upd f_10 18 (vp_nar .byte z_15))))] := hD
  generalize (upd f_10 18 (vp_nar .byte z_15)) = f_16 at hP hD
  refine lv_aload_n hx hb dX10_four_20 rfl (lv_at hl 1 rfl) ?_
  refine lv_dup hx hb dX10_four_21 rfl ?_
  refine va_get (D := D) (ci := 10) (v := .int 18) (C := RX10) (T := TX10) (N := 43) hx hb hts lay_X10 hown hK.1 hP 0 rfl rfl 6 (by decide) (hts _ fl_X10_128) (fun _ h9 => h9) rfl dX10_four_22 ?_
  refine lv_iconst (v := 1) hx hb dX10_four_25 (by decide) ?_
  refine lv_iadd hx hb dX10_four_26 ?_
  refine lv_topi (fun z_17 ez_17 => ?_)
  have ez_17 : z_17 = 19 := ez_17.trans (by decide)
  subst ez_17
  refine va_put (D := D) (ci := 10) (v := .int 19) (ty := tyX10 6) (C := RX10) (T := TX10) (N := 43) hx hb hts lay_X10 tyX10 tyX10_ok nmX10 hown hK.1 hP hD hS 0 rfl rfl 6 (by decide) (hts _ fl_X10_128) (fun _ h9 => h9) rfl (tyX10_ok 6 (by decide)) rfl rfl (Nat.le_of_ble_eq_true rfl) dX10_four_27 (fun H locs hP hD hS => ?_)
  have hP : va_P D vwCl [((ma 0), .inr (10, [.int 0, .ref (ma 1), .ref (ma 2), .ref (ma 3), .ref (ma 4), .ref (ma 5), .int 19, .int 0, .int 0, .int 0, .int 0, .long 0, .int 0, .int 0, .int 0, .int (-1), .ref (ma 16), .ref (ma 17), .ref (ma 18), .ref (ma 19), .ref (ma 20), .ref (ma 21), .ref (ma 22), .ref (ma 23), .ref (ma 24), .ref (ma 25), .ref (ma 26), .ref (ma 27), .ref (ma 28), .ref (ma 29), .ref (ma 30), .ref (ma 31), .ref (ma 32), .ref (ma 33), .ref (ma 34), .ref (ma 35), .ref (ma 36), .ref (ma 37), .ref (ma 38), .ref (ma 39), .ref (ma 40), .ref (ma 41), .long 0])), ((ma 5), .inl (cy 0, 1600, .inl f_16))] H := hP
  have hD : va_D A [((ma 0), .inr (10, [.int 0, .ref (ma 1), .ref (ma 2), .ref (ma 3), .ref (ma 4), .ref (ma 5), .int 19, .int 0, .int 0, .int 0, .int 0, .long 0, .int 0, .int 0, .int 0, .int (-1), .ref (ma 16), .ref (ma 17), .ref (ma 18), .ref (ma 19), .ref (ma 20), .ref (ma 21), .ref (ma 22), .ref (ma 23), .ref (ma 24), .ref (ma 25), .ref (ma 26), .ref (ma 27), .ref (ma 28), .ref (ma 29), .ref (ma 30), .ref (ma 31), .ref (ma 32), .ref (ma 33), .ref (ma 34), .ref (ma 35), .ref (ma 36), .ref (ma 37), .ref (ma 38), .ref (ma 39), .ref (ma 40), .ref (ma 41), .long 0])), ((ma 5), .inl (cy 0, 1600, .inl f_16))] := hD
  refine lv_iinc (v := 0) (lv' := [(2, .int 0), (0, .ref (ma 0)), (1, .int n0)]) hx hb dX10_four_30 hl (k := 0) rfl (by decide) (by decide) rfl (fun ls hl => ?_)
  refine lv_goto (tgt := 3) hx hb dX10_four_33 (by decide) ?_
  refine lv_iload_n hx hb dX10_four_3 rfl (lv_at hl 0 rfl) ?_
  refine lv_if_lt (tgt := 36) hx hb dX10_four_4 (by decide) (fun c_19 => absurd c_19 (by decide)) (fun _ => ?_)
  refine lv_aload_n hx hb dX10_four_7 rfl (lv_at hl 1 rfl) ?_
  refine va_get (D := D) (ci := 10) (v := .ref (ma 5)) (C := RX10) (T := TX10) (N := 43) hx hb hts lay_X10 hown hK.1 hP 0 rfl rfl 5 (by decide) (hts _ fl_X10_23) (fun _ h9 => h9) rfl dX10_four_8 ?_
  refine lv_aload_n hx hb dX10_four_11 rfl (lv_at hl 1 rfl) ?_
  refine va_get (D := D) (ci := 10) (v := .int 19) (C := RX10) (T := TX10) (N := 43) hx hb hts lay_X10 hown hK.1 hP 0 rfl rfl 6 (by decide) (hts _ fl_X10_128) (fun _ h9 => h9) rfl dX10_four_12 ?_
  refine lv_iload_n hx hb dX10_four_15 rfl (lv_at hl 2 rfl) ?_
  refine lv_iload_n hx hb dX10_four_16 rfl (lv_at hl 0 rfl) ?_
  refine lv_ishr hx hb dX10_four_17 ?_
  refine lv_topi (fun z_20 ez_20 => ?_)
  refine lv_i2b hx hb dX10_four_18 rfl ?_
  refine lv_topi (fun z_21 ez_21 => ?_)
  refine va_bast hx hb hK.1 hP hD hS 1 0 rfl rfl (i := 19) (vp_in_iff.mpr (by decide)) dX10_four_19 (fun H locs hP hD hS => ?_)
  have hP : va_P D vwCl [((ma 0), .inr (10, [.int 0, .ref (ma 1), .ref (ma 2), .ref (ma 3), .ref (ma 4), .ref (ma 5), .int 19, .int 0, .int 0, .int 0, .int 0, .long 0, .int 0, .int 0, .int 0, .int (-1), .ref (ma 16), .ref (ma 17), .ref (ma 18), .ref (ma 19), .ref (ma 20), .ref (ma 21), .ref (ma 22), .ref (ma 23), .ref (ma 24), .ref (ma 25), .ref (ma 26), .ref (ma 27), .ref (ma 28), .ref (ma 29), .ref (ma 30), .ref (ma 31), .ref (ma 32), .ref (ma 33), .ref (ma 34), .ref (ma 35), .ref (ma 36), .ref (ma 37), .ref (ma 38), .ref (ma 39), .ref (ma 40), .ref (ma 41), .long 0])), ((ma 5), .inl (cy 0, 1600, .inl (upd f_16 19 (vp_nar .byte z_21))))] H := hP
  have hD : va_D A [((ma 0), .inr (10, [.int 0, .ref (ma 1), .ref (ma 2), .ref (ma 3), .ref (ma 4), .ref (ma 5), .int 19, .int 0, .int 0, .int 0, .int 0, .long 0, .int 0, .int 0, .int 0, .int (-1), .ref (ma 16), .ref (ma 17), .ref (ma 18), .ref (ma 19), .ref (ma 20), .ref (ma 21), .ref (ma 22), .ref (ma 23), .ref (ma 24), .ref (ma 25), .ref (ma 26), .ref (ma 27), .ref (ma 28), .ref (ma 29), .ref (ma 30), .ref (ma 31), .ref (ma 32), .ref (ma 33), .ref (ma 34), .ref (ma 35), .ref (ma 36), .ref (ma 37), .ref (ma 38), .ref (ma 39), .ref (ma 40), .ref (ma 41), .long 0])), ((ma 5), .inl (cy 0, 1600, .inl (upd f_16 19 (vp_nar .byte z_21))))] := hD
  generalize (upd f_16 19 (vp_nar .byte z_21)) = f_22 at hP hD
  refine lv_aload_n hx hb dX10_four_20 rfl (lv_at hl 1 rfl) ?_
  refine lv_dup hx hb dX10_four_21 rfl ?_
  refine va_get (D := D) (ci := 10) (v := .int 19) (C := RX10) (T := TX10) (N := 43) hx hb hts lay_X10 hown hK.1 hP 0 rfl rfl 6 (by decide) (hts _ fl_X10_128) (fun _ h9 => h9) rfl dX10_four_22 ?_
  refine lv_iconst (v := 1) hx hb dX10_four_25 (by decide) ?_
  refine lv_iadd hx hb dX10_four_26 ?_
  refine lv_topi (fun z_23 ez_23 => ?_)
  have ez_23 : z_23 = 20 := ez_23.trans (by decide)
  subst ez_23
  refine va_put (D := D) (ci := 10) (v := .int 20) (ty := tyX10 6) (C := RX10) (T := TX10) (N := 43) hx hb hts lay_X10 tyX10 tyX10_ok nmX10 hown hK.1 hP hD hS 0 rfl rfl 6 (by decide) (hts _ fl_X10_128) (fun _ h9 => h9) rfl (tyX10_ok 6 (by decide)) rfl rfl (Nat.le_of_ble_eq_true rfl) dX10_four_27 (fun H locs hP hD hS => ?_)
  have hP : va_P D vwCl [((ma 0), .inr (10, [.int 0, .ref (ma 1), .ref (ma 2), .ref (ma 3), .ref (ma 4), .ref (ma 5), .int 20, .int 0, .int 0, .int 0, .int 0, .long 0, .int 0, .int 0, .int 0, .int (-1), .ref (ma 16), .ref (ma 17), .ref (ma 18), .ref (ma 19), .ref (ma 20), .ref (ma 21), .ref (ma 22), .ref (ma 23), .ref (ma 24), .ref (ma 25), .ref (ma 26), .ref (ma 27), .ref (ma 28), .ref (ma 29), .ref (ma 30), .ref (ma 31), .ref (ma 32), .ref (ma 33), .ref (ma 34), .ref (ma 35), .ref (ma 36), .ref (ma 37), .ref (ma 38), .ref (ma 39), .ref (ma 40), .ref (ma 41), .long 0])), ((ma 5), .inl (cy 0, 1600, .inl f_22))] H := hP
  have hD : va_D A [((ma 0), .inr (10, [.int 0, .ref (ma 1), .ref (ma 2), .ref (ma 3), .ref (ma 4), .ref (ma 5), .int 20, .int 0, .int 0, .int 0, .int 0, .long 0, .int 0, .int 0, .int 0, .int (-1), .ref (ma 16), .ref (ma 17), .ref (ma 18), .ref (ma 19), .ref (ma 20), .ref (ma 21), .ref (ma 22), .ref (ma 23), .ref (ma 24), .ref (ma 25), .ref (ma 26), .ref (ma 27), .ref (ma 28), .ref (ma 29), .ref (ma 30), .ref (ma 31), .ref (ma 32), .ref (ma 33), .ref (ma 34), .ref (ma 35), .ref (ma 36), .ref (ma 37), .ref (ma 38), .ref (ma 39), .ref (ma 40), .ref (ma 41), .long 0])), ((ma 5), .inl (cy 0, 1600, .inl f_22))] := hD
  refine lv_iinc (v := (-8)) (lv' := [(2, .int (-8)), (0, .ref (ma 0)), (1, .int n0)]) hx hb dX10_four_30 hl (k := 0) rfl (by decide) (by decide) rfl (fun ls hl => ?_)
  refine lv_goto (tgt := 3) hx hb dX10_four_33 (by decide) ?_
  refine lv_iload_n hx hb dX10_four_3 rfl (lv_at hl 0 rfl) ?_
  refine lv_if_lt (tgt := 36) hx hb dX10_four_4 (by decide) (fun _ => ?_) (fun c_25 => absurd (by decide) c_25)
  exact ret_v hx hb hr hlocks ⟨⟨hS.1, hS.2.1⟩, ((fun _ => 0), (fun k => match k with | 0 => f_22 | _ => (fun _ => 0)), (fun _ => (fun _ => 0)), (fun _ => 0)), rfl, hP.sub [0, 1] rfl, hD.sub [0, 1] (by decide) rfl⟩ hS.2.2 (Nat.le_of_ble_eq_true rfl) (Nat.le_of_ble_eq_true rfl) dX10_four_36
set_option maxHeartbeats 4000000 in
set_option maxRecDepth 100000 in
theorem f_X9_feed (l : Launch) (D : va_G) (cy : Nat → ClassId) (xa : Nat → Nat) (n0 : Int32) (n1 : Int32) (n2 : Int32) (n3 : Int32) (n4 : Int32) (sz : Nat) : MM l yX9_feed cX9_feed 6 (some .int) 1 0 0 D cy [.ref (xa 0), .int n0, .int n1, .int n2, .int n3, .int n4] (PW D [((xa 0), .inr (9, [.ref (xa 1), .ref (xa 2), .ref (xa 3), .ref (xa 4), .ref (xa 5), .ref (xa 6), .ref (xa 7), .ref (xa 8), .ref (xa 9), .int 0, .ref (xa 11), .null, .int 0, .int (-1)])), ((xa 1), .inl (cy 0, 1600, .inl (fun _ => 0)))] sz) (QW D (va_A [((xa 0), .inr (9, [.ref (xa 1), .ref (xa 2), .ref (xa 3), .ref (xa 4), .ref (xa 5), .ref (xa 6), .ref (xa 7), .ref (xa 8), .ref (xa 9), .int 0, .ref (xa 11), .null, .int 0, .int (-1)])), ((xa 1), .inl (cy 0, 1600, .inl (fun _ => 0)))] sz) (S := Unit) (fun v u => (∃ r : Int32, v = some (.int r) ∧ (r = 20))) (fun u => [])) (va_A [((xa 0), .inr (9, [.ref (xa 1), .ref (xa 2), .ref (xa 3), .ref (xa 4), .ref (xa 5), .ref (xa 6), .ref (xa 7), .ref (xa 8), .ref (xa 9), .int 0, .ref (xa 11), .null, .int 0, .int (-1)])), ((xa 1), .inl (cy 0, 1600, .inl (fun _ => 0)))] sz) := by
  refine MM.of (by decide) (Nat.le_of_ble_eq_true rfl) ?_
  intro p e s m below meth c C hPW ls hl
  obtain ⟨hx, hb, hr, hml, hown, hts, hlocks, hK, hnm⟩ := C
  obtain ⟨rfl, hP, hD0⟩ := hPW
  have hD := hD0.self (sz := s.heap.size)
  have hA : ∀ q : Nat, s.heap.size ≤ q → (va_A [((xa 0), .inr (9, [.ref (xa 1), .ref (xa 2), .ref (xa 3), .ref (xa 4), .ref (xa 5), .ref (xa 6), .ref (xa 7), .ref (xa 8), .ref (xa 9), .int 0, .ref (xa 11), .null, .int 0, .int (-1)])), ((xa 1), .inl (cy 0, 1600, .inl (fun _ => 0)))] s.heap.size) q := fun q h => Or.inr h
  have hS : va_S (va_A [((xa 0), .inr (9, [.ref (xa 1), .ref (xa 2), .ref (xa 3), .ref (xa 4), .ref (xa 5), .ref (xa 6), .ref (xa 7), .ref (xa 8), .ref (xa 9), .int 0, .ref (xa 11), .null, .int 0, .int (-1)])), ((xa 1), .inl (cy 0, 1600, .inl (fun _ => 0)))] s.heap.size) s.heap s.heap [] := va_S.rf
  generalize va_A [((xa 0), .inr (9, [.ref (xa 1), .ref (xa 2), .ref (xa 3), .ref (xa 4), .ref (xa 5), .ref (xa 6), .ref (xa 7), .ref (xa 8), .ref (xa 9), .int 0, .ref (xa 11), .null, .int 0, .int (-1)])), ((xa 1), .inl (cy 0, 1600, .inl (fun _ => 0)))] s.heap.size = A at hD hA hS ⊢
  have hP : va_P D vwCl [((xa 0), .inr (9, [.ref (xa 1), .ref (xa 2), .ref (xa 3), .ref (xa 4), .ref (xa 5), .ref (xa 6), .ref (xa 7), .ref (xa 8), .ref (xa 9), .int 0, .ref (xa 11), .null, .int 0, .int (-1)])), ((xa 1), .inl (cy 0, 1600, .inl (fun _ => 0)))] s.heap := hP
  have hl : lv_has ls 6 [(0, .ref (xa 0)), (1, .int n0), (2, .int n1), (3, .int n2), (4, .int n3), (5, .int n4)] := hl
  refine lv_aload_n hx hb dX9_feed_0 rfl (lv_at hl 0 rfl) ?_
  refine va_get (D := D) (ci := 9) (v := .int 0) (C := RX9) (T := TX9) (N := 14) hx hb hts lay_X9 hown hK.1 hP 0 rfl rfl 9 (by decide) (hts _ fl_X9_75) (fun _ h9 => h9) rfl dX9_feed_1 ?_
  refine lv_bipush (v := 20) hx hb dX9_feed_4 (by decide) ?_
  refine lv_iadd hx hb dX9_feed_6 ?_
  refine lv_topi (fun z_1 ez_1 => ?_)
  have ez_1 : z_1 = 20 := ez_1.trans (by decide)
  subst ez_1
  refine lv_sipush (v := 1600) hx hb dX9_feed_7 (by decide) ?_
  refine lv_icmp_le (tgt := 15) hx hb dX9_feed_10 (by decide) (fun _ => ?_) (fun c_2 => absurd (by decide) c_2)
  refine lv_aload_n hx hb dX9_feed_15 rfl (lv_at hl 0 rfl) ?_
  refine lv_iload_n hx hb dX9_feed_16 rfl (lv_at hl 1 rfl) ?_
  refine fw_call (wc := [((xa 0), .inr (9, [.ref (xa 1), .ref (xa 2), .ref (xa 3), .ref (xa 4), .ref (xa 5), .ref (xa 6), .ref (xa 7), .ref (xa 8), .ref (xa 9), .int 0, .ref (xa 11), .null, .int 0, .int (-1)])), ((xa 1), .inl (cy 0, 1600, .inl (fun _ => 0)))]) (wr := []) (runV (As := [.int n0]) (rest := []) ⟨hx, hb, hml, hown, hts⟩ (tape4_0 l D cy xa (fun _ => 0) n0  s.heap.size) sV_X9_78 hK (va_recv hK.1 hP (ci := 9) (q0 := 0) rfl rfl) (PW.of hP hD [0, 1] (by decide) rfl rfl) ⟨Nat.le_of_ble_eq_true rfl, Nat.le_of_ble_eq_true rfl⟩ rfl hl.1 rfl (Nat.le_of_ble_eq_true rfl) dX9_feed_17 ⟨Nat.le_of_ble_eq_true rfl, Nat.le_of_ble_eq_true rfl⟩) hP hD hS hA [0, 1] [] rfl rfl (by decide) (by decide) (fun v u_3 H locs hv hP hD hS => ?_)
  have hP : va_P D vwCl [((xa 0), .inr (9, [.ref (xa 1), .ref (xa 2), .ref (xa 3), .ref (xa 4), .ref (xa 5), .ref (xa 6), .ref (xa 7), .ref (xa 8), .ref (xa 9), .int 4, .ref (xa 11), .null, .int 0, .int (-1)])), ((xa 1), .inl (cy 0, 1600, .inl (u_3.2.1 0)))] H := hP
  have hD : va_D A [((xa 0), .inr (9, [.ref (xa 1), .ref (xa 2), .ref (xa 3), .ref (xa 4), .ref (xa 5), .ref (xa 6), .ref (xa 7), .ref (xa 8), .ref (xa 9), .int 4, .ref (xa 11), .null, .int 0, .int (-1)])), ((xa 1), .inl (cy 0, 1600, .inl (u_3.2.1 0)))] := hD
  subst hv
  refine W.eq (g2 := F0 m 20 ls []) rfl ?_
  refine lv_aload_n hx hb dX9_feed_20 rfl (lv_at hl 0 rfl) ?_
  refine lv_iload_n hx hb dX9_feed_21 rfl (lv_at hl 2 rfl) ?_
  refine fw_call (wc := [((xa 0), .inr (9, [.ref (xa 1), .ref (xa 2), .ref (xa 3), .ref (xa 4), .ref (xa 5), .ref (xa 6), .ref (xa 7), .ref (xa 8), .ref (xa 9), .int 4, .ref (xa 11), .null, .int 0, .int (-1)])), ((xa 1), .inl (cy 0, 1600, .inl (u_3.2.1 0)))]) (wr := []) (runV (As := [.int n1]) (rest := []) ⟨hx, hb, hml, hown, hts⟩ (tape4_4 l D cy xa (u_3.2.1 0) n1  H.size) sV_X9_78 hK (va_recv hK.1 hP (ci := 9) (q0 := 0) rfl rfl) (PW.of hP hD [0, 1] (by decide) rfl rfl) ⟨Nat.le_of_ble_eq_true rfl, Nat.le_of_ble_eq_true rfl⟩ rfl hl.1 rfl (Nat.le_of_ble_eq_true rfl) dX9_feed_22 ⟨Nat.le_of_ble_eq_true rfl, Nat.le_of_ble_eq_true rfl⟩) hP hD hS hA [0, 1] [] rfl rfl (by decide) (by decide) (fun v u_4 H locs hv hP hD hS => ?_)
  have hP : va_P D vwCl [((xa 0), .inr (9, [.ref (xa 1), .ref (xa 2), .ref (xa 3), .ref (xa 4), .ref (xa 5), .ref (xa 6), .ref (xa 7), .ref (xa 8), .ref (xa 9), .int 8, .ref (xa 11), .null, .int 0, .int (-1)])), ((xa 1), .inl (cy 0, 1600, .inl (u_4.2.1 0)))] H := hP
  have hD : va_D A [((xa 0), .inr (9, [.ref (xa 1), .ref (xa 2), .ref (xa 3), .ref (xa 4), .ref (xa 5), .ref (xa 6), .ref (xa 7), .ref (xa 8), .ref (xa 9), .int 8, .ref (xa 11), .null, .int 0, .int (-1)])), ((xa 1), .inl (cy 0, 1600, .inl (u_4.2.1 0)))] := hD
  subst hv
  refine W.eq (g2 := F0 m 25 ls []) rfl ?_
  refine lv_aload_n hx hb dX9_feed_25 rfl (lv_at hl 0 rfl) ?_
  refine lv_iload_n hx hb dX9_feed_26 rfl (lv_at hl 3 rfl) ?_
  refine fw_call (wc := [((xa 0), .inr (9, [.ref (xa 1), .ref (xa 2), .ref (xa 3), .ref (xa 4), .ref (xa 5), .ref (xa 6), .ref (xa 7), .ref (xa 8), .ref (xa 9), .int 8, .ref (xa 11), .null, .int 0, .int (-1)])), ((xa 1), .inl (cy 0, 1600, .inl (u_4.2.1 0)))]) (wr := []) (runV (As := [.int n2]) (rest := []) ⟨hx, hb, hml, hown, hts⟩ (tape4_8 l D cy xa (u_4.2.1 0) n2  H.size) sV_X9_78 hK (va_recv hK.1 hP (ci := 9) (q0 := 0) rfl rfl) (PW.of hP hD [0, 1] (by decide) rfl rfl) ⟨Nat.le_of_ble_eq_true rfl, Nat.le_of_ble_eq_true rfl⟩ rfl hl.1 rfl (Nat.le_of_ble_eq_true rfl) dX9_feed_27 ⟨Nat.le_of_ble_eq_true rfl, Nat.le_of_ble_eq_true rfl⟩) hP hD hS hA [0, 1] [] rfl rfl (by decide) (by decide) (fun v u_5 H locs hv hP hD hS => ?_)
  have hP : va_P D vwCl [((xa 0), .inr (9, [.ref (xa 1), .ref (xa 2), .ref (xa 3), .ref (xa 4), .ref (xa 5), .ref (xa 6), .ref (xa 7), .ref (xa 8), .ref (xa 9), .int 12, .ref (xa 11), .null, .int 0, .int (-1)])), ((xa 1), .inl (cy 0, 1600, .inl (u_5.2.1 0)))] H := hP
  have hD : va_D A [((xa 0), .inr (9, [.ref (xa 1), .ref (xa 2), .ref (xa 3), .ref (xa 4), .ref (xa 5), .ref (xa 6), .ref (xa 7), .ref (xa 8), .ref (xa 9), .int 12, .ref (xa 11), .null, .int 0, .int (-1)])), ((xa 1), .inl (cy 0, 1600, .inl (u_5.2.1 0)))] := hD
  subst hv
  refine W.eq (g2 := F0 m 30 ls []) rfl ?_
  refine lv_aload_n hx hb dX9_feed_30 rfl (lv_at hl 0 rfl) ?_
  refine lv_iload hx hb dX9_feed_31 (lv_at hl 4 rfl) ?_
  refine fw_call (wc := [((xa 0), .inr (9, [.ref (xa 1), .ref (xa 2), .ref (xa 3), .ref (xa 4), .ref (xa 5), .ref (xa 6), .ref (xa 7), .ref (xa 8), .ref (xa 9), .int 12, .ref (xa 11), .null, .int 0, .int (-1)])), ((xa 1), .inl (cy 0, 1600, .inl (u_5.2.1 0)))]) (wr := []) (runV (As := [.int n3]) (rest := []) ⟨hx, hb, hml, hown, hts⟩ (tape4_12 l D cy xa (u_5.2.1 0) n3  H.size) sV_X9_78 hK (va_recv hK.1 hP (ci := 9) (q0 := 0) rfl rfl) (PW.of hP hD [0, 1] (by decide) rfl rfl) ⟨Nat.le_of_ble_eq_true rfl, Nat.le_of_ble_eq_true rfl⟩ rfl hl.1 rfl (Nat.le_of_ble_eq_true rfl) dX9_feed_33 ⟨Nat.le_of_ble_eq_true rfl, Nat.le_of_ble_eq_true rfl⟩) hP hD hS hA [0, 1] [] rfl rfl (by decide) (by decide) (fun v u_6 H locs hv hP hD hS => ?_)
  have hP : va_P D vwCl [((xa 0), .inr (9, [.ref (xa 1), .ref (xa 2), .ref (xa 3), .ref (xa 4), .ref (xa 5), .ref (xa 6), .ref (xa 7), .ref (xa 8), .ref (xa 9), .int 16, .ref (xa 11), .null, .int 0, .int (-1)])), ((xa 1), .inl (cy 0, 1600, .inl (u_6.2.1 0)))] H := hP
  have hD : va_D A [((xa 0), .inr (9, [.ref (xa 1), .ref (xa 2), .ref (xa 3), .ref (xa 4), .ref (xa 5), .ref (xa 6), .ref (xa 7), .ref (xa 8), .ref (xa 9), .int 16, .ref (xa 11), .null, .int 0, .int (-1)])), ((xa 1), .inl (cy 0, 1600, .inl (u_6.2.1 0)))] := hD
  subst hv
  refine W.eq (g2 := F0 m 36 ls []) rfl ?_
  refine lv_aload_n hx hb dX9_feed_36 rfl (lv_at hl 0 rfl) ?_
  refine lv_iload hx hb dX9_feed_37 (lv_at hl 5 rfl) ?_
  refine fw_call (wc := [((xa 0), .inr (9, [.ref (xa 1), .ref (xa 2), .ref (xa 3), .ref (xa 4), .ref (xa 5), .ref (xa 6), .ref (xa 7), .ref (xa 8), .ref (xa 9), .int 16, .ref (xa 11), .null, .int 0, .int (-1)])), ((xa 1), .inl (cy 0, 1600, .inl (u_6.2.1 0)))]) (wr := []) (runV (As := [.int n4]) (rest := []) ⟨hx, hb, hml, hown, hts⟩ (tape4_16 l D cy xa (u_6.2.1 0) n4  H.size) sV_X9_78 hK (va_recv hK.1 hP (ci := 9) (q0 := 0) rfl rfl) (PW.of hP hD [0, 1] (by decide) rfl rfl) ⟨Nat.le_of_ble_eq_true rfl, Nat.le_of_ble_eq_true rfl⟩ rfl hl.1 rfl (Nat.le_of_ble_eq_true rfl) dX9_feed_39 ⟨Nat.le_of_ble_eq_true rfl, Nat.le_of_ble_eq_true rfl⟩) hP hD hS hA [0, 1] [] rfl rfl (by decide) (by decide) (fun v u_7 H locs hv hP hD hS => ?_)
  have hP : va_P D vwCl [((xa 0), .inr (9, [.ref (xa 1), .ref (xa 2), .ref (xa 3), .ref (xa 4), .ref (xa 5), .ref (xa 6), .ref (xa 7), .ref (xa 8), .ref (xa 9), .int 20, .ref (xa 11), .null, .int 0, .int (-1)])), ((xa 1), .inl (cy 0, 1600, .inl (u_7.2.1 0)))] H := hP
  have hD : va_D A [((xa 0), .inr (9, [.ref (xa 1), .ref (xa 2), .ref (xa 3), .ref (xa 4), .ref (xa 5), .ref (xa 6), .ref (xa 7), .ref (xa 8), .ref (xa 9), .int 20, .ref (xa 11), .null, .int 0, .int (-1)])), ((xa 1), .inl (cy 0, 1600, .inl (u_7.2.1 0)))] := hD
  subst hv
  refine W.eq (g2 := F0 m 42 ls []) rfl ?_
  refine lv_aload_n hx hb dX9_feed_42 rfl (lv_at hl 0 rfl) ?_
  refine va_get (D := D) (ci := 9) (v := .int 20) (C := RX9) (T := TX9) (N := 14) hx hb hts lay_X9 hown hK.1 hP 0 rfl rfl 9 (by decide) (hts _ fl_X9_75) (fun _ h9 => h9) rfl dX9_feed_43 ?_
  exact ret_i hx hb hr hlocks ⟨⟨hS.1, hS.2.1⟩, (), ⟨_, rfl, rfl⟩, hP.sub [] rfl, hD.sub [] (by decide) rfl⟩ hS.2.2 (Nat.le_of_ble_eq_true rfl) (Nat.le_of_ble_eq_true rfl) dX9_feed_46
set_option maxHeartbeats 4000000 in
set_option maxRecDepth 100000 in
theorem g_X10_feed (l : Launch) (D : va_G) (cy : Nat → ClassId) (ma : Nat → Nat) (n0 : Int32) (n1 : Int32) (n2 : Int32) (n3 : Int32) (n4 : Int32) (sz : Nat) : MM l yX10_feed cX10_feed 6 (some .int) 1 0 0 D cy [.ref (ma 0), .int n0, .int n1, .int n2, .int n3, .int n4] (PW D [((ma 0), .inr (10, [.int 0, .ref (ma 1), .ref (ma 2), .ref (ma 3), .ref (ma 4), .ref (ma 5), .int 0, .int 0, .int 0, .int 0, .int 0, .long 0, .int 0, .int 0, .int 0, .int (-1), .ref (ma 16), .ref (ma 17), .ref (ma 18), .ref (ma 19), .ref (ma 20), .ref (ma 21), .ref (ma 22), .ref (ma 23), .ref (ma 24), .ref (ma 25), .ref (ma 26), .ref (ma 27), .ref (ma 28), .ref (ma 29), .ref (ma 30), .ref (ma 31), .ref (ma 32), .ref (ma 33), .ref (ma 34), .ref (ma 35), .ref (ma 36), .ref (ma 37), .ref (ma 38), .ref (ma 39), .ref (ma 40), .ref (ma 41), .long 0])), ((ma 5), .inl (cy 0, 1600, .inl (fun _ => 0)))] sz) (QW D (va_A [((ma 0), .inr (10, [.int 0, .ref (ma 1), .ref (ma 2), .ref (ma 3), .ref (ma 4), .ref (ma 5), .int 0, .int 0, .int 0, .int 0, .int 0, .long 0, .int 0, .int 0, .int 0, .int (-1), .ref (ma 16), .ref (ma 17), .ref (ma 18), .ref (ma 19), .ref (ma 20), .ref (ma 21), .ref (ma 22), .ref (ma 23), .ref (ma 24), .ref (ma 25), .ref (ma 26), .ref (ma 27), .ref (ma 28), .ref (ma 29), .ref (ma 30), .ref (ma 31), .ref (ma 32), .ref (ma 33), .ref (ma 34), .ref (ma 35), .ref (ma 36), .ref (ma 37), .ref (ma 38), .ref (ma 39), .ref (ma 40), .ref (ma 41), .long 0])), ((ma 5), .inl (cy 0, 1600, .inl (fun _ => 0)))] sz) (S := Unit) (fun v u => (∃ r : Int32, v = some (.int r) ∧ (r = 20))) (fun u => [])) (va_A [((ma 0), .inr (10, [.int 0, .ref (ma 1), .ref (ma 2), .ref (ma 3), .ref (ma 4), .ref (ma 5), .int 0, .int 0, .int 0, .int 0, .int 0, .long 0, .int 0, .int 0, .int 0, .int (-1), .ref (ma 16), .ref (ma 17), .ref (ma 18), .ref (ma 19), .ref (ma 20), .ref (ma 21), .ref (ma 22), .ref (ma 23), .ref (ma 24), .ref (ma 25), .ref (ma 26), .ref (ma 27), .ref (ma 28), .ref (ma 29), .ref (ma 30), .ref (ma 31), .ref (ma 32), .ref (ma 33), .ref (ma 34), .ref (ma 35), .ref (ma 36), .ref (ma 37), .ref (ma 38), .ref (ma 39), .ref (ma 40), .ref (ma 41), .long 0])), ((ma 5), .inl (cy 0, 1600, .inl (fun _ => 0)))] sz) := by
  refine MM.of (by decide) (Nat.le_of_ble_eq_true rfl) ?_
  intro p e s m below meth c C hPW ls hl
  obtain ⟨hx, hb, hr, hml, hown, hts, hlocks, hK, hnm⟩ := C
  obtain ⟨rfl, hP, hD0⟩ := hPW
  have hD := hD0.self (sz := s.heap.size)
  have hA : ∀ q : Nat, s.heap.size ≤ q → (va_A [((ma 0), .inr (10, [.int 0, .ref (ma 1), .ref (ma 2), .ref (ma 3), .ref (ma 4), .ref (ma 5), .int 0, .int 0, .int 0, .int 0, .int 0, .long 0, .int 0, .int 0, .int 0, .int (-1), .ref (ma 16), .ref (ma 17), .ref (ma 18), .ref (ma 19), .ref (ma 20), .ref (ma 21), .ref (ma 22), .ref (ma 23), .ref (ma 24), .ref (ma 25), .ref (ma 26), .ref (ma 27), .ref (ma 28), .ref (ma 29), .ref (ma 30), .ref (ma 31), .ref (ma 32), .ref (ma 33), .ref (ma 34), .ref (ma 35), .ref (ma 36), .ref (ma 37), .ref (ma 38), .ref (ma 39), .ref (ma 40), .ref (ma 41), .long 0])), ((ma 5), .inl (cy 0, 1600, .inl (fun _ => 0)))] s.heap.size) q := fun q h => Or.inr h
  have hS : va_S (va_A [((ma 0), .inr (10, [.int 0, .ref (ma 1), .ref (ma 2), .ref (ma 3), .ref (ma 4), .ref (ma 5), .int 0, .int 0, .int 0, .int 0, .int 0, .long 0, .int 0, .int 0, .int 0, .int (-1), .ref (ma 16), .ref (ma 17), .ref (ma 18), .ref (ma 19), .ref (ma 20), .ref (ma 21), .ref (ma 22), .ref (ma 23), .ref (ma 24), .ref (ma 25), .ref (ma 26), .ref (ma 27), .ref (ma 28), .ref (ma 29), .ref (ma 30), .ref (ma 31), .ref (ma 32), .ref (ma 33), .ref (ma 34), .ref (ma 35), .ref (ma 36), .ref (ma 37), .ref (ma 38), .ref (ma 39), .ref (ma 40), .ref (ma 41), .long 0])), ((ma 5), .inl (cy 0, 1600, .inl (fun _ => 0)))] s.heap.size) s.heap s.heap [] := va_S.rf
  generalize va_A [((ma 0), .inr (10, [.int 0, .ref (ma 1), .ref (ma 2), .ref (ma 3), .ref (ma 4), .ref (ma 5), .int 0, .int 0, .int 0, .int 0, .int 0, .long 0, .int 0, .int 0, .int 0, .int (-1), .ref (ma 16), .ref (ma 17), .ref (ma 18), .ref (ma 19), .ref (ma 20), .ref (ma 21), .ref (ma 22), .ref (ma 23), .ref (ma 24), .ref (ma 25), .ref (ma 26), .ref (ma 27), .ref (ma 28), .ref (ma 29), .ref (ma 30), .ref (ma 31), .ref (ma 32), .ref (ma 33), .ref (ma 34), .ref (ma 35), .ref (ma 36), .ref (ma 37), .ref (ma 38), .ref (ma 39), .ref (ma 40), .ref (ma 41), .long 0])), ((ma 5), .inl (cy 0, 1600, .inl (fun _ => 0)))] s.heap.size = A at hD hA hS ⊢
  have hP : va_P D vwCl [((ma 0), .inr (10, [.int 0, .ref (ma 1), .ref (ma 2), .ref (ma 3), .ref (ma 4), .ref (ma 5), .int 0, .int 0, .int 0, .int 0, .int 0, .long 0, .int 0, .int 0, .int 0, .int (-1), .ref (ma 16), .ref (ma 17), .ref (ma 18), .ref (ma 19), .ref (ma 20), .ref (ma 21), .ref (ma 22), .ref (ma 23), .ref (ma 24), .ref (ma 25), .ref (ma 26), .ref (ma 27), .ref (ma 28), .ref (ma 29), .ref (ma 30), .ref (ma 31), .ref (ma 32), .ref (ma 33), .ref (ma 34), .ref (ma 35), .ref (ma 36), .ref (ma 37), .ref (ma 38), .ref (ma 39), .ref (ma 40), .ref (ma 41), .long 0])), ((ma 5), .inl (cy 0, 1600, .inl (fun _ => 0)))] s.heap := hP
  have hl : lv_has ls 6 [(0, .ref (ma 0)), (1, .int n0), (2, .int n1), (3, .int n2), (4, .int n3), (5, .int n4)] := hl
  refine lv_aload_n hx hb dX10_feed_0 rfl (lv_at hl 0 rfl) ?_
  refine lv_iconst (v := 0) hx hb dX10_feed_1 (by decide) ?_
  refine va_put (D := D) (ci := 10) (v := .int 0) (ty := tyX10 0) (C := RX10) (T := TX10) (N := 43) hx hb hts lay_X10 tyX10 tyX10_ok nmX10 hown hK.1 hP hD hS 0 rfl rfl 0 (by decide) (hts _ fl_X10_111) (fun _ h9 => h9) rfl (tyX10_ok 0 (by decide)) rfl rfl (Nat.le_of_ble_eq_true rfl) dX10_feed_2 (fun H locs hP hD hS => ?_)
  have hP : va_P D vwCl [((ma 0), .inr (10, [.int 0, .ref (ma 1), .ref (ma 2), .ref (ma 3), .ref (ma 4), .ref (ma 5), .int 0, .int 0, .int 0, .int 0, .int 0, .long 0, .int 0, .int 0, .int 0, .int (-1), .ref (ma 16), .ref (ma 17), .ref (ma 18), .ref (ma 19), .ref (ma 20), .ref (ma 21), .ref (ma 22), .ref (ma 23), .ref (ma 24), .ref (ma 25), .ref (ma 26), .ref (ma 27), .ref (ma 28), .ref (ma 29), .ref (ma 30), .ref (ma 31), .ref (ma 32), .ref (ma 33), .ref (ma 34), .ref (ma 35), .ref (ma 36), .ref (ma 37), .ref (ma 38), .ref (ma 39), .ref (ma 40), .ref (ma 41), .long 0])), ((ma 5), .inl (cy 0, 1600, .inl (fun _ => 0)))] H := hP
  have hD : va_D A [((ma 0), .inr (10, [.int 0, .ref (ma 1), .ref (ma 2), .ref (ma 3), .ref (ma 4), .ref (ma 5), .int 0, .int 0, .int 0, .int 0, .int 0, .long 0, .int 0, .int 0, .int 0, .int (-1), .ref (ma 16), .ref (ma 17), .ref (ma 18), .ref (ma 19), .ref (ma 20), .ref (ma 21), .ref (ma 22), .ref (ma 23), .ref (ma 24), .ref (ma 25), .ref (ma 26), .ref (ma 27), .ref (ma 28), .ref (ma 29), .ref (ma 30), .ref (ma 31), .ref (ma 32), .ref (ma 33), .ref (ma 34), .ref (ma 35), .ref (ma 36), .ref (ma 37), .ref (ma 38), .ref (ma 39), .ref (ma 40), .ref (ma 41), .long 0])), ((ma 5), .inl (cy 0, 1600, .inl (fun _ => 0)))] := hD
  refine lv_aload_n hx hb dX10_feed_5 rfl (lv_at hl 0 rfl) ?_
  refine va_get (D := D) (ci := 10) (v := .int 0) (C := RX10) (T := TX10) (N := 43) hx hb hts lay_X10 hown hK.1 hP 0 rfl rfl 6 (by decide) (hts _ fl_X10_128) (fun _ h9 => h9) rfl dX10_feed_6 ?_
  refine lv_bipush (v := 20) hx hb dX10_feed_9 (by decide) ?_
  refine lv_iadd hx hb dX10_feed_11 ?_
  refine lv_topi (fun z_1 ez_1 => ?_)
  have ez_1 : z_1 = 20 := ez_1.trans (by decide)
  subst ez_1
  refine lv_sipush (v := 1600) hx hb dX10_feed_12 (by decide) ?_
  refine lv_icmp_le (tgt := 20) hx hb dX10_feed_15 (by decide) (fun _ => ?_) (fun c_2 => absurd (by decide) c_2)
  refine lv_aload_n hx hb dX10_feed_20 rfl (lv_at hl 0 rfl) ?_
  refine lv_iload_n hx hb dX10_feed_21 rfl (lv_at hl 1 rfl) ?_
  refine fw_call (wc := [((ma 0), .inr (10, [.int 0, .ref (ma 1), .ref (ma 2), .ref (ma 3), .ref (ma 4), .ref (ma 5), .int 0, .int 0, .int 0, .int 0, .int 0, .long 0, .int 0, .int 0, .int 0, .int (-1), .ref (ma 16), .ref (ma 17), .ref (ma 18), .ref (ma 19), .ref (ma 20), .ref (ma 21), .ref (ma 22), .ref (ma 23), .ref (ma 24), .ref (ma 25), .ref (ma 26), .ref (ma 27), .ref (ma 28), .ref (ma 29), .ref (ma 30), .ref (ma 31), .ref (ma 32), .ref (ma 33), .ref (ma 34), .ref (ma 35), .ref (ma 36), .ref (ma 37), .ref (ma 38), .ref (ma 39), .ref (ma 40), .ref (ma 41), .long 0])), ((ma 5), .inl (cy 0, 1600, .inl (fun _ => 0)))]) (wr := []) (runV (As := [.int n0]) (rest := []) ⟨hx, hb, hml, hown, hts⟩ (four_0 l D cy ma (fun _ => 0) n0  H.size) sV_X10_131 hK (va_recv hK.1 hP (ci := 10) (q0 := 0) rfl rfl) (PW.of hP hD [0, 1] (by decide) rfl rfl) ⟨Nat.le_of_ble_eq_true rfl, Nat.le_of_ble_eq_true rfl⟩ rfl hl.1 rfl (Nat.le_of_ble_eq_true rfl) dX10_feed_22 ⟨Nat.le_of_ble_eq_true rfl, Nat.le_of_ble_eq_true rfl⟩) hP hD hS hA [0, 1] [] rfl rfl (by decide) (by decide) (fun v u_3 H locs hv hP hD hS => ?_)
  have hP : va_P D vwCl [((ma 0), .inr (10, [.int 0, .ref (ma 1), .ref (ma 2), .ref (ma 3), .ref (ma 4), .ref (ma 5), .int 4, .int 0, .int 0, .int 0, .int 0, .long 0, .int 0, .int 0, .int 0, .int (-1), .ref (ma 16), .ref (ma 17), .ref (ma 18), .ref (ma 19), .ref (ma 20), .ref (ma 21), .ref (ma 22), .ref (ma 23), .ref (ma 24), .ref (ma 25), .ref (ma 26), .ref (ma 27), .ref (ma 28), .ref (ma 29), .ref (ma 30), .ref (ma 31), .ref (ma 32), .ref (ma 33), .ref (ma 34), .ref (ma 35), .ref (ma 36), .ref (ma 37), .ref (ma 38), .ref (ma 39), .ref (ma 40), .ref (ma 41), .long 0])), ((ma 5), .inl (cy 0, 1600, .inl (u_3.2.1 0)))] H := hP
  have hD : va_D A [((ma 0), .inr (10, [.int 0, .ref (ma 1), .ref (ma 2), .ref (ma 3), .ref (ma 4), .ref (ma 5), .int 4, .int 0, .int 0, .int 0, .int 0, .long 0, .int 0, .int 0, .int 0, .int (-1), .ref (ma 16), .ref (ma 17), .ref (ma 18), .ref (ma 19), .ref (ma 20), .ref (ma 21), .ref (ma 22), .ref (ma 23), .ref (ma 24), .ref (ma 25), .ref (ma 26), .ref (ma 27), .ref (ma 28), .ref (ma 29), .ref (ma 30), .ref (ma 31), .ref (ma 32), .ref (ma 33), .ref (ma 34), .ref (ma 35), .ref (ma 36), .ref (ma 37), .ref (ma 38), .ref (ma 39), .ref (ma 40), .ref (ma 41), .long 0])), ((ma 5), .inl (cy 0, 1600, .inl (u_3.2.1 0)))] := hD
  subst hv
  refine W.eq (g2 := F0 m 25 ls []) rfl ?_
  refine lv_aload_n hx hb dX10_feed_25 rfl (lv_at hl 0 rfl) ?_
  refine lv_iload_n hx hb dX10_feed_26 rfl (lv_at hl 2 rfl) ?_
  refine fw_call (wc := [((ma 0), .inr (10, [.int 0, .ref (ma 1), .ref (ma 2), .ref (ma 3), .ref (ma 4), .ref (ma 5), .int 4, .int 0, .int 0, .int 0, .int 0, .long 0, .int 0, .int 0, .int 0, .int (-1), .ref (ma 16), .ref (ma 17), .ref (ma 18), .ref (ma 19), .ref (ma 20), .ref (ma 21), .ref (ma 22), .ref (ma 23), .ref (ma 24), .ref (ma 25), .ref (ma 26), .ref (ma 27), .ref (ma 28), .ref (ma 29), .ref (ma 30), .ref (ma 31), .ref (ma 32), .ref (ma 33), .ref (ma 34), .ref (ma 35), .ref (ma 36), .ref (ma 37), .ref (ma 38), .ref (ma 39), .ref (ma 40), .ref (ma 41), .long 0])), ((ma 5), .inl (cy 0, 1600, .inl (u_3.2.1 0)))]) (wr := []) (runV (As := [.int n1]) (rest := []) ⟨hx, hb, hml, hown, hts⟩ (four_4 l D cy ma (u_3.2.1 0) n1  H.size) sV_X10_131 hK (va_recv hK.1 hP (ci := 10) (q0 := 0) rfl rfl) (PW.of hP hD [0, 1] (by decide) rfl rfl) ⟨Nat.le_of_ble_eq_true rfl, Nat.le_of_ble_eq_true rfl⟩ rfl hl.1 rfl (Nat.le_of_ble_eq_true rfl) dX10_feed_27 ⟨Nat.le_of_ble_eq_true rfl, Nat.le_of_ble_eq_true rfl⟩) hP hD hS hA [0, 1] [] rfl rfl (by decide) (by decide) (fun v u_4 H locs hv hP hD hS => ?_)
  have hP : va_P D vwCl [((ma 0), .inr (10, [.int 0, .ref (ma 1), .ref (ma 2), .ref (ma 3), .ref (ma 4), .ref (ma 5), .int 8, .int 0, .int 0, .int 0, .int 0, .long 0, .int 0, .int 0, .int 0, .int (-1), .ref (ma 16), .ref (ma 17), .ref (ma 18), .ref (ma 19), .ref (ma 20), .ref (ma 21), .ref (ma 22), .ref (ma 23), .ref (ma 24), .ref (ma 25), .ref (ma 26), .ref (ma 27), .ref (ma 28), .ref (ma 29), .ref (ma 30), .ref (ma 31), .ref (ma 32), .ref (ma 33), .ref (ma 34), .ref (ma 35), .ref (ma 36), .ref (ma 37), .ref (ma 38), .ref (ma 39), .ref (ma 40), .ref (ma 41), .long 0])), ((ma 5), .inl (cy 0, 1600, .inl (u_4.2.1 0)))] H := hP
  have hD : va_D A [((ma 0), .inr (10, [.int 0, .ref (ma 1), .ref (ma 2), .ref (ma 3), .ref (ma 4), .ref (ma 5), .int 8, .int 0, .int 0, .int 0, .int 0, .long 0, .int 0, .int 0, .int 0, .int (-1), .ref (ma 16), .ref (ma 17), .ref (ma 18), .ref (ma 19), .ref (ma 20), .ref (ma 21), .ref (ma 22), .ref (ma 23), .ref (ma 24), .ref (ma 25), .ref (ma 26), .ref (ma 27), .ref (ma 28), .ref (ma 29), .ref (ma 30), .ref (ma 31), .ref (ma 32), .ref (ma 33), .ref (ma 34), .ref (ma 35), .ref (ma 36), .ref (ma 37), .ref (ma 38), .ref (ma 39), .ref (ma 40), .ref (ma 41), .long 0])), ((ma 5), .inl (cy 0, 1600, .inl (u_4.2.1 0)))] := hD
  subst hv
  refine W.eq (g2 := F0 m 30 ls []) rfl ?_
  refine lv_aload_n hx hb dX10_feed_30 rfl (lv_at hl 0 rfl) ?_
  refine lv_iload_n hx hb dX10_feed_31 rfl (lv_at hl 3 rfl) ?_
  refine fw_call (wc := [((ma 0), .inr (10, [.int 0, .ref (ma 1), .ref (ma 2), .ref (ma 3), .ref (ma 4), .ref (ma 5), .int 8, .int 0, .int 0, .int 0, .int 0, .long 0, .int 0, .int 0, .int 0, .int (-1), .ref (ma 16), .ref (ma 17), .ref (ma 18), .ref (ma 19), .ref (ma 20), .ref (ma 21), .ref (ma 22), .ref (ma 23), .ref (ma 24), .ref (ma 25), .ref (ma 26), .ref (ma 27), .ref (ma 28), .ref (ma 29), .ref (ma 30), .ref (ma 31), .ref (ma 32), .ref (ma 33), .ref (ma 34), .ref (ma 35), .ref (ma 36), .ref (ma 37), .ref (ma 38), .ref (ma 39), .ref (ma 40), .ref (ma 41), .long 0])), ((ma 5), .inl (cy 0, 1600, .inl (u_4.2.1 0)))]) (wr := []) (runV (As := [.int n2]) (rest := []) ⟨hx, hb, hml, hown, hts⟩ (four_8 l D cy ma (u_4.2.1 0) n2  H.size) sV_X10_131 hK (va_recv hK.1 hP (ci := 10) (q0 := 0) rfl rfl) (PW.of hP hD [0, 1] (by decide) rfl rfl) ⟨Nat.le_of_ble_eq_true rfl, Nat.le_of_ble_eq_true rfl⟩ rfl hl.1 rfl (Nat.le_of_ble_eq_true rfl) dX10_feed_32 ⟨Nat.le_of_ble_eq_true rfl, Nat.le_of_ble_eq_true rfl⟩) hP hD hS hA [0, 1] [] rfl rfl (by decide) (by decide) (fun v u_5 H locs hv hP hD hS => ?_)
  have hP : va_P D vwCl [((ma 0), .inr (10, [.int 0, .ref (ma 1), .ref (ma 2), .ref (ma 3), .ref (ma 4), .ref (ma 5), .int 12, .int 0, .int 0, .int 0, .int 0, .long 0, .int 0, .int 0, .int 0, .int (-1), .ref (ma 16), .ref (ma 17), .ref (ma 18), .ref (ma 19), .ref (ma 20), .ref (ma 21), .ref (ma 22), .ref (ma 23), .ref (ma 24), .ref (ma 25), .ref (ma 26), .ref (ma 27), .ref (ma 28), .ref (ma 29), .ref (ma 30), .ref (ma 31), .ref (ma 32), .ref (ma 33), .ref (ma 34), .ref (ma 35), .ref (ma 36), .ref (ma 37), .ref (ma 38), .ref (ma 39), .ref (ma 40), .ref (ma 41), .long 0])), ((ma 5), .inl (cy 0, 1600, .inl (u_5.2.1 0)))] H := hP
  have hD : va_D A [((ma 0), .inr (10, [.int 0, .ref (ma 1), .ref (ma 2), .ref (ma 3), .ref (ma 4), .ref (ma 5), .int 12, .int 0, .int 0, .int 0, .int 0, .long 0, .int 0, .int 0, .int 0, .int (-1), .ref (ma 16), .ref (ma 17), .ref (ma 18), .ref (ma 19), .ref (ma 20), .ref (ma 21), .ref (ma 22), .ref (ma 23), .ref (ma 24), .ref (ma 25), .ref (ma 26), .ref (ma 27), .ref (ma 28), .ref (ma 29), .ref (ma 30), .ref (ma 31), .ref (ma 32), .ref (ma 33), .ref (ma 34), .ref (ma 35), .ref (ma 36), .ref (ma 37), .ref (ma 38), .ref (ma 39), .ref (ma 40), .ref (ma 41), .long 0])), ((ma 5), .inl (cy 0, 1600, .inl (u_5.2.1 0)))] := hD
  subst hv
  refine W.eq (g2 := F0 m 35 ls []) rfl ?_
  refine lv_aload_n hx hb dX10_feed_35 rfl (lv_at hl 0 rfl) ?_
  refine lv_iload hx hb dX10_feed_36 (lv_at hl 4 rfl) ?_
  refine fw_call (wc := [((ma 0), .inr (10, [.int 0, .ref (ma 1), .ref (ma 2), .ref (ma 3), .ref (ma 4), .ref (ma 5), .int 12, .int 0, .int 0, .int 0, .int 0, .long 0, .int 0, .int 0, .int 0, .int (-1), .ref (ma 16), .ref (ma 17), .ref (ma 18), .ref (ma 19), .ref (ma 20), .ref (ma 21), .ref (ma 22), .ref (ma 23), .ref (ma 24), .ref (ma 25), .ref (ma 26), .ref (ma 27), .ref (ma 28), .ref (ma 29), .ref (ma 30), .ref (ma 31), .ref (ma 32), .ref (ma 33), .ref (ma 34), .ref (ma 35), .ref (ma 36), .ref (ma 37), .ref (ma 38), .ref (ma 39), .ref (ma 40), .ref (ma 41), .long 0])), ((ma 5), .inl (cy 0, 1600, .inl (u_5.2.1 0)))]) (wr := []) (runV (As := [.int n3]) (rest := []) ⟨hx, hb, hml, hown, hts⟩ (four_12 l D cy ma (u_5.2.1 0) n3  H.size) sV_X10_131 hK (va_recv hK.1 hP (ci := 10) (q0 := 0) rfl rfl) (PW.of hP hD [0, 1] (by decide) rfl rfl) ⟨Nat.le_of_ble_eq_true rfl, Nat.le_of_ble_eq_true rfl⟩ rfl hl.1 rfl (Nat.le_of_ble_eq_true rfl) dX10_feed_38 ⟨Nat.le_of_ble_eq_true rfl, Nat.le_of_ble_eq_true rfl⟩) hP hD hS hA [0, 1] [] rfl rfl (by decide) (by decide) (fun v u_6 H locs hv hP hD hS => ?_)
  have hP : va_P D vwCl [((ma 0), .inr (10, [.int 0, .ref (ma 1), .ref (ma 2), .ref (ma 3), .ref (ma 4), .ref (ma 5), .int 16, .int 0, .int 0, .int 0, .int 0, .long 0, .int 0, .int 0, .int 0, .int (-1), .ref (ma 16), .ref (ma 17), .ref (ma 18), .ref (ma 19), .ref (ma 20), .ref (ma 21), .ref (ma 22), .ref (ma 23), .ref (ma 24), .ref (ma 25), .ref (ma 26), .ref (ma 27), .ref (ma 28), .ref (ma 29), .ref (ma 30), .ref (ma 31), .ref (ma 32), .ref (ma 33), .ref (ma 34), .ref (ma 35), .ref (ma 36), .ref (ma 37), .ref (ma 38), .ref (ma 39), .ref (ma 40), .ref (ma 41), .long 0])), ((ma 5), .inl (cy 0, 1600, .inl (u_6.2.1 0)))] H := hP
  have hD : va_D A [((ma 0), .inr (10, [.int 0, .ref (ma 1), .ref (ma 2), .ref (ma 3), .ref (ma 4), .ref (ma 5), .int 16, .int 0, .int 0, .int 0, .int 0, .long 0, .int 0, .int 0, .int 0, .int (-1), .ref (ma 16), .ref (ma 17), .ref (ma 18), .ref (ma 19), .ref (ma 20), .ref (ma 21), .ref (ma 22), .ref (ma 23), .ref (ma 24), .ref (ma 25), .ref (ma 26), .ref (ma 27), .ref (ma 28), .ref (ma 29), .ref (ma 30), .ref (ma 31), .ref (ma 32), .ref (ma 33), .ref (ma 34), .ref (ma 35), .ref (ma 36), .ref (ma 37), .ref (ma 38), .ref (ma 39), .ref (ma 40), .ref (ma 41), .long 0])), ((ma 5), .inl (cy 0, 1600, .inl (u_6.2.1 0)))] := hD
  subst hv
  refine W.eq (g2 := F0 m 41 ls []) rfl ?_
  refine lv_aload_n hx hb dX10_feed_41 rfl (lv_at hl 0 rfl) ?_
  refine lv_iload hx hb dX10_feed_42 (lv_at hl 5 rfl) ?_
  refine fw_call (wc := [((ma 0), .inr (10, [.int 0, .ref (ma 1), .ref (ma 2), .ref (ma 3), .ref (ma 4), .ref (ma 5), .int 16, .int 0, .int 0, .int 0, .int 0, .long 0, .int 0, .int 0, .int 0, .int (-1), .ref (ma 16), .ref (ma 17), .ref (ma 18), .ref (ma 19), .ref (ma 20), .ref (ma 21), .ref (ma 22), .ref (ma 23), .ref (ma 24), .ref (ma 25), .ref (ma 26), .ref (ma 27), .ref (ma 28), .ref (ma 29), .ref (ma 30), .ref (ma 31), .ref (ma 32), .ref (ma 33), .ref (ma 34), .ref (ma 35), .ref (ma 36), .ref (ma 37), .ref (ma 38), .ref (ma 39), .ref (ma 40), .ref (ma 41), .long 0])), ((ma 5), .inl (cy 0, 1600, .inl (u_6.2.1 0)))]) (wr := []) (runV (As := [.int n4]) (rest := []) ⟨hx, hb, hml, hown, hts⟩ (four_16 l D cy ma (u_6.2.1 0) n4  H.size) sV_X10_131 hK (va_recv hK.1 hP (ci := 10) (q0 := 0) rfl rfl) (PW.of hP hD [0, 1] (by decide) rfl rfl) ⟨Nat.le_of_ble_eq_true rfl, Nat.le_of_ble_eq_true rfl⟩ rfl hl.1 rfl (Nat.le_of_ble_eq_true rfl) dX10_feed_44 ⟨Nat.le_of_ble_eq_true rfl, Nat.le_of_ble_eq_true rfl⟩) hP hD hS hA [0, 1] [] rfl rfl (by decide) (by decide) (fun v u_7 H locs hv hP hD hS => ?_)
  have hP : va_P D vwCl [((ma 0), .inr (10, [.int 0, .ref (ma 1), .ref (ma 2), .ref (ma 3), .ref (ma 4), .ref (ma 5), .int 20, .int 0, .int 0, .int 0, .int 0, .long 0, .int 0, .int 0, .int 0, .int (-1), .ref (ma 16), .ref (ma 17), .ref (ma 18), .ref (ma 19), .ref (ma 20), .ref (ma 21), .ref (ma 22), .ref (ma 23), .ref (ma 24), .ref (ma 25), .ref (ma 26), .ref (ma 27), .ref (ma 28), .ref (ma 29), .ref (ma 30), .ref (ma 31), .ref (ma 32), .ref (ma 33), .ref (ma 34), .ref (ma 35), .ref (ma 36), .ref (ma 37), .ref (ma 38), .ref (ma 39), .ref (ma 40), .ref (ma 41), .long 0])), ((ma 5), .inl (cy 0, 1600, .inl (u_7.2.1 0)))] H := hP
  have hD : va_D A [((ma 0), .inr (10, [.int 0, .ref (ma 1), .ref (ma 2), .ref (ma 3), .ref (ma 4), .ref (ma 5), .int 20, .int 0, .int 0, .int 0, .int 0, .long 0, .int 0, .int 0, .int 0, .int (-1), .ref (ma 16), .ref (ma 17), .ref (ma 18), .ref (ma 19), .ref (ma 20), .ref (ma 21), .ref (ma 22), .ref (ma 23), .ref (ma 24), .ref (ma 25), .ref (ma 26), .ref (ma 27), .ref (ma 28), .ref (ma 29), .ref (ma 30), .ref (ma 31), .ref (ma 32), .ref (ma 33), .ref (ma 34), .ref (ma 35), .ref (ma 36), .ref (ma 37), .ref (ma 38), .ref (ma 39), .ref (ma 40), .ref (ma 41), .long 0])), ((ma 5), .inl (cy 0, 1600, .inl (u_7.2.1 0)))] := hD
  subst hv
  refine W.eq (g2 := F0 m 47 ls []) rfl ?_
  refine lv_aload_n hx hb dX10_feed_47 rfl (lv_at hl 0 rfl) ?_
  refine va_get (D := D) (ci := 10) (v := .int 20) (C := RX10) (T := TX10) (N := 43) hx hb hts lay_X10 hown hK.1 hP 0 rfl rfl 6 (by decide) (hts _ fl_X10_128) (fun _ h9 => h9) rfl dX10_feed_48 ?_
  exact ret_i hx hb hr hlocks ⟨⟨hS.1, hS.2.1⟩, (), ⟨_, rfl, rfl⟩, hP.sub [] rfl, hD.sub [] (by decide) rfl⟩ hS.2.2 (Nat.le_of_ble_eq_true rfl) (Nat.le_of_ble_eq_true rfl) dX10_feed_51
