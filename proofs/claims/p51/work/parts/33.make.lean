theorem dX2_init_0 : decode cX2_init 0 = .ok (.aload_n 0, 1) := by decide +kernel
theorem dX2_init_1 : decode cX2_init 1 = .ok (.invokespecial 3, 3) := by decide +kernel
theorem dX2_init_4 : decode cX2_init 4 = .ok (.aload_n 0, 1) := by decide +kernel
theorem dX2_init_5 : decode cX2_init 5 = .ok (.iconst 1, 1) := by decide +kernel
theorem dX2_init_6 : decode cX2_init 6 = .ok (.putfield 9, 3) := by decide +kernel
theorem dX2_init_9 : decode cX2_init 9 = .ok (.aload_n 0, 1) := by decide +kernel
theorem dX2_init_10 : decode cX2_init 10 = .ok (.bipush 10, 2) := by decide +kernel
theorem dX2_init_12 : decode cX2_init 12 = .ok (.putfield 15, 3) := by decide +kernel
theorem dX2_init_15 : decode cX2_init 15 = .ok (.aload_n 0, 1) := by decide +kernel
theorem dX2_init_16 : decode cX2_init 16 = .ok (.iconst 3, 1) := by decide +kernel
theorem dX2_init_17 : decode cX2_init 17 = .ok (.newarray .int, 2) := by decide +kernel
theorem dX2_init_19 : decode cX2_init 19 = .ok (.putfield 18, 3) := by decide +kernel
theorem dX2_init_22 : decode cX2_init 22 = .ok (.aload_n 0, 1) := by decide +kernel
theorem dX2_init_23 : decode cX2_init 23 = .ok (.iconst 3, 1) := by decide +kernel
theorem dX2_init_24 : decode cX2_init 24 = .ok (.newarray .int, 2) := by decide +kernel
theorem dX2_init_26 : decode cX2_init 26 = .ok (.putfield 22, 3) := by decide +kernel
theorem dX2_init_29 : decode cX2_init 29 = .ok (.aload_n 0, 1) := by decide +kernel
theorem dX2_init_30 : decode cX2_init 30 = .ok (.iconst 3, 1) := by decide +kernel
theorem dX2_init_31 : decode cX2_init 31 = .ok (.newarray .int, 2) := by decide +kernel
theorem dX2_init_33 : decode cX2_init 33 = .ok (.putfield 25, 3) := by decide +kernel
theorem dX2_init_36 : decode cX2_init 36 = .ok (.aload_n 0, 1) := by decide +kernel
theorem dX2_init_37 : decode cX2_init 37 = .ok (.bipush 6, 2) := by decide +kernel
theorem dX2_init_39 : decode cX2_init 39 = .ok (.newarray .int, 2) := by decide +kernel
theorem dX2_init_41 : decode cX2_init 41 = .ok (.putfield 28, 3) := by decide +kernel
theorem dX2_init_44 : decode cX2_init 44 = .ok (.aload_n 0, 1) := by decide +kernel
theorem dX2_init_45 : decode cX2_init 45 = .ok (.bipush 6, 2) := by decide +kernel
theorem dX2_init_47 : decode cX2_init 47 = .ok (.newarray .int, 2) := by decide +kernel
theorem dX2_init_49 : decode cX2_init 49 = .ok (.putfield 31, 3) := by decide +kernel
theorem dX2_init_52 : decode cX2_init 52 = .ok (.aload_n 0, 1) := by decide +kernel
theorem dX2_init_53 : decode cX2_init 53 = .ok (.bipush 18, 2) := by decide +kernel
theorem dX2_init_55 : decode cX2_init 55 = .ok (.newarray .int, 2) := by decide +kernel
theorem dX2_init_57 : decode cX2_init 57 = .ok (.putfield 34, 3) := by decide +kernel
theorem dX2_init_60 : decode cX2_init 60 = .ok (.aload_n 0, 1) := by decide +kernel
theorem dX2_init_61 : decode cX2_init 61 = .ok (.bipush 36, 2) := by decide +kernel
theorem dX2_init_63 : decode cX2_init 63 = .ok (.newarray .int, 2) := by decide +kernel
theorem dX2_init_65 : decode cX2_init 65 = .ok (.putfield 37, 3) := by decide +kernel
theorem dX2_init_68 : decode cX2_init 68 = .ok (.return_, 1) := by decide +kernel
theorem dX6_init_0 : decode cX6_init 0 = .ok (.aload_n 0, 1) := by decide +kernel
theorem dX6_init_1 : decode cX6_init 1 = .ok (.invokespecial 1, 3) := by decide +kernel
theorem dX6_init_4 : decode cX6_init 4 = .ok (.aload_n 0, 1) := by decide +kernel
theorem dX6_init_5 : decode cX6_init 5 = .ok (.iload_n 1, 1) := by decide +kernel
theorem dX6_init_6 : decode cX6_init 6 = .ok (.putfield 7, 3) := by decide +kernel
theorem dX6_init_9 : decode cX6_init 9 = .ok (.aload_n 0, 1) := by decide +kernel
theorem dX6_init_10 : decode cX6_init 10 = .ok (.iconst 0, 1) := by decide +kernel
theorem dX6_init_11 : decode cX6_init 11 = .ok (.iload_n 2, 1) := by decide +kernel
theorem dX6_init_12 : decode cX6_init 12 = .ok (.invokestatic 13, 3) := by decide +kernel
theorem dX6_init_15 : decode cX6_init 15 = .ok (.newarray .long, 2) := by decide +kernel
theorem dX6_init_17 : decode cX6_init 17 = .ok (.putfield 19, 3) := by decide +kernel
theorem dX6_init_20 : decode cX6_init 20 = .ok (.return_, 1) := by decide +kernel
theorem dX1_init_0 : decode cX1_init 0 = .ok (.aload_n 0, 1) := by decide +kernel
theorem dX1_init_1 : decode cX1_init 1 = .ok (.invokespecial 1, 3) := by decide +kernel
theorem dX1_init_4 : decode cX1_init 4 = .ok (.aload_n 0, 1) := by decide +kernel
theorem dX1_init_5 : decode cX1_init 5 = .ok (.aload_n 1, 1) := by decide +kernel
theorem dX1_init_6 : decode cX1_init 6 = .ok (.putfield 7, 3) := by decide +kernel
theorem dX1_init_9 : decode cX1_init 9 = .ok (.aload_n 0, 1) := by decide +kernel
theorem dX1_init_10 : decode cX1_init 10 = .ok (.aload_n 2, 1) := by decide +kernel
theorem dX1_init_11 : decode cX1_init 11 = .ok (.putfield 13, 3) := by decide +kernel
theorem dX1_init_14 : decode cX1_init 14 = .ok (.return_, 1) := by decide +kernel
set_option maxHeartbeats 4000000 in
set_option maxRecDepth 100000 in
theorem i_X2 (l : Launch) (D : va_G) (cy : Nat → ClassId) (h0 : Nat) (sz : Nat) : MM l yX2_init cX2_init 1 none 1 7 75 D cy [.ref h0] (PW D [(h0, .inr (2, [.int 0, .int 0, .int 0, .int 0, .int 0, .int 0, .int 0, .int 0, .int 0, .int 0, .int 0, .int 0, .int 0, .int 0, .null, .null, .null, .null, .null, .null, .null]))] sz) (QW D (va_A [(h0, .inr (2, [.int 0, .int 0, .int 0, .int 0, .int 0, .int 0, .int 0, .int 0, .int 0, .int 0, .int 0, .int 0, .int 0, .int 0, .null, .null, .null, .null, .null, .null, .null]))] sz) (S := (Nat → Nat) × (Nat → Nat → Int32) × (Nat → Nat → Int64) × (Nat → Int32)) (fun v u => v = none) (fun u => [(h0, .inr (2, [.int 0, .int 0, .int 0, .int 0, .int 0, .int 0, .int 0, .int 0, .int 1, .int 10, .int 0, .int 0, .int 0, .int 0, .ref (u.1 0), .ref (u.1 1), .ref (u.1 2), .ref (u.1 3), .ref (u.1 4), .ref (u.1 5), .ref (u.1 6)])), ((u.1 0), .inl (cy 1, 3, .inl (fun _ => 0))), ((u.1 1), .inl (cy 1, 3, .inl (fun _ => 0))), ((u.1 2), .inl (cy 1, 3, .inl (fun _ => 0))), ((u.1 3), .inl (cy 1, 6, .inl (fun _ => 0))), ((u.1 4), .inl (cy 1, 6, .inl (fun _ => 0))), ((u.1 5), .inl (cy 1, 18, .inl (fun _ => 0))), ((u.1 6), .inl (cy 1, 36, .inl (fun _ => 0)))])) (va_A [(h0, .inr (2, [.int 0, .int 0, .int 0, .int 0, .int 0, .int 0, .int 0, .int 0, .int 0, .int 0, .int 0, .int 0, .int 0, .int 0, .null, .null, .null, .null, .null, .null, .null]))] sz) := by
  refine MM.of (by decide) (Nat.le_of_ble_eq_true rfl) ?_
  intro p e s m below meth c C hPW ls hl
  obtain ⟨hx, hb, hr, hml, hown, hts, hlocks, hK, hnm⟩ := C
  obtain ⟨rfl, hP, hD0⟩ := hPW
  have hD := hD0.self (sz := s.heap.size)
  have hA : ∀ q : Nat, s.heap.size ≤ q → (va_A [(h0, .inr (2, [.int 0, .int 0, .int 0, .int 0, .int 0, .int 0, .int 0, .int 0, .int 0, .int 0, .int 0, .int 0, .int 0, .int 0, .null, .null, .null, .null, .null, .null, .null]))] s.heap.size) q := fun q h => Or.inr h
  have hS : va_S (va_A [(h0, .inr (2, [.int 0, .int 0, .int 0, .int 0, .int 0, .int 0, .int 0, .int 0, .int 0, .int 0, .int 0, .int 0, .int 0, .int 0, .null, .null, .null, .null, .null, .null, .null]))] s.heap.size) s.heap s.heap [] := va_S.rf
  generalize va_A [(h0, .inr (2, [.int 0, .int 0, .int 0, .int 0, .int 0, .int 0, .int 0, .int 0, .int 0, .int 0, .int 0, .int 0, .int 0, .int 0, .null, .null, .null, .null, .null, .null, .null]))] s.heap.size = A at hD hA hS ⊢
  have hP : va_P D vwCl [(h0, .inr (2, [.int 0, .int 0, .int 0, .int 0, .int 0, .int 0, .int 0, .int 0, .int 0, .int 0, .int 0, .int 0, .int 0, .int 0, .null, .null, .null, .null, .null, .null, .null]))] s.heap := hP
  have hl : lv_has ls 1 [(0, .ref h0)] := hl
  refine lv_aload_n hx hb dX2_init_0 rfl (lv_at hl 0 rfl) ?_
  refine W.objInit hx hb hown (hts _ ml_X2_3) (hts _ im_objectInit) (hts _ co_objectInit) rfl (by rw [hml]; exact hl.1) rfl dX2_init_1 (Nat.le_of_ble_eq_true rfl) (Nat.le_of_ble_eq_true rfl) ?_
  refine W.eq (g2 := F0 m 4 ls []) rfl ?_
  refine lv_aload_n hx hb dX2_init_4 rfl (lv_at hl 0 rfl) ?_
  refine lv_iconst (v := 1) hx hb dX2_init_5 (by decide) ?_
  refine va_put (D := D) (ci := 2) (v := .int 1) (ty := tyX2 8) (C := RX2) (T := TX2) (N := 21) hx hb hts lay_X2 tyX2 tyX2_ok nmX2 hown hK.1 hP hD hS 0 rfl rfl 8 (by decide) (hts _ fl_X2_9) (fun _ h9 => h9) rfl (tyX2_ok 8 (by decide)) rfl rfl (Nat.le_of_ble_eq_true rfl) dX2_init_6 (fun H locs hP hD hS => ?_)
  have hP : va_P D vwCl [(h0, .inr (2, [.int 0, .int 0, .int 0, .int 0, .int 0, .int 0, .int 0, .int 0, .int 1, .int 0, .int 0, .int 0, .int 0, .int 0, .null, .null, .null, .null, .null, .null, .null]))] H := hP
  have hD : va_D A [(h0, .inr (2, [.int 0, .int 0, .int 0, .int 0, .int 0, .int 0, .int 0, .int 0, .int 1, .int 0, .int 0, .int 0, .int 0, .int 0, .null, .null, .null, .null, .null, .null, .null]))] := hD
  refine lv_aload_n hx hb dX2_init_9 rfl (lv_at hl 0 rfl) ?_
  refine lv_bipush (v := 10) hx hb dX2_init_10 (by decide) ?_
  refine va_put (D := D) (ci := 2) (v := .int 10) (ty := tyX2 9) (C := RX2) (T := TX2) (N := 21) hx hb hts lay_X2 tyX2 tyX2_ok nmX2 hown hK.1 hP hD hS 0 rfl rfl 9 (by decide) (hts _ fl_X2_15) (fun _ h9 => h9) rfl (tyX2_ok 9 (by decide)) rfl rfl (Nat.le_of_ble_eq_true rfl) dX2_init_12 (fun H locs hP hD hS => ?_)
  have hP : va_P D vwCl [(h0, .inr (2, [.int 0, .int 0, .int 0, .int 0, .int 0, .int 0, .int 0, .int 0, .int 1, .int 10, .int 0, .int 0, .int 0, .int 0, .null, .null, .null, .null, .null, .null, .null]))] H := hP
  have hD : va_D A [(h0, .inr (2, [.int 0, .int 0, .int 0, .int 0, .int 0, .int 0, .int 0, .int 0, .int 1, .int 10, .int 0, .int 0, .int 0, .int 0, .null, .null, .null, .null, .null, .null, .null]))] := hD
  refine lv_aload_n hx hb dX2_init_15 rfl (lv_at hl 0 rfl) ?_
  refine lv_iconst (v := 3) hx hb dX2_init_16 (by decide) ?_
  refine newp (atype := .int) (ty := .int) (cA := cy 1) (a0 := (3, .inl (fun _ => 0))) 1 hx hb hts ac_int rfl hK rfl (fun _ h9 => h9) hP hD hS hA (fun _ => rfl) (by decide) (by decide) (by decide) (Nat.le_of_ble_eq_true rfl) (Nat.le_of_ble_eq_true rfl) dX2_init_17 (fun q_1 H hP hD hS => ?_)
  have hP : va_P D vwCl [(h0, .inr (2, [.int 0, .int 0, .int 0, .int 0, .int 0, .int 0, .int 0, .int 0, .int 1, .int 10, .int 0, .int 0, .int 0, .int 0, .null, .null, .null, .null, .null, .null, .null])), (q_1, .inl (cy 1, 3, .inl (fun _ => 0)))] H := hP
  have hD : va_D A [(h0, .inr (2, [.int 0, .int 0, .int 0, .int 0, .int 0, .int 0, .int 0, .int 0, .int 1, .int 10, .int 0, .int 0, .int 0, .int 0, .null, .null, .null, .null, .null, .null, .null])), (q_1, .inl (cy 1, 3, .inl (fun _ => 0)))] := hD
  refine va_putF (D := D) (ci := 2) (v := .ref q_1) (ty := tyX2 14) (C := RX2) (T := TX2) (N := 21) hx hb hts lay_X2 tyX2 tyX2_ok nmX2 hown hK.1 hP hD hS 0 rfl rfl 14 (by decide) (hts _ fl_X2_18) (fun _ h9 => h9) rfl hnm rfl (tyX2_ok 14 (by decide)) rfl rfl (Nat.le_of_ble_eq_true rfl) dX2_init_19 (fun H locs hP hD hS => ?_)
  have hP : va_P D vwCl [(h0, .inr (2, [.int 0, .int 0, .int 0, .int 0, .int 0, .int 0, .int 0, .int 0, .int 1, .int 10, .int 0, .int 0, .int 0, .int 0, .ref q_1, .null, .null, .null, .null, .null, .null])), (q_1, .inl (cy 1, 3, .inl (fun _ => 0)))] H := hP
  have hD : va_D A [(h0, .inr (2, [.int 0, .int 0, .int 0, .int 0, .int 0, .int 0, .int 0, .int 0, .int 1, .int 10, .int 0, .int 0, .int 0, .int 0, .ref q_1, .null, .null, .null, .null, .null, .null])), (q_1, .inl (cy 1, 3, .inl (fun _ => 0)))] := hD
  refine lv_aload_n hx hb dX2_init_22 rfl (lv_at hl 0 rfl) ?_
  refine lv_iconst (v := 3) hx hb dX2_init_23 (by decide) ?_
  refine newp (atype := .int) (ty := .int) (cA := cy 1) (a0 := (3, .inl (fun _ => 0))) 1 hx hb hts ac_int rfl hK rfl (fun _ h9 => h9) hP hD hS hA (fun _ => rfl) (by decide) (by decide) (by decide) (Nat.le_of_ble_eq_true rfl) (Nat.le_of_ble_eq_true rfl) dX2_init_24 (fun q_2 H hP hD hS => ?_)
  have hP : va_P D vwCl [(h0, .inr (2, [.int 0, .int 0, .int 0, .int 0, .int 0, .int 0, .int 0, .int 0, .int 1, .int 10, .int 0, .int 0, .int 0, .int 0, .ref q_1, .null, .null, .null, .null, .null, .null])), (q_1, .inl (cy 1, 3, .inl (fun _ => 0))), (q_2, .inl (cy 1, 3, .inl (fun _ => 0)))] H := hP
  have hD : va_D A [(h0, .inr (2, [.int 0, .int 0, .int 0, .int 0, .int 0, .int 0, .int 0, .int 0, .int 1, .int 10, .int 0, .int 0, .int 0, .int 0, .ref q_1, .null, .null, .null, .null, .null, .null])), (q_1, .inl (cy 1, 3, .inl (fun _ => 0))), (q_2, .inl (cy 1, 3, .inl (fun _ => 0)))] := hD
  refine va_putF (D := D) (ci := 2) (v := .ref q_2) (ty := tyX2 15) (C := RX2) (T := TX2) (N := 21) hx hb hts lay_X2 tyX2 tyX2_ok nmX2 hown hK.1 hP hD hS 0 rfl rfl 15 (by decide) (hts _ fl_X2_22) (fun _ h9 => h9) rfl hnm rfl (tyX2_ok 15 (by decide)) rfl rfl (Nat.le_of_ble_eq_true rfl) dX2_init_26 (fun H locs hP hD hS => ?_)
  have hP : va_P D vwCl [(h0, .inr (2, [.int 0, .int 0, .int 0, .int 0, .int 0, .int 0, .int 0, .int 0, .int 1, .int 10, .int 0, .int 0, .int 0, .int 0, .ref q_1, .ref q_2, .null, .null, .null, .null, .null])), (q_1, .inl (cy 1, 3, .inl (fun _ => 0))), (q_2, .inl (cy 1, 3, .inl (fun _ => 0)))] H := hP
  have hD : va_D A [(h0, .inr (2, [.int 0, .int 0, .int 0, .int 0, .int 0, .int 0, .int 0, .int 0, .int 1, .int 10, .int 0, .int 0, .int 0, .int 0, .ref q_1, .ref q_2, .null, .null, .null, .null, .null])), (q_1, .inl (cy 1, 3, .inl (fun _ => 0))), (q_2, .inl (cy 1, 3, .inl (fun _ => 0)))] := hD
  refine lv_aload_n hx hb dX2_init_29 rfl (lv_at hl 0 rfl) ?_
  refine lv_iconst (v := 3) hx hb dX2_init_30 (by decide) ?_
  refine newp (atype := .int) (ty := .int) (cA := cy 1) (a0 := (3, .inl (fun _ => 0))) 1 hx hb hts ac_int rfl hK rfl (fun _ h9 => h9) hP hD hS hA (fun _ => rfl) (by decide) (by decide) (by decide) (Nat.le_of_ble_eq_true rfl) (Nat.le_of_ble_eq_true rfl) dX2_init_31 (fun q_3 H hP hD hS => ?_)
  have hP : va_P D vwCl [(h0, .inr (2, [.int 0, .int 0, .int 0, .int 0, .int 0, .int 0, .int 0, .int 0, .int 1, .int 10, .int 0, .int 0, .int 0, .int 0, .ref q_1, .ref q_2, .null, .null, .null, .null, .null])), (q_1, .inl (cy 1, 3, .inl (fun _ => 0))), (q_2, .inl (cy 1, 3, .inl (fun _ => 0))), (q_3, .inl (cy 1, 3, .inl (fun _ => 0)))] H := hP
  have hD : va_D A [(h0, .inr (2, [.int 0, .int 0, .int 0, .int 0, .int 0, .int 0, .int 0, .int 0, .int 1, .int 10, .int 0, .int 0, .int 0, .int 0, .ref q_1, .ref q_2, .null, .null, .null, .null, .null])), (q_1, .inl (cy 1, 3, .inl (fun _ => 0))), (q_2, .inl (cy 1, 3, .inl (fun _ => 0))), (q_3, .inl (cy 1, 3, .inl (fun _ => 0)))] := hD
  refine va_putF (D := D) (ci := 2) (v := .ref q_3) (ty := tyX2 16) (C := RX2) (T := TX2) (N := 21) hx hb hts lay_X2 tyX2 tyX2_ok nmX2 hown hK.1 hP hD hS 0 rfl rfl 16 (by decide) (hts _ fl_X2_25) (fun _ h9 => h9) rfl hnm rfl (tyX2_ok 16 (by decide)) rfl rfl (Nat.le_of_ble_eq_true rfl) dX2_init_33 (fun H locs hP hD hS => ?_)
  have hP : va_P D vwCl [(h0, .inr (2, [.int 0, .int 0, .int 0, .int 0, .int 0, .int 0, .int 0, .int 0, .int 1, .int 10, .int 0, .int 0, .int 0, .int 0, .ref q_1, .ref q_2, .ref q_3, .null, .null, .null, .null])), (q_1, .inl (cy 1, 3, .inl (fun _ => 0))), (q_2, .inl (cy 1, 3, .inl (fun _ => 0))), (q_3, .inl (cy 1, 3, .inl (fun _ => 0)))] H := hP
  have hD : va_D A [(h0, .inr (2, [.int 0, .int 0, .int 0, .int 0, .int 0, .int 0, .int 0, .int 0, .int 1, .int 10, .int 0, .int 0, .int 0, .int 0, .ref q_1, .ref q_2, .ref q_3, .null, .null, .null, .null])), (q_1, .inl (cy 1, 3, .inl (fun _ => 0))), (q_2, .inl (cy 1, 3, .inl (fun _ => 0))), (q_3, .inl (cy 1, 3, .inl (fun _ => 0)))] := hD
  refine lv_aload_n hx hb dX2_init_36 rfl (lv_at hl 0 rfl) ?_
  refine lv_bipush (v := 6) hx hb dX2_init_37 (by decide) ?_
  refine newp (atype := .int) (ty := .int) (cA := cy 1) (a0 := (6, .inl (fun _ => 0))) 1 hx hb hts ac_int rfl hK rfl (fun _ h9 => h9) hP hD hS hA (fun _ => rfl) (by decide) (by decide) (by decide) (Nat.le_of_ble_eq_true rfl) (Nat.le_of_ble_eq_true rfl) dX2_init_39 (fun q_4 H hP hD hS => ?_)
  have hP : va_P D vwCl [(h0, .inr (2, [.int 0, .int 0, .int 0, .int 0, .int 0, .int 0, .int 0, .int 0, .int 1, .int 10, .int 0, .int 0, .int 0, .int 0, .ref q_1, .ref q_2, .ref q_3, .null, .null, .null, .null])), (q_1, .inl (cy 1, 3, .inl (fun _ => 0))), (q_2, .inl (cy 1, 3, .inl (fun _ => 0))), (q_3, .inl (cy 1, 3, .inl (fun _ => 0))), (q_4, .inl (cy 1, 6, .inl (fun _ => 0)))] H := hP
  have hD : va_D A [(h0, .inr (2, [.int 0, .int 0, .int 0, .int 0, .int 0, .int 0, .int 0, .int 0, .int 1, .int 10, .int 0, .int 0, .int 0, .int 0, .ref q_1, .ref q_2, .ref q_3, .null, .null, .null, .null])), (q_1, .inl (cy 1, 3, .inl (fun _ => 0))), (q_2, .inl (cy 1, 3, .inl (fun _ => 0))), (q_3, .inl (cy 1, 3, .inl (fun _ => 0))), (q_4, .inl (cy 1, 6, .inl (fun _ => 0)))] := hD
  refine va_putF (D := D) (ci := 2) (v := .ref q_4) (ty := tyX2 17) (C := RX2) (T := TX2) (N := 21) hx hb hts lay_X2 tyX2 tyX2_ok nmX2 hown hK.1 hP hD hS 0 rfl rfl 17 (by decide) (hts _ fl_X2_28) (fun _ h9 => h9) rfl hnm rfl (tyX2_ok 17 (by decide)) rfl rfl (Nat.le_of_ble_eq_true rfl) dX2_init_41 (fun H locs hP hD hS => ?_)
  have hP : va_P D vwCl [(h0, .inr (2, [.int 0, .int 0, .int 0, .int 0, .int 0, .int 0, .int 0, .int 0, .int 1, .int 10, .int 0, .int 0, .int 0, .int 0, .ref q_1, .ref q_2, .ref q_3, .ref q_4, .null, .null, .null])), (q_1, .inl (cy 1, 3, .inl (fun _ => 0))), (q_2, .inl (cy 1, 3, .inl (fun _ => 0))), (q_3, .inl (cy 1, 3, .inl (fun _ => 0))), (q_4, .inl (cy 1, 6, .inl (fun _ => 0)))] H := hP
  have hD : va_D A [(h0, .inr (2, [.int 0, .int 0, .int 0, .int 0, .int 0, .int 0, .int 0, .int 0, .int 1, .int 10, .int 0, .int 0, .int 0, .int 0, .ref q_1, .ref q_2, .ref q_3, .ref q_4, .null, .null, .null])), (q_1, .inl (cy 1, 3, .inl (fun _ => 0))), (q_2, .inl (cy 1, 3, .inl (fun _ => 0))), (q_3, .inl (cy 1, 3, .inl (fun _ => 0))), (q_4, .inl (cy 1, 6, .inl (fun _ => 0)))] := hD
  refine lv_aload_n hx hb dX2_init_44 rfl (lv_at hl 0 rfl) ?_
  refine lv_bipush (v := 6) hx hb dX2_init_45 (by decide) ?_
  refine newp (atype := .int) (ty := .int) (cA := cy 1) (a0 := (6, .inl (fun _ => 0))) 1 hx hb hts ac_int rfl hK rfl (fun _ h9 => h9) hP hD hS hA (fun _ => rfl) (by decide) (by decide) (by decide) (Nat.le_of_ble_eq_true rfl) (Nat.le_of_ble_eq_true rfl) dX2_init_47 (fun q_5 H hP hD hS => ?_)
  have hP : va_P D vwCl [(h0, .inr (2, [.int 0, .int 0, .int 0, .int 0, .int 0, .int 0, .int 0, .int 0, .int 1, .int 10, .int 0, .int 0, .int 0, .int 0, .ref q_1, .ref q_2, .ref q_3, .ref q_4, .null, .null, .null])), (q_1, .inl (cy 1, 3, .inl (fun _ => 0))), (q_2, .inl (cy 1, 3, .inl (fun _ => 0))), (q_3, .inl (cy 1, 3, .inl (fun _ => 0))), (q_4, .inl (cy 1, 6, .inl (fun _ => 0))), (q_5, .inl (cy 1, 6, .inl (fun _ => 0)))] H := hP
  have hD : va_D A [(h0, .inr (2, [.int 0, .int 0, .int 0, .int 0, .int 0, .int 0, .int 0, .int 0, .int 1, .int 10, .int 0, .int 0, .int 0, .int 0, .ref q_1, .ref q_2, .ref q_3, .ref q_4, .null, .null, .null])), (q_1, .inl (cy 1, 3, .inl (fun _ => 0))), (q_2, .inl (cy 1, 3, .inl (fun _ => 0))), (q_3, .inl (cy 1, 3, .inl (fun _ => 0))), (q_4, .inl (cy 1, 6, .inl (fun _ => 0))), (q_5, .inl (cy 1, 6, .inl (fun _ => 0)))] := hD
  refine va_putF (D := D) (ci := 2) (v := .ref q_5) (ty := tyX2 18) (C := RX2) (T := TX2) (N := 21) hx hb hts lay_X2 tyX2 tyX2_ok nmX2 hown hK.1 hP hD hS 0 rfl rfl 18 (by decide) (hts _ fl_X2_31) (fun _ h9 => h9) rfl hnm rfl (tyX2_ok 18 (by decide)) rfl rfl (Nat.le_of_ble_eq_true rfl) dX2_init_49 (fun H locs hP hD hS => ?_)
  have hP : va_P D vwCl [(h0, .inr (2, [.int 0, .int 0, .int 0, .int 0, .int 0, .int 0, .int 0, .int 0, .int 1, .int 10, .int 0, .int 0, .int 0, .int 0, .ref q_1, .ref q_2, .ref q_3, .ref q_4, .ref q_5, .null, .null])), (q_1, .inl (cy 1, 3, .inl (fun _ => 0))), (q_2, .inl (cy 1, 3, .inl (fun _ => 0))), (q_3, .inl (cy 1, 3, .inl (fun _ => 0))), (q_4, .inl (cy 1, 6, .inl (fun _ => 0))), (q_5, .inl (cy 1, 6, .inl (fun _ => 0)))] H := hP
  have hD : va_D A [(h0, .inr (2, [.int 0, .int 0, .int 0, .int 0, .int 0, .int 0, .int 0, .int 0, .int 1, .int 10, .int 0, .int 0, .int 0, .int 0, .ref q_1, .ref q_2, .ref q_3, .ref q_4, .ref q_5, .null, .null])), (q_1, .inl (cy 1, 3, .inl (fun _ => 0))), (q_2, .inl (cy 1, 3, .inl (fun _ => 0))), (q_3, .inl (cy 1, 3, .inl (fun _ => 0))), (q_4, .inl (cy 1, 6, .inl (fun _ => 0))), (q_5, .inl (cy 1, 6, .inl (fun _ => 0)))] := hD
  refine lv_aload_n hx hb dX2_init_52 rfl (lv_at hl 0 rfl) ?_
  refine lv_bipush (v := 18) hx hb dX2_init_53 (by decide) ?_
  refine newp (atype := .int) (ty := .int) (cA := cy 1) (a0 := (18, .inl (fun _ => 0))) 1 hx hb hts ac_int rfl hK rfl (fun _ h9 => h9) hP hD hS hA (fun _ => rfl) (by decide) (by decide) (by decide) (Nat.le_of_ble_eq_true rfl) (Nat.le_of_ble_eq_true rfl) dX2_init_55 (fun q_6 H hP hD hS => ?_)
  have hP : va_P D vwCl [(h0, .inr (2, [.int 0, .int 0, .int 0, .int 0, .int 0, .int 0, .int 0, .int 0, .int 1, .int 10, .int 0, .int 0, .int 0, .int 0, .ref q_1, .ref q_2, .ref q_3, .ref q_4, .ref q_5, .null, .null])), (q_1, .inl (cy 1, 3, .inl (fun _ => 0))), (q_2, .inl (cy 1, 3, .inl (fun _ => 0))), (q_3, .inl (cy 1, 3, .inl (fun _ => 0))), (q_4, .inl (cy 1, 6, .inl (fun _ => 0))), (q_5, .inl (cy 1, 6, .inl (fun _ => 0))), (q_6, .inl (cy 1, 18, .inl (fun _ => 0)))] H := hP
  have hD : va_D A [(h0, .inr (2, [.int 0, .int 0, .int 0, .int 0, .int 0, .int 0, .int 0, .int 0, .int 1, .int 10, .int 0, .int 0, .int 0, .int 0, .ref q_1, .ref q_2, .ref q_3, .ref q_4, .ref q_5, .null, .null])), (q_1, .inl (cy 1, 3, .inl (fun _ => 0))), (q_2, .inl (cy 1, 3, .inl (fun _ => 0))), (q_3, .inl (cy 1, 3, .inl (fun _ => 0))), (q_4, .inl (cy 1, 6, .inl (fun _ => 0))), (q_5, .inl (cy 1, 6, .inl (fun _ => 0))), (q_6, .inl (cy 1, 18, .inl (fun _ => 0)))] := hD
  refine va_putF (D := D) (ci := 2) (v := .ref q_6) (ty := tyX2 19) (C := RX2) (T := TX2) (N := 21) hx hb hts lay_X2 tyX2 tyX2_ok nmX2 hown hK.1 hP hD hS 0 rfl rfl 19 (by decide) (hts _ fl_X2_34) (fun _ h9 => h9) rfl hnm rfl (tyX2_ok 19 (by decide)) rfl rfl (Nat.le_of_ble_eq_true rfl) dX2_init_57 (fun H locs hP hD hS => ?_)
  have hP : va_P D vwCl [(h0, .inr (2, [.int 0, .int 0, .int 0, .int 0, .int 0, .int 0, .int 0, .int 0, .int 1, .int 10, .int 0, .int 0, .int 0, .int 0, .ref q_1, .ref q_2, .ref q_3, .ref q_4, .ref q_5, .ref q_6, .null])), (q_1, .inl (cy 1, 3, .inl (fun _ => 0))), (q_2, .inl (cy 1, 3, .inl (fun _ => 0))), (q_3, .inl (cy 1, 3, .inl (fun _ => 0))), (q_4, .inl (cy 1, 6, .inl (fun _ => 0))), (q_5, .inl (cy 1, 6, .inl (fun _ => 0))), (q_6, .inl (cy 1, 18, .inl (fun _ => 0)))] H := hP
  have hD : va_D A [(h0, .inr (2, [.int 0, .int 0, .int 0, .int 0, .int 0, .int 0, .int 0, .int 0, .int 1, .int 10, .int 0, .int 0, .int 0, .int 0, .ref q_1, .ref q_2, .ref q_3, .ref q_4, .ref q_5, .ref q_6, .null])), (q_1, .inl (cy 1, 3, .inl (fun _ => 0))), (q_2, .inl (cy 1, 3, .inl (fun _ => 0))), (q_3, .inl (cy 1, 3, .inl (fun _ => 0))), (q_4, .inl (cy 1, 6, .inl (fun _ => 0))), (q_5, .inl (cy 1, 6, .inl (fun _ => 0))), (q_6, .inl (cy 1, 18, .inl (fun _ => 0)))] := hD
  refine lv_aload_n hx hb dX2_init_60 rfl (lv_at hl 0 rfl) ?_
  refine lv_bipush (v := 36) hx hb dX2_init_61 (by decide) ?_
  refine newp (atype := .int) (ty := .int) (cA := cy 1) (a0 := (36, .inl (fun _ => 0))) 1 hx hb hts ac_int rfl hK rfl (fun _ h9 => h9) hP hD hS hA (fun _ => rfl) (by decide) (by decide) (by decide) (Nat.le_of_ble_eq_true rfl) (Nat.le_of_ble_eq_true rfl) dX2_init_63 (fun q_7 H hP hD hS => ?_)
  have hP : va_P D vwCl [(h0, .inr (2, [.int 0, .int 0, .int 0, .int 0, .int 0, .int 0, .int 0, .int 0, .int 1, .int 10, .int 0, .int 0, .int 0, .int 0, .ref q_1, .ref q_2, .ref q_3, .ref q_4, .ref q_5, .ref q_6, .null])), (q_1, .inl (cy 1, 3, .inl (fun _ => 0))), (q_2, .inl (cy 1, 3, .inl (fun _ => 0))), (q_3, .inl (cy 1, 3, .inl (fun _ => 0))), (q_4, .inl (cy 1, 6, .inl (fun _ => 0))), (q_5, .inl (cy 1, 6, .inl (fun _ => 0))), (q_6, .inl (cy 1, 18, .inl (fun _ => 0))), (q_7, .inl (cy 1, 36, .inl (fun _ => 0)))] H := hP
  have hD : va_D A [(h0, .inr (2, [.int 0, .int 0, .int 0, .int 0, .int 0, .int 0, .int 0, .int 0, .int 1, .int 10, .int 0, .int 0, .int 0, .int 0, .ref q_1, .ref q_2, .ref q_3, .ref q_4, .ref q_5, .ref q_6, .null])), (q_1, .inl (cy 1, 3, .inl (fun _ => 0))), (q_2, .inl (cy 1, 3, .inl (fun _ => 0))), (q_3, .inl (cy 1, 3, .inl (fun _ => 0))), (q_4, .inl (cy 1, 6, .inl (fun _ => 0))), (q_5, .inl (cy 1, 6, .inl (fun _ => 0))), (q_6, .inl (cy 1, 18, .inl (fun _ => 0))), (q_7, .inl (cy 1, 36, .inl (fun _ => 0)))] := hD
  refine va_putF (D := D) (ci := 2) (v := .ref q_7) (ty := tyX2 20) (C := RX2) (T := TX2) (N := 21) hx hb hts lay_X2 tyX2 tyX2_ok nmX2 hown hK.1 hP hD hS 0 rfl rfl 20 (by decide) (hts _ fl_X2_37) (fun _ h9 => h9) rfl hnm rfl (tyX2_ok 20 (by decide)) rfl rfl (Nat.le_of_ble_eq_true rfl) dX2_init_65 (fun H locs hP hD hS => ?_)
  have hP : va_P D vwCl [(h0, .inr (2, [.int 0, .int 0, .int 0, .int 0, .int 0, .int 0, .int 0, .int 0, .int 1, .int 10, .int 0, .int 0, .int 0, .int 0, .ref q_1, .ref q_2, .ref q_3, .ref q_4, .ref q_5, .ref q_6, .ref q_7])), (q_1, .inl (cy 1, 3, .inl (fun _ => 0))), (q_2, .inl (cy 1, 3, .inl (fun _ => 0))), (q_3, .inl (cy 1, 3, .inl (fun _ => 0))), (q_4, .inl (cy 1, 6, .inl (fun _ => 0))), (q_5, .inl (cy 1, 6, .inl (fun _ => 0))), (q_6, .inl (cy 1, 18, .inl (fun _ => 0))), (q_7, .inl (cy 1, 36, .inl (fun _ => 0)))] H := hP
  have hD : va_D A [(h0, .inr (2, [.int 0, .int 0, .int 0, .int 0, .int 0, .int 0, .int 0, .int 0, .int 1, .int 10, .int 0, .int 0, .int 0, .int 0, .ref q_1, .ref q_2, .ref q_3, .ref q_4, .ref q_5, .ref q_6, .ref q_7])), (q_1, .inl (cy 1, 3, .inl (fun _ => 0))), (q_2, .inl (cy 1, 3, .inl (fun _ => 0))), (q_3, .inl (cy 1, 3, .inl (fun _ => 0))), (q_4, .inl (cy 1, 6, .inl (fun _ => 0))), (q_5, .inl (cy 1, 6, .inl (fun _ => 0))), (q_6, .inl (cy 1, 18, .inl (fun _ => 0))), (q_7, .inl (cy 1, 36, .inl (fun _ => 0)))] := hD
  exact ret_v hx hb hr hlocks ⟨⟨hS.1, hS.2.1⟩, ((fun k => match k with | 0 => q_1 | 1 => q_2 | 2 => q_3 | 3 => q_4 | 4 => q_5 | 5 => q_6 | 6 => q_7 | _ => 0), (fun _ => (fun _ => 0)), (fun _ => (fun _ => 0)), (fun _ => 0)), rfl, hP.sub [0, 1, 2, 3, 4, 5, 6, 7] rfl, hD.sub [0, 1, 2, 3, 4, 5, 6, 7] (by decide) rfl⟩ hS.2.2 (Nat.le_of_ble_eq_true rfl) (Nat.le_of_ble_eq_true rfl) dX2_init_68
set_option maxHeartbeats 4000000 in
set_option maxRecDepth 100000 in
theorem i_X6 (l : Launch) (D : va_G) (cy : Nat → ClassId) (h0 : Nat) (w : Int32) (n : Int32) (hn0 : 0 ≤ n.toInt) (hn1 : n.toInt ≤ 60) (sz : Nat) : MM l yX6_init cX6_init 3 none 1 1 60 D cy [.ref h0, .int w, .int n] (PW D [(h0, .inr (6, [.int 0, .null]))] sz) (QW D (va_A [(h0, .inr (6, [.int 0, .null]))] sz) (S := (Nat → Nat) × (Nat → Nat → Int32) × (Nat → Nat → Int64) × (Nat → Int32)) (fun v u => v = none) (fun u => [(h0, .inr (6, [.int w, .ref (u.1 0)])), ((u.1 0), .inl (cy 2, n.toInt.toNat, .inr (.inl (fun _ => 0))))])) (va_A [(h0, .inr (6, [.int 0, .null]))] sz) := by
  refine MM.of (by decide) (Nat.le_of_ble_eq_true rfl) ?_
  intro p e s m below meth c C hPW ls hl
  obtain ⟨hx, hb, hr, hml, hown, hts, hlocks, hK, hnm⟩ := C
  obtain ⟨rfl, hP, hD0⟩ := hPW
  have hD := hD0.self (sz := s.heap.size)
  have hA : ∀ q : Nat, s.heap.size ≤ q → (va_A [(h0, .inr (6, [.int 0, .null]))] s.heap.size) q := fun q h => Or.inr h
  have hS : va_S (va_A [(h0, .inr (6, [.int 0, .null]))] s.heap.size) s.heap s.heap [] := va_S.rf
  generalize va_A [(h0, .inr (6, [.int 0, .null]))] s.heap.size = A at hD hA hS ⊢
  have hP : va_P D vwCl [(h0, .inr (6, [.int 0, .null]))] s.heap := hP
  have hl : lv_has ls 3 [(0, .ref h0), (1, .int w), (2, .int n)] := hl
  refine lv_aload_n hx hb dX6_init_0 rfl (lv_at hl 0 rfl) ?_
  refine W.objInit hx hb hown (hts _ ml_X6_1) (hts _ im_objectInit) (hts _ co_objectInit) rfl (by rw [hml]; exact hl.1) rfl dX6_init_1 (Nat.le_of_ble_eq_true rfl) (Nat.le_of_ble_eq_true rfl) ?_
  refine W.eq (g2 := F0 m 4 ls []) rfl ?_
  refine lv_aload_n hx hb dX6_init_4 rfl (lv_at hl 0 rfl) ?_
  refine lv_iload_n hx hb dX6_init_5 rfl (lv_at hl 1 rfl) ?_
  refine va_putF (D := D) (ci := 6) (v := .int w) (ty := tyX6 0) (C := RX6) (T := TX6) (N := 2) hx hb hts lay_X6 tyX6 tyX6_ok nmX6 hown hK.1 hP hD hS 0 rfl rfl 0 (by decide) (hts _ fl_X6_7) (fun _ h9 => h9) rfl hnm rfl (tyX6_ok 0 (by decide)) rfl rfl (Nat.le_of_ble_eq_true rfl) dX6_init_6 (fun H locs hP hD hS => ?_)
  have hP : va_P D vwCl [(h0, .inr (6, [.int w, .null]))] H := hP
  have hD : va_D A [(h0, .inr (6, [.int w, .null]))] := hD
  refine lv_aload_n hx hb dX6_init_9 rfl (lv_at hl 0 rfl) ?_
  refine lv_iconst (v := 0) hx hb dX6_init_10 (by decide) ?_
  refine lv_iload_n hx hb dX6_init_11 rfl (lv_at hl 2 rfl) ?_
  refine va_mmax hx hb (by rw [hml]; exact hl.1.symm) hown (hts _ ml_X6_13) (hts _ st_math_max) (hts _ ini_J9) (hts _ co_math_max) (Nat.le_of_ble_eq_true rfl) (Nat.le_of_ble_eq_true rfl) (Nat.le_of_ble_eq_true rfl) (Nat.le_of_ble_eq_true rfl) dX6_init_12 ?_
  refine lv_topi (fun z_1 ez_1 => ?_)
  have ez_1 : n = z_1 := (ez_1.trans (max0_t hn0)).symm
  subst ez_1
  have hneg : ¬ n < 0 := fun h => by have h2 := (fa_lt _ _).mp h; have e0 : (0 : Int32).toInt = 0 := rfl; omega
  refine newp (atype := .long) (ty := .long) (cA := cy 2) (a0 := (n.toInt.toNat, .inr (.inl (fun _ => 0)))) 2 hx hb hts ac_long rfl hK rfl (fun _ h9 => h9) hP hD hS hA (fun _ => rfl) hneg rfl (show n.toInt.toNat * 8 ≤ 536870912 by omega) (Nat.le_of_ble_eq_true rfl) (show 0 + n.toInt.toNat ≤ 60 by omega) dX6_init_15 (fun q_2 H hP hD hS => ?_)
  have hP : va_P D vwCl [(h0, .inr (6, [.int w, .null])), (q_2, .inl (cy 2, n.toInt.toNat, .inr (.inl (fun _ => 0))))] H := hP
  have hD : va_D A [(h0, .inr (6, [.int w, .null])), (q_2, .inl (cy 2, n.toInt.toNat, .inr (.inl (fun _ => 0))))] := hD
  refine W.widen (k := 1) (n := 60) (by omega) (by omega) ?_
  refine va_putF (D := D) (ci := 6) (v := .ref q_2) (ty := tyX6 1) (C := RX6) (T := TX6) (N := 2) hx hb hts lay_X6 tyX6 tyX6_ok nmX6 hown hK.1 hP hD hS 0 rfl rfl 1 (by decide) (hts _ fl_X6_19) (fun _ h9 => h9) rfl hnm rfl (tyX6_ok 1 (by decide)) rfl rfl (Nat.le_of_ble_eq_true rfl) dX6_init_17 (fun H locs hP hD hS => ?_)
  have hP : va_P D vwCl [(h0, .inr (6, [.int w, .ref q_2])), (q_2, .inl (cy 2, n.toInt.toNat, .inr (.inl (fun _ => 0))))] H := hP
  have hD : va_D A [(h0, .inr (6, [.int w, .ref q_2])), (q_2, .inl (cy 2, n.toInt.toNat, .inr (.inl (fun _ => 0))))] := hD
  exact ret_v hx hb hr hlocks ⟨⟨hS.1, hS.2.1⟩, ((fun k => match k with | 0 => q_2 | _ => 0), (fun _ => (fun _ => 0)), (fun _ => (fun _ => 0)), (fun _ => 0)), rfl, hP.sub [0, 1] rfl, hD.sub [0, 1] (by decide) rfl⟩ hS.2.2 (Nat.le_of_ble_eq_true rfl) (Nat.le_of_ble_eq_true rfl) dX6_init_20
set_option maxHeartbeats 4000000 in
set_option maxRecDepth 100000 in
theorem i_X1n (l : Launch) (D : va_G) (cy : Nat → ClassId) (h0 : Nat) (a : Nat) (sz : Nat) : MM l yX1_init cX1_init 3 none 1 0 0 D cy [.ref h0, .ref a, .null] (PW D [(h0, .inr (1, [.null, .null]))] sz) (QW D (va_A [(h0, .inr (1, [.null, .null]))] sz) (S := Unit) (fun v u => v = none) (fun u => [(h0, .inr (1, [.ref a, .null]))])) (va_A [(h0, .inr (1, [.null, .null]))] sz) := by
  refine MM.of (by decide) (Nat.le_of_ble_eq_true rfl) ?_
  intro p e s m below meth c C hPW ls hl
  obtain ⟨hx, hb, hr, hml, hown, hts, hlocks, hK, hnm⟩ := C
  obtain ⟨rfl, hP, hD0⟩ := hPW
  have hD := hD0.self (sz := s.heap.size)
  have hA : ∀ q : Nat, s.heap.size ≤ q → (va_A [(h0, .inr (1, [.null, .null]))] s.heap.size) q := fun q h => Or.inr h
  have hS : va_S (va_A [(h0, .inr (1, [.null, .null]))] s.heap.size) s.heap s.heap [] := va_S.rf
  generalize va_A [(h0, .inr (1, [.null, .null]))] s.heap.size = A at hD hA hS ⊢
  have hP : va_P D vwCl [(h0, .inr (1, [.null, .null]))] s.heap := hP
  have hl : lv_has ls 3 [(0, .ref h0), (1, .ref a), (2, .null)] := hl
  refine lv_aload_n hx hb dX1_init_0 rfl (lv_at hl 0 rfl) ?_
  refine W.objInit hx hb hown (hts _ ml_X1_1) (hts _ im_objectInit) (hts _ co_objectInit) rfl (by rw [hml]; exact hl.1) rfl dX1_init_1 (Nat.le_of_ble_eq_true rfl) (Nat.le_of_ble_eq_true rfl) ?_
  refine W.eq (g2 := F0 m 4 ls []) rfl ?_
  refine lv_aload_n hx hb dX1_init_4 rfl (lv_at hl 0 rfl) ?_
  refine lv_aload_n hx hb dX1_init_5 rfl (lv_at hl 1 rfl) ?_
  refine va_putF (D := D) (ci := 1) (v := .ref a) (ty := tyX1 0) (C := RX1) (T := TX1) (N := 2) hx hb hts lay_X1 tyX1 tyX1_ok nmX1 hown hK.1 hP hD hS 0 rfl rfl 0 (by decide) (hts _ fl_X1_7) (fun _ h9 => h9) rfl hnm rfl (tyX1_ok 0 (by decide)) rfl rfl (Nat.le_of_ble_eq_true rfl) dX1_init_6 (fun H locs hP hD hS => ?_)
  have hP : va_P D vwCl [(h0, .inr (1, [.ref a, .null]))] H := hP
  have hD : va_D A [(h0, .inr (1, [.ref a, .null]))] := hD
  refine lv_aload_n hx hb dX1_init_9 rfl (lv_at hl 0 rfl) ?_
  refine lv_aload_nN hx hb dX1_init_10 rfl (lv_at hl 2 rfl) ?_
  refine va_putF (D := D) (ci := 1) (v := .null) (ty := tyX1 1) (C := RX1) (T := TX1) (N := 2) hx hb hts lay_X1 tyX1 tyX1_ok nmX1 hown hK.1 hP hD hS 0 rfl rfl 1 (by decide) (hts _ fl_X1_13) (fun _ h9 => h9) rfl hnm rfl (tyX1_ok 1 (by decide)) rfl rfl (Nat.le_of_ble_eq_true rfl) dX1_init_11 (fun H locs hP hD hS => ?_)
  have hP : va_P D vwCl [(h0, .inr (1, [.ref a, .null]))] H := hP
  have hD : va_D A [(h0, .inr (1, [.ref a, .null]))] := hD
  exact ret_v hx hb hr hlocks ⟨⟨hS.1, hS.2.1⟩, (), rfl, hP.sub [0] rfl, hD.sub [0] (by decide) rfl⟩ hS.2.2 (Nat.le_of_ble_eq_true rfl) (Nat.le_of_ble_eq_true rfl) dX1_init_14
set_option maxHeartbeats 4000000 in
set_option maxRecDepth 100000 in
theorem i_X1r (l : Launch) (D : va_G) (cy : Nat → ClassId) (h0 : Nat) (a : Nat) (y : Nat) (sz : Nat) : MM l yX1_init cX1_init 3 none 1 0 0 D cy [.ref h0, .ref a, .ref y] (PW D [(h0, .inr (1, [.null, .null]))] sz) (QW D (va_A [(h0, .inr (1, [.null, .null]))] sz) (S := Unit) (fun v u => v = none) (fun u => [(h0, .inr (1, [.ref a, .ref y]))])) (va_A [(h0, .inr (1, [.null, .null]))] sz) := by
  refine MM.of (by decide) (Nat.le_of_ble_eq_true rfl) ?_
  intro p e s m below meth c C hPW ls hl
  obtain ⟨hx, hb, hr, hml, hown, hts, hlocks, hK, hnm⟩ := C
  obtain ⟨rfl, hP, hD0⟩ := hPW
  have hD := hD0.self (sz := s.heap.size)
  have hA : ∀ q : Nat, s.heap.size ≤ q → (va_A [(h0, .inr (1, [.null, .null]))] s.heap.size) q := fun q h => Or.inr h
  have hS : va_S (va_A [(h0, .inr (1, [.null, .null]))] s.heap.size) s.heap s.heap [] := va_S.rf
  generalize va_A [(h0, .inr (1, [.null, .null]))] s.heap.size = A at hD hA hS ⊢
  have hP : va_P D vwCl [(h0, .inr (1, [.null, .null]))] s.heap := hP
  have hl : lv_has ls 3 [(0, .ref h0), (1, .ref a), (2, .ref y)] := hl
  refine lv_aload_n hx hb dX1_init_0 rfl (lv_at hl 0 rfl) ?_
  refine W.objInit hx hb hown (hts _ ml_X1_1) (hts _ im_objectInit) (hts _ co_objectInit) rfl (by rw [hml]; exact hl.1) rfl dX1_init_1 (Nat.le_of_ble_eq_true rfl) (Nat.le_of_ble_eq_true rfl) ?_
  refine W.eq (g2 := F0 m 4 ls []) rfl ?_
  refine lv_aload_n hx hb dX1_init_4 rfl (lv_at hl 0 rfl) ?_
  refine lv_aload_n hx hb dX1_init_5 rfl (lv_at hl 1 rfl) ?_
  refine va_putF (D := D) (ci := 1) (v := .ref a) (ty := tyX1 0) (C := RX1) (T := TX1) (N := 2) hx hb hts lay_X1 tyX1 tyX1_ok nmX1 hown hK.1 hP hD hS 0 rfl rfl 0 (by decide) (hts _ fl_X1_7) (fun _ h9 => h9) rfl hnm rfl (tyX1_ok 0 (by decide)) rfl rfl (Nat.le_of_ble_eq_true rfl) dX1_init_6 (fun H locs hP hD hS => ?_)
  have hP : va_P D vwCl [(h0, .inr (1, [.ref a, .null]))] H := hP
  have hD : va_D A [(h0, .inr (1, [.ref a, .null]))] := hD
  refine lv_aload_n hx hb dX1_init_9 rfl (lv_at hl 0 rfl) ?_
  refine lv_aload_n hx hb dX1_init_10 rfl (lv_at hl 2 rfl) ?_
  refine va_putF (D := D) (ci := 1) (v := .ref y) (ty := tyX1 1) (C := RX1) (T := TX1) (N := 2) hx hb hts lay_X1 tyX1 tyX1_ok nmX1 hown hK.1 hP hD hS 0 rfl rfl 1 (by decide) (hts _ fl_X1_13) (fun _ h9 => h9) rfl hnm rfl (tyX1_ok 1 (by decide)) rfl rfl (Nat.le_of_ble_eq_true rfl) dX1_init_11 (fun H locs hP hD hS => ?_)
  have hP : va_P D vwCl [(h0, .inr (1, [.ref a, .ref y]))] H := hP
  have hD : va_D A [(h0, .inr (1, [.ref a, .ref y]))] := hD
  exact ret_v hx hb hr hlocks ⟨⟨hS.1, hS.2.1⟩, (), rfl, hP.sub [0] rfl, hD.sub [0] (by decide) rfl⟩ hS.2.2 (Nat.le_of_ble_eq_true rfl) (Nat.le_of_ble_eq_true rfl) dX1_init_14
theorem rgi_T1 {f : Nat → Int32} (h9 : 0 ≤ (f 9).toInt ∧ (f 9).toInt ≤ 1600) : ∀ k, Rgi 1 k (f k) := by
  intro k
  by_cases e9 : k = 9
  · subst e9; exact h9
  unfold Rgi
  split <;> first | trivial | (exfalso; omega) | (exfalso; simp_all)
theorem rgr_T1 {τ len : Nat → Nat} {f : Nat → Option Nat} (h0 : ∃ q, f 0 = some q ∧ τ q = 20 ∧ len q = 1600) (h1 : ∃ q, f 1 = some q ∧ τ q = 2) (h2 : ∃ q, f 2 = some q ∧ τ q = 3) (h3 : ∃ q, f 3 = some q ∧ τ q = 4) (h4 : ∃ q, f 4 = some q ∧ τ q = 5) (h5 : ∃ q, f 5 = some q ∧ τ q = 6) (h6 : ∃ q, f 6 = some q ∧ τ q = 25) (h7 : ∃ q, f 7 = some q ∧ τ q = 23) (h8 : ∃ q, f 8 = some q ∧ τ q = 24) (h10 : ∃ q, f 10 = some q ∧ τ q = 7) (h11 : f 11 = none ∨ ∃ q, f 11 = some q ∧ τ q = 25) : ∀ k, Rgr τ len 1 k (f k) := by
  intro k
  by_cases e0 : k = 0
  · subst e0; exact h0
  by_cases e1 : k = 1
  · subst e1; exact h1
  by_cases e2 : k = 2
  · subst e2; exact h2
  by_cases e3 : k = 3
  · subst e3; exact h3
  by_cases e4 : k = 4
  · subst e4; exact h4
  by_cases e5 : k = 5
  · subst e5; exact h5
  by_cases e6 : k = 6
  · subst e6; exact h6
  by_cases e7 : k = 7
  · subst e7; exact h7
  by_cases e8 : k = 8
  · subst e8; exact h8
  by_cases e10 : k = 10
  · subst e10; exact h10
  by_cases e11 : k = 11
  · subst e11; exact h11
  unfold Rgr
  split <;> first | trivial | (exfalso; omega) | (exfalso; simp_all)
theorem rgi_T2 {f : Nat → Int32} (h3 : 0 ≤ (f 3).toInt ∧ (f 3).toInt ≤ 1600) : ∀ k, Rgi 2 k (f k) := by
  intro k
  by_cases e3 : k = 3
  · subst e3; exact h3
  unfold Rgi
  split <;> first | trivial | (exfalso; omega) | (exfalso; simp_all)
theorem rgr_T2 {τ len : Nat → Nat} {f : Nat → Option Nat} (h2 : ∃ q, f 2 = some q ∧ τ q = 20) (h8 : ∃ q, f 8 = some q ∧ τ q = 7) : ∀ k, Rgr τ len 2 k (f k) := by
  intro k
  by_cases e2 : k = 2
  · subst e2; exact h2
  by_cases e8 : k = 8
  · subst e8; exact h8
  unfold Rgr
  split <;> first | trivial | (exfalso; omega) | (exfalso; simp_all)
theorem rgi_T3 {f : Nat → Int32} (h2 : 0 ≤ (f 2).toInt ∧ (f 2).toInt ≤ 1080) : ∀ k, Rgi 3 k (f k) := by
  intro k
  by_cases e2 : k = 2
  · subst e2; exact h2
  unfold Rgi
  split <;> first | trivial | (exfalso; omega) | (exfalso; simp_all)
theorem rgr_T3 {τ len : Nat → Nat} {f : Nat → Option Nat} (h0 : ∃ q, f 0 = some q ∧ τ q = 8) (h1 : ∃ q, f 1 = some q ∧ τ q = 36) (h3 : ∃ q, f 3 = some q ∧ τ q = 37) (h4 : ∃ q, f 4 = some q ∧ τ q = 38) : ∀ k, Rgr τ len 3 k (f k) := by
  intro k
  by_cases e0 : k = 0
  · subst e0; exact h0
  by_cases e1 : k = 1
  · subst e1; exact h1
  by_cases e3 : k = 3
  · subst e3; exact h3
  by_cases e4 : k = 4
  · subst e4; exact h4
  unfold Rgr
  split <;> first | trivial | (exfalso; omega) | (exfalso; simp_all)
theorem rgi_T4 {f : Nat → Int32} (h6 : 0 ≤ (f 6).toInt ∧ (f 6).toInt ≤ 600) (h7 : -1 ≤ (f 7).toInt ∧ (f 7).toInt ≤ 600) (h8 : 1 ≤ (f 8).toInt ∧ (f 8).toInt ≤ 50) : ∀ k, Rgi 4 k (f k) := by
  intro k
  by_cases e6 : k = 6
  · subst e6; exact h6
  by_cases e7 : k = 7
  · subst e7; exact h7
  by_cases e8 : k = 8
  · subst e8; exact h8
  unfold Rgi
  split <;> first | trivial | (exfalso; omega) | (exfalso; simp_all)
theorem rgr_T4 {τ len : Nat → Nat} {f : Nat → Option Nat} (h0 : ∃ q, f 0 = some q ∧ τ q = 30) (h1 : ∃ q, f 1 = some q ∧ τ q = 30) (h2 : ∃ q, f 2 = some q ∧ τ q = 31) (h3 : ∃ q, f 3 = some q ∧ τ q = 7) : ∀ k, Rgr τ len 4 k (f k) := by
  intro k
  by_cases e0 : k = 0
  · subst e0; exact h0
  by_cases e1 : k = 1
  · subst e1; exact h1
  by_cases e2 : k = 2
  · subst e2; exact h2
  by_cases e3 : k = 3
  · subst e3; exact h3
  unfold Rgr
  split <;> first | trivial | (exfalso; omega) | (exfalso; simp_all)
theorem rgi_T5 {f : Nat → Int32} : ∀ k, Rgi 5 k (f k) := by
  intro k
  unfold Rgi
  split <;> first | trivial | (exfalso; omega) | (exfalso; simp_all)
theorem rgr_T5 {τ len : Nat → Nat} {f : Nat → Option Nat} (h0 : ∃ q, f 0 = some q ∧ τ q = 39) : ∀ k, Rgr τ len 5 k (f k) := by
  intro k
  by_cases e0 : k = 0
  · subst e0; exact h0
  unfold Rgr
  split <;> first | trivial | (exfalso; omega) | (exfalso; simp_all)
theorem rgi_T6 {f : Nat → Int32} : ∀ k, Rgi 6 k (f k) := by
  intro k
  unfold Rgi
  split <;> first | trivial | (exfalso; omega) | (exfalso; simp_all)
theorem rgr_T6 {τ len : Nat → Nat} {f : Nat → Option Nat} : ∀ k, Rgr τ len 6 k (f k) := by
  intro k
  unfold Rgr
  split <;> first | trivial | (exfalso; omega) | (exfalso; simp_all)
theorem rgi_T7 {f : Nat → Int32} (h1 : 0 ≤ (f 1).toInt ∧ (f 1).toInt ≤ 60) (h5 : 0 ≤ (f 5).toInt ∧ (f 5).toInt ≤ 3) (h6 : 0 ≤ (f 6).toInt ∧ (f 6).toInt ≤ 6) (h8 : 1 ≤ (f 8).toInt ∧ (f 8).toInt ≤ 9) (h9 : 1 ≤ (f 9).toInt ∧ (f 9).toInt ≤ 50) : ∀ k, Rgi 7 k (f k) := by
  intro k
  by_cases e1 : k = 1
  · subst e1; exact h1
  by_cases e5 : k = 5
  · subst e5; exact h5
  by_cases e6 : k = 6
  · subst e6; exact h6
  by_cases e8 : k = 8
  · subst e8; exact h8
  by_cases e9 : k = 9
  · subst e9; exact h9
  unfold Rgi
  split <;> first | trivial | (exfalso; omega) | (exfalso; simp_all)
theorem rgr_T7 {τ len : Nat → Nat} {f : Nat → Option Nat} (h14 : ∃ q, f 14 = some q ∧ τ q = 26) (h15 : ∃ q, f 15 = some q ∧ τ q = 26) (h16 : ∃ q, f 16 = some q ∧ τ q = 26) (h17 : ∃ q, f 17 = some q ∧ τ q = 27) (h18 : ∃ q, f 18 = some q ∧ τ q = 27) (h19 : ∃ q, f 19 = some q ∧ τ q = 28) (h20 : ∃ q, f 20 = some q ∧ τ q = 29) : ∀ k, Rgr τ len 7 k (f k) := by
  intro k
  by_cases e14 : k = 14
  · subst e14; exact h14
  by_cases e15 : k = 15
  · subst e15; exact h15
  by_cases e16 : k = 16
  · subst e16; exact h16
  by_cases e17 : k = 17
  · subst e17; exact h17
  by_cases e18 : k = 18
  · subst e18; exact h18
  by_cases e19 : k = 19
  · subst e19; exact h19
  by_cases e20 : k = 20
  · subst e20; exact h20
  unfold Rgr
  split <;> first | trivial | (exfalso; omega) | (exfalso; simp_all)
theorem rgi_T8 {f : Nat → Int32} : ∀ k, Rgi 8 k (f k) := by
  intro k
  unfold Rgi
  split <;> first | trivial | (exfalso; omega) | (exfalso; simp_all)
theorem rgr_T8 {τ len : Nat → Nat} {f : Nat → Option Nat} (h0 : ∃ q, f 0 = some q ∧ τ q = 32) (h1 : ∃ q, f 1 = some q ∧ τ q = 33) (h2 : ∃ q, f 2 = some q ∧ τ q = 34) (h3 : ∃ q, f 3 = some q ∧ τ q = 34) (h4 : ∃ q, f 4 = some q ∧ τ q = 35) (h5 : ∃ q, f 5 = some q ∧ τ q = 35) (h6 : ∃ q, f 6 = some q ∧ τ q = 35) : ∀ k, Rgr τ len 8 k (f k) := by
  intro k
  by_cases e0 : k = 0
  · subst e0; exact h0
  by_cases e1 : k = 1
  · subst e1; exact h1
  by_cases e2 : k = 2
  · subst e2; exact h2
  by_cases e3 : k = 3
  · subst e3; exact h3
  by_cases e4 : k = 4
  · subst e4; exact h4
  by_cases e5 : k = 5
  · subst e5; exact h5
  by_cases e6 : k = 6
  · subst e6; exact h6
  unfold Rgr
  split <;> first | trivial | (exfalso; omega) | (exfalso; simp_all)
theorem rgi_T9 {f : Nat → Int32} : ∀ k, Rgi 9 k (f k) := by
  intro k
  unfold Rgi
  split <;> first | trivial | (exfalso; omega) | (exfalso; simp_all)
theorem rgr_T9 {τ len : Nat → Nat} {f : Nat → Option Nat} (h1 : ∃ q, f 1 = some q ∧ τ q = 40) : ∀ k, Rgr τ len 9 k (f k) := by
  intro k
  by_cases e1 : k = 1
  · subst e1; exact h1
  unfold Rgr
  split <;> first | trivial | (exfalso; omega) | (exfalso; simp_all)
theorem rgi_T10 {f : Nat → Int32} : ∀ k, Rgi 10 k (f k) := by
  intro k
  unfold Rgi
  split <;> first | trivial | (exfalso; omega) | (exfalso; simp_all)
theorem rgr_T10 {τ len : Nat → Nat} {f : Nat → Option Nat} (h0 : ∃ q, f 0 = some q ∧ τ q = 7) (h1 : f 1 = none ∨ ∃ q, f 1 = some q ∧ τ q = 25) : ∀ k, Rgr τ len 10 k (f k) := by
  intro k
  by_cases e0 : k = 0
  · subst e0; exact h0
  by_cases e1 : k = 1
  · subst e1; exact h1
  unfold Rgr
  split <;> first | trivial | (exfalso; omega) | (exfalso; simp_all)
theorem rgi_T11 {f : Nat → Int32} (h6 : 0 ≤ (f 6).toInt ∧ (f 6).toInt ≤ 1600) (h7 : 0 ≤ (f 7).toInt ∧ (f 7).toInt ≤ 1600) : ∀ k, Rgi 11 k (f k) := by
  intro k
  by_cases e6 : k = 6
  · subst e6; exact h6
  by_cases e7 : k = 7
  · subst e7; exact h7
  unfold Rgi
  split <;> first | trivial | (exfalso; omega) | (exfalso; simp_all)
theorem rgr_T11 {τ len : Nat → Nat} {f : Nat → Option Nat} (h1 : ∃ q, f 1 = some q ∧ τ q = 51) (h2 : ∃ q, f 2 = some q ∧ τ q = 52) (h3 : ∃ q, f 3 = some q ∧ τ q = 53) (h4 : ∃ q, f 4 = some q ∧ τ q = 54) (h5 : ∃ q, f 5 = some q ∧ τ q = 55) (h16 : ∃ q, f 16 = some q ∧ τ q = 66) (h17 : ∃ q, f 17 = some q ∧ τ q = 67) (h18 : ∃ q, f 18 = some q ∧ τ q = 68) (h19 : ∃ q, f 19 = some q ∧ τ q = 69) (h20 : ∃ q, f 20 = some q ∧ τ q = 70) (h21 : ∃ q, f 21 = some q ∧ τ q = 71) (h22 : ∃ q, f 22 = some q ∧ τ q = 72) (h23 : ∃ q, f 23 = some q ∧ τ q = 73) (h24 : ∃ q, f 24 = some q ∧ τ q = 74) (h25 : ∃ q, f 25 = some q ∧ τ q = 75) (h26 : ∃ q, f 26 = some q ∧ τ q = 76) (h27 : ∃ q, f 27 = some q ∧ τ q = 77) (h28 : ∃ q, f 28 = some q ∧ τ q = 78) (h29 : ∃ q, f 29 = some q ∧ τ q = 79) (h30 : ∃ q, f 30 = some q ∧ τ q = 80) (h31 : ∃ q, f 31 = some q ∧ τ q = 81) (h32 : ∃ q, f 32 = some q ∧ τ q = 82) (h33 : ∃ q, f 33 = some q ∧ τ q = 83) (h34 : ∃ q, f 34 = some q ∧ τ q = 84) (h35 : ∃ q, f 35 = some q ∧ τ q = 85) (h36 : ∃ q, f 36 = some q ∧ τ q = 86) (h37 : ∃ q, f 37 = some q ∧ τ q = 87) (h38 : ∃ q, f 38 = some q ∧ τ q = 88) (h39 : ∃ q, f 39 = some q ∧ τ q = 89) (h40 : ∃ q, f 40 = some q ∧ τ q = 90) (h41 : ∃ q, f 41 = some q ∧ τ q = 91) : ∀ k, Rgr τ len 11 k (f k) := by
  intro k
  by_cases e1 : k = 1
  · subst e1; exact h1
  by_cases e2 : k = 2
  · subst e2; exact h2
  by_cases e3 : k = 3
  · subst e3; exact h3
  by_cases e4 : k = 4
  · subst e4; exact h4
  by_cases e5 : k = 5
  · subst e5; exact h5
  by_cases e16 : k = 16
  · subst e16; exact h16
  by_cases e17 : k = 17
  · subst e17; exact h17
  by_cases e18 : k = 18
  · subst e18; exact h18
  by_cases e19 : k = 19
  · subst e19; exact h19
  by_cases e20 : k = 20
  · subst e20; exact h20
  by_cases e21 : k = 21
  · subst e21; exact h21
  by_cases e22 : k = 22
  · subst e22; exact h22
  by_cases e23 : k = 23
  · subst e23; exact h23
  by_cases e24 : k = 24
  · subst e24; exact h24
  by_cases e25 : k = 25
  · subst e25; exact h25
  by_cases e26 : k = 26
  · subst e26; exact h26
  by_cases e27 : k = 27
  · subst e27; exact h27
  by_cases e28 : k = 28
  · subst e28; exact h28
  by_cases e29 : k = 29
  · subst e29; exact h29
  by_cases e30 : k = 30
  · subst e30; exact h30
  by_cases e31 : k = 31
  · subst e31; exact h31
  by_cases e32 : k = 32
  · subst e32; exact h32
  by_cases e33 : k = 33
  · subst e33; exact h33
  by_cases e34 : k = 34
  · subst e34; exact h34
  by_cases e35 : k = 35
  · subst e35; exact h35
  by_cases e36 : k = 36
  · subst e36; exact h36
  by_cases e37 : k = 37
  · subst e37; exact h37
  by_cases e38 : k = 38
  · subst e38; exact h38
  by_cases e39 : k = 39
  · subst e39; exact h39
  by_cases e40 : k = 40
  · subst e40; exact h40
  by_cases e41 : k = 41
  · subst e41; exact h41
  unfold Rgr
  split <;> first | trivial | (exfalso; omega) | (exfalso; simp_all)
theorem rgi_A20 : ∀ k, Rgi 20 k 0 := fun k => by trivial
theorem rgr_A20 {τ len : Nat → Nat} : ∀ k, Rgr τ len 20 k none := fun k => by trivial
theorem rgi_A23 : ∀ k, Rgi 23 k 0 := fun k => by trivial
theorem rgr_A23 {τ len : Nat → Nat} : ∀ k, Rgr τ len 23 k none := fun k => by exact Or.inl rfl
theorem rgi_A24 : ∀ k, Rgi 24 k 0 := fun k => by trivial
theorem rgr_A24 {τ len : Nat → Nat} : ∀ k, Rgr τ len 24 k none := fun k => by exact Or.inl rfl
theorem rgi_A25 : ∀ k, Rgi 25 k 0 := fun k => by trivial
theorem rgr_A25 {τ len : Nat → Nat} : ∀ k, Rgr τ len 25 k none := fun k => by trivial
theorem rgi_A26 : ∀ k, Rgi 26 k 0 := fun k => by trivial
theorem rgr_A26 {τ len : Nat → Nat} : ∀ k, Rgr τ len 26 k none := fun k => by trivial
theorem rgi_A27 : ∀ k, Rgi 27 k 0 := fun k => by trivial
theorem rgr_A27 {τ len : Nat → Nat} : ∀ k, Rgr τ len 27 k none := fun k => by trivial
theorem rgi_A28 : ∀ k, Rgi 28 k 0 := fun k => by trivial
theorem rgr_A28 {τ len : Nat → Nat} : ∀ k, Rgr τ len 28 k none := fun k => by trivial
theorem rgi_A29 : ∀ k, Rgi 29 k 0 := fun k => by trivial
theorem rgr_A29 {τ len : Nat → Nat} : ∀ k, Rgr τ len 29 k none := fun k => by trivial
theorem rgi_A30 : ∀ k, Rgi 30 k 0 := fun k => by trivial
theorem rgr_A30 {τ len : Nat → Nat} : ∀ k, Rgr τ len 30 k none := fun k => by trivial
theorem rgi_A31 : ∀ k, Rgi 31 k 0 := fun k => by trivial
theorem rgr_A31 {τ len : Nat → Nat} : ∀ k, Rgr τ len 31 k none := fun k => by trivial
theorem rgi_A32 : ∀ k, Rgi 32 k 0 := fun k => by trivial
theorem rgr_A32 {τ len : Nat → Nat} : ∀ k, Rgr τ len 32 k none := fun k => by trivial
theorem rgi_A33 : ∀ k, Rgi 33 k 0 := fun k => by trivial
theorem rgr_A33 {τ len : Nat → Nat} : ∀ k, Rgr τ len 33 k none := fun k => by trivial
theorem rgi_A34 : ∀ k, Rgi 34 k 0 := fun k => by trivial
theorem rgr_A34 {τ len : Nat → Nat} : ∀ k, Rgr τ len 34 k none := fun k => by trivial
theorem rgi_A35 : ∀ k, Rgi 35 k 0 := fun k => by trivial
theorem rgr_A35 {τ len : Nat → Nat} : ∀ k, Rgr τ len 35 k none := fun k => by trivial
theorem rgi_A36 : ∀ k, Rgi 36 k 0 := fun k => by trivial
theorem rgr_A36 {τ len : Nat → Nat} : ∀ k, Rgr τ len 36 k none := fun k => by trivial
theorem rgi_A37 : ∀ k, Rgi 37 k 0 := fun k => by trivial
theorem rgr_A37 {τ len : Nat → Nat} : ∀ k, Rgr τ len 37 k none := fun k => by trivial
theorem rgi_A38 : ∀ k, Rgi 38 k 0 := fun k => by trivial
theorem rgr_A38 {τ len : Nat → Nat} : ∀ k, Rgr τ len 38 k none := fun k => by trivial
theorem rgi_A39 : ∀ k, Rgi 39 k 0 := fun k => by exact ⟨by decide, by decide⟩
theorem rgr_A39 {τ len : Nat → Nat} : ∀ k, Rgr τ len 39 k none := fun k => by trivial
theorem rgi_A40 : ∀ k, Rgi 40 k 0 := fun k => by trivial
theorem rgr_A40 {τ len : Nat → Nat} : ∀ k, Rgr τ len 40 k none := fun k => by trivial
theorem rgi_A51 : ∀ k, Rgi 51 k 0 := fun k => by exact ⟨by decide, by decide⟩
theorem rgr_A51 {τ len : Nat → Nat} : ∀ k, Rgr τ len 51 k none := fun k => by trivial
theorem rgi_A52 : ∀ k, Rgi 52 k 0 := fun k => by exact ⟨by decide, by decide⟩
theorem rgr_A52 {τ len : Nat → Nat} : ∀ k, Rgr τ len 52 k none := fun k => by trivial
theorem rgi_A53 : ∀ k, Rgi 53 k 0 := fun k => by trivial
theorem rgr_A53 {τ len : Nat → Nat} : ∀ k, Rgr τ len 53 k none := fun k => by trivial
theorem rgi_A54 : ∀ k, Rgi 54 k 0 := fun k => by trivial
theorem rgr_A54 {τ len : Nat → Nat} : ∀ k, Rgr τ len 54 k none := fun k => by trivial
theorem rgi_A55 : ∀ k, Rgi 55 k 0 := fun k => by trivial
theorem rgr_A55 {τ len : Nat → Nat} : ∀ k, Rgr τ len 55 k none := fun k => by trivial
theorem rgi_A66 : ∀ k, Rgi 66 k 0 := fun k => by trivial
theorem rgr_A66 {τ len : Nat → Nat} : ∀ k, Rgr τ len 66 k none := fun k => by trivial
theorem rgi_A67 : ∀ k, Rgi 67 k 0 := fun k => by exact fun _ => ⟨by decide, by decide⟩
theorem rgr_A67 {τ len : Nat → Nat} : ∀ k, Rgr τ len 67 k none := fun k => by trivial
theorem rgi_A68 : ∀ k, Rgi 68 k 0 := fun k => by exact ⟨by decide, by decide⟩
theorem rgr_A68 {τ len : Nat → Nat} : ∀ k, Rgr τ len 68 k none := fun k => by trivial
theorem rgi_A69 : ∀ k, Rgi 69 k 0 := fun k => by trivial
theorem rgr_A69 {τ len : Nat → Nat} : ∀ k, Rgr τ len 69 k none := fun k => by trivial
theorem rgi_A70 : ∀ k, Rgi 70 k 0 := fun k => by exact ⟨by decide, by decide⟩
theorem rgr_A70 {τ len : Nat → Nat} : ∀ k, Rgr τ len 70 k none := fun k => by trivial
theorem rgi_A71 : ∀ k, Rgi 71 k 0 := fun k => by exact ⟨fun _ => ⟨by decide, by decide⟩, fun _ => ⟨by decide, by decide⟩, fun _ => ⟨by decide, by decide⟩, fun _ => ⟨by decide, by decide⟩⟩
theorem rgr_A71 {τ len : Nat → Nat} : ∀ k, Rgr τ len 71 k none := fun k => by trivial
theorem rgi_A72 : ∀ k, Rgi 72 k 0 := fun k => by exact ⟨by decide, by decide⟩
theorem rgr_A72 {τ len : Nat → Nat} : ∀ k, Rgr τ len 72 k none := fun k => by trivial
theorem rgi_A73 : ∀ k, Rgi 73 k 0 := fun k => by trivial
theorem rgr_A73 {τ len : Nat → Nat} : ∀ k, Rgr τ len 73 k none := fun k => by trivial
theorem rgi_A74 : ∀ k, Rgi 74 k 0 := fun k => by exact ⟨fun _ => ⟨by decide, by decide⟩, fun _ => ⟨by decide, by decide⟩, fun _ => ⟨by decide, by decide⟩⟩
theorem rgr_A74 {τ len : Nat → Nat} : ∀ k, Rgr τ len 74 k none := fun k => by trivial
theorem rgi_A75 : ∀ k, Rgi 75 k 0 := fun k => by trivial
theorem rgr_A75 {τ len : Nat → Nat} : ∀ k, Rgr τ len 75 k none := fun k => by trivial
theorem rgi_A76 : ∀ k, Rgi 76 k 0 := fun k => by trivial
theorem rgr_A76 {τ len : Nat → Nat} : ∀ k, Rgr τ len 76 k none := fun k => by trivial
theorem rgi_A77 : ∀ k, Rgi 77 k 0 := fun k => by trivial
theorem rgr_A77 {τ len : Nat → Nat} : ∀ k, Rgr τ len 77 k none := fun k => by trivial
theorem rgi_A78 : ∀ k, Rgi 78 k 0 := fun k => by trivial
theorem rgr_A78 {τ len : Nat → Nat} : ∀ k, Rgr τ len 78 k none := fun k => by trivial
theorem rgi_A79 : ∀ k, Rgi 79 k 0 := fun k => by trivial
theorem rgr_A79 {τ len : Nat → Nat} : ∀ k, Rgr τ len 79 k none := fun k => by trivial
theorem rgi_A80 : ∀ k, Rgi 80 k 0 := fun k => by trivial
theorem rgr_A80 {τ len : Nat → Nat} : ∀ k, Rgr τ len 80 k none := fun k => by trivial
theorem rgi_A81 : ∀ k, Rgi 81 k 0 := fun k => by trivial
theorem rgr_A81 {τ len : Nat → Nat} : ∀ k, Rgr τ len 81 k none := fun k => by trivial
theorem rgi_A82 : ∀ k, Rgi 82 k 0 := fun k => by trivial
theorem rgr_A82 {τ len : Nat → Nat} : ∀ k, Rgr τ len 82 k none := fun k => by trivial
theorem rgi_A83 : ∀ k, Rgi 83 k 0 := fun k => by trivial
theorem rgr_A83 {τ len : Nat → Nat} : ∀ k, Rgr τ len 83 k none := fun k => by trivial
theorem rgi_A84 : ∀ k, Rgi 84 k 0 := fun k => by trivial
theorem rgr_A84 {τ len : Nat → Nat} : ∀ k, Rgr τ len 84 k none := fun k => by trivial
theorem rgi_A85 : ∀ k, Rgi 85 k 0 := fun k => by trivial
theorem rgr_A85 {τ len : Nat → Nat} : ∀ k, Rgr τ len 85 k none := fun k => by trivial
theorem rgi_A86 : ∀ k, Rgi 86 k 0 := fun k => by trivial
theorem rgr_A86 {τ len : Nat → Nat} : ∀ k, Rgr τ len 86 k none := fun k => by trivial
theorem rgi_A87 : ∀ k, Rgi 87 k 0 := fun k => by trivial
theorem rgr_A87 {τ len : Nat → Nat} : ∀ k, Rgr τ len 87 k none := fun k => by trivial
theorem rgi_A88 : ∀ k, Rgi 88 k 0 := fun k => by trivial
theorem rgr_A88 {τ len : Nat → Nat} : ∀ k, Rgr τ len 88 k none := fun k => by trivial
theorem rgi_A89 : ∀ k, Rgi 89 k 0 := fun k => by trivial
theorem rgr_A89 {τ len : Nat → Nat} : ∀ k, Rgr τ len 89 k none := fun k => by trivial
theorem rgi_A90 : ∀ k, Rgi 90 k 0 := fun k => by exact ⟨by decide, by decide⟩
theorem rgr_A90 {τ len : Nat → Nat} : ∀ k, Rgr τ len 90 k none := fun k => by trivial
theorem rgi_A91 : ∀ k, Rgi 91 k 0 := fun k => by trivial
theorem rgr_A91 {τ len : Nat → Nat} : ∀ k, Rgr τ len 91 k none := fun k => by trivial
set_option maxHeartbeats 4000000 in
theorem ab_X2 {D : va_G} {cy : Nat → ClassId} {base : Nat} {τ : Nat → Nat} {G : Gh} {H : Heap} {q : Nat} {u : (Nat → Nat) × (Nat → Nat → Int32) × (Nat → Nat → Int64) × (Nat → Int32)} (h : TYR D cy base τ G [(q, .inr (2, [.int 0, .int 0, .int 0, .int 0, .int 0, .int 0, .int 0, .int 0, .int 1, .int 10, .int 0, .int 0, .int 0, .int 0, .ref (u.1 0), .ref (u.1 1), .ref (u.1 2), .ref (u.1 3), .ref (u.1 4), .ref (u.1 5), .ref (u.1 6)])), ((u.1 0), .inl (cy 1, 3, .inl (fun _ => 0))), ((u.1 1), .inl (cy 1, 3, .inl (fun _ => 0))), ((u.1 2), .inl (cy 1, 3, .inl (fun _ => 0))), ((u.1 3), .inl (cy 1, 6, .inl (fun _ => 0))), ((u.1 4), .inl (cy 1, 6, .inl (fun _ => 0))), ((u.1 5), .inl (cy 1, 18, .inl (fun _ => 0))), ((u.1 6), .inl (cy 1, 36, .inl (fun _ => 0)))] H) : ∃ (τ1 : Nat → Nat) (G1 : Gh), EX τ τ1 ∧ Fr τ [] G G1 ∧ τ1 q = 7 ∧ τ q = 0 ∧ TY D cy base τ1 G1 H := by
  obtain ⟨τ1, G1, h1, h2, h3, h4⟩ := h.absorb [(q, 7, (fun k => match k with | 8 => 1 | 9 => 10 | _ => 0), (fun _ => 0), (fun k => match k with | 14 => some (u.1 0) | 15 => some (u.1 1) | 16 => some (u.1 2) | 17 => some (u.1 3) | 18 => some (u.1 4) | 19 => some (u.1 5) | 20 => some (u.1 6) | _ => none), 0), ((u.1 0), 26, (fun _ => 0), (fun _ => 0), (fun _ => none), 3), ((u.1 1), 26, (fun _ => 0), (fun _ => 0), (fun _ => none), 3), ((u.1 2), 26, (fun _ => 0), (fun _ => 0), (fun _ => none), 3), ((u.1 3), 27, (fun _ => 0), (fun _ => 0), (fun _ => none), 6), ((u.1 4), 27, (fun _ => 0), (fun _ => 0), (fun _ => none), 6), ((u.1 5), 28, (fun _ => 0), (fun _ => 0), (fun _ => none), 18), ((u.1 6), 29, (fun _ => 0), (fun _ => 0), (fun _ => none), 36)] rfl (by
      intro x hx; simp only [List.mem_cons, List.not_mem_nil, or_false] at hx; rcases hx with rfl | rfl | rfl | rfl | rfl | rfl | rfl | rfl
      · exact (show (7 : Nat) ≠ 0 by decide)
      · exact (show (26 : Nat) ≠ 0 by decide)
      · exact (show (26 : Nat) ≠ 0 by decide)
      · exact (show (26 : Nat) ≠ 0 by decide)
      · exact (show (27 : Nat) ≠ 0 by decide)
      · exact (show (27 : Nat) ≠ 0 by decide)
      · exact (show (28 : Nat) ≠ 0 by decide)
      · exact (show (29 : Nat) ≠ 0 by decide)
      ) (by
      intro x hx; simp only [List.mem_cons, List.not_mem_nil, or_false] at hx; rcases hx with rfl | rfl | rfl | rfl | rfl | rfl | rfl | rfl
      · exact rgi_T7 (show 0 ≤ (0 : Int32).toInt ∧ (0 : Int32).toInt ≤ 60 by decide) (show 0 ≤ (0 : Int32).toInt ∧ (0 : Int32).toInt ≤ 3 by decide) (show 0 ≤ (0 : Int32).toInt ∧ (0 : Int32).toInt ≤ 6 by decide) (show 1 ≤ (1 : Int32).toInt ∧ (1 : Int32).toInt ≤ 9 by decide) (show 1 ≤ (10 : Int32).toInt ∧ (10 : Int32).toInt ≤ 50 by decide)
      · exact rgi_A26
      · exact rgi_A26
      · exact rgi_A26
      · exact rgi_A27
      · exact rgi_A27
      · exact rgi_A28
      · exact rgi_A29
      ) (by
      intro x hx; simp only [List.mem_cons, List.not_mem_nil, or_false] at hx; rcases hx with rfl | rfl | rfl | rfl | rfl | rfl | rfl | rfl
      · trivial
      · rfl
      · rfl
      · rfl
      · rfl
      · rfl
      · rfl
      · rfl
      ) (by
      intro τ2 ln2 hm hn
      intro x hx; simp only [List.mem_cons, List.not_mem_nil, or_false] at hx; rcases hx with rfl | rfl | rfl | rfl | rfl | rfl | rfl | rfl
      · exact rgr_T7 ⟨_, rfl, (hn _ (List.mem_of_getElem? (i := 1) rfl)).1⟩ ⟨_, rfl, (hn _ (List.mem_of_getElem? (i := 2) rfl)).1⟩ ⟨_, rfl, (hn _ (List.mem_of_getElem? (i := 3) rfl)).1⟩ ⟨_, rfl, (hn _ (List.mem_of_getElem? (i := 4) rfl)).1⟩ ⟨_, rfl, (hn _ (List.mem_of_getElem? (i := 5) rfl)).1⟩ ⟨_, rfl, (hn _ (List.mem_of_getElem? (i := 6) rfl)).1⟩ ⟨_, rfl, (hn _ (List.mem_of_getElem? (i := 7) rfl)).1⟩
      · exact rgr_A26
      · exact rgr_A26
      · exact rgr_A26
      · exact rgr_A27
      · exact rgr_A27
      · exact rgr_A28
      · exact rgr_A29
      )
  exact ⟨τ1, G1, EX.of h1 rfl, h2, (h3 _ (List.mem_of_getElem? (i := 0) rfl)).1, (h3 _ (List.mem_of_getElem? (i := 0) rfl)).2.2.2.2.2, h4⟩
set_option maxHeartbeats 4000000 in
theorem ab_X6 {D : va_G} {cy : Nat → ClassId} {base : Nat} {τ : Nat → Nat} {G : Gh} {H : Heap} {q : Nat} {w n : Int32} (hn : n.toInt ≤ 60) {u : (Nat → Nat) × (Nat → Nat → Int32) × (Nat → Nat → Int64) × (Nat → Int32)} (h : TYR D cy base τ G [(q, .inr (6, [.int w, .ref (u.1 0)])), ((u.1 0), .inl (cy 2, n.toInt.toNat, .inr (.inl (fun _ => 0))))] H) : ∃ (τ1 : Nat → Nat) (G1 : Gh), EX τ τ1 ∧ Fr τ [] G G1 ∧ τ1 q = 9 ∧ τ q = 0 ∧ G1.1 q 0 = w ∧ ∃ y, G1.2.2.1 q 1 = some y ∧ τ1 y = 40 ∧ G1.2.2.2 y = n.toInt.toNat ∧ TY D cy base τ1 G1 H := by
  obtain ⟨τ1, G1, h1, h2, h3, h4⟩ := h.absorb [(q, 9, (fun k => match k with | 0 => w | _ => 0), (fun _ => 0), (fun k => match k with | 1 => some (u.1 0) | _ => none), 0), ((u.1 0), 40, (fun _ => 0), (fun _ => 0), (fun _ => none), n.toInt.toNat)] rfl (by
      intro x hx; simp only [List.mem_cons, List.not_mem_nil, or_false] at hx; rcases hx with rfl | rfl
      · exact (show (9 : Nat) ≠ 0 by decide)
      · exact (show (40 : Nat) ≠ 0 by decide)
      ) (by
      intro x hx; simp only [List.mem_cons, List.not_mem_nil, or_false] at hx; rcases hx with rfl | rfl
      · exact rgi_T9
      · exact rgi_A40
      ) (by
      intro x hx; simp only [List.mem_cons, List.not_mem_nil, or_false] at hx; rcases hx with rfl | rfl
      · trivial
      · show n.toInt.toNat ≤ 60; omega
      ) (by
      intro τ2 ln2 hm hn
      intro x hx; simp only [List.mem_cons, List.not_mem_nil, or_false] at hx; rcases hx with rfl | rfl
      · exact rgr_T9 ⟨_, rfl, (hn _ (List.mem_of_getElem? (i := 1) rfl)).1⟩
      · exact rgr_A40
      )
  exact ⟨τ1, G1, EX.of h1 rfl, h2, (h3 _ (List.mem_of_getElem? (i := 0) rfl)).1, (h3 _ (List.mem_of_getElem? (i := 0) rfl)).2.2.2.2.2, congrFun (h3 _ (List.mem_of_getElem? (i := 0) rfl)).2.1 0, _, congrFun (h3 _ (List.mem_of_getElem? (i := 0) rfl)).2.2.2.1 1, (h3 _ (List.mem_of_getElem? (i := 1) rfl)).1, (h3 _ (List.mem_of_getElem? (i := 1) rfl)).2.2.2.2.1, h4⟩
set_option maxHeartbeats 4000000 in
theorem ab_X1n {D : va_G} {cy : Nat → ClassId} {base : Nat} {τ : Nat → Nat} {G : Gh} {H : Heap} {q a : Nat} (h_a : τ a = 7) (h : TYR D cy base τ G [(q, .inr (1, [.ref a, .null]))] H) : ∃ (τ1 : Nat → Nat) (G1 : Gh), EX τ τ1 ∧ Fr τ [] G G1 ∧ τ1 q = 10 ∧ τ q = 0 ∧ TY D cy base τ1 G1 H := by
  obtain ⟨τ1, G1, h1, h2, h3, h4⟩ := h.absorb [(q, 10, (fun _ => 0), (fun _ => 0), (fun k => match k with | 0 => some a | _ => none), 0)] rfl (by
      intro x hx; simp only [List.mem_cons, List.not_mem_nil, or_false] at hx; rcases hx with rfl
      · exact (show (10 : Nat) ≠ 0 by decide)
      ) (by
      intro x hx; simp only [List.mem_cons, List.not_mem_nil, or_false] at hx; rcases hx with rfl
      · exact rgi_T10
      ) (by
      intro x hx; simp only [List.mem_cons, List.not_mem_nil, or_false] at hx; rcases hx with rfl
      · trivial
      ) (by
      intro τ2 ln2 hm hn
      intro x hx; simp only [List.mem_cons, List.not_mem_nil, or_false] at hx; rcases hx with rfl
      · exact rgr_T10 ⟨_, rfl, (hm _ (by rw [h_a]; decide)).1.trans h_a⟩ (Or.inl rfl)
      )
  exact ⟨τ1, G1, EX.of h1 rfl, h2, (h3 _ (List.mem_of_getElem? (i := 0) rfl)).1, (h3 _ (List.mem_of_getElem? (i := 0) rfl)).2.2.2.2.2, h4⟩
set_option maxHeartbeats 4000000 in
theorem ab_X1r {D : va_G} {cy : Nat → ClassId} {base : Nat} {τ : Nat → Nat} {G : Gh} {H : Heap} {q a y : Nat} (h_a : τ a = 7) (h_y : τ y = 25) (h : TYR D cy base τ G [(q, .inr (1, [.ref a, .ref y]))] H) : ∃ (τ1 : Nat → Nat) (G1 : Gh), EX τ τ1 ∧ Fr τ [] G G1 ∧ τ1 q = 10 ∧ τ q = 0 ∧ TY D cy base τ1 G1 H := by
  obtain ⟨τ1, G1, h1, h2, h3, h4⟩ := h.absorb [(q, 10, (fun _ => 0), (fun _ => 0), (fun k => match k with | 0 => some a | 1 => some y | _ => none), 0)] rfl (by
      intro x hx; simp only [List.mem_cons, List.not_mem_nil, or_false] at hx; rcases hx with rfl
      · exact (show (10 : Nat) ≠ 0 by decide)
      ) (by
      intro x hx; simp only [List.mem_cons, List.not_mem_nil, or_false] at hx; rcases hx with rfl
      · exact rgi_T10
      ) (by
      intro x hx; simp only [List.mem_cons, List.not_mem_nil, or_false] at hx; rcases hx with rfl
      · trivial
      ) (by
      intro τ2 ln2 hm hn
      intro x hx; simp only [List.mem_cons, List.not_mem_nil, or_false] at hx; rcases hx with rfl
      · exact rgr_T10 ⟨_, rfl, (hm _ (by rw [h_a]; decide)).1.trans h_a⟩ (Or.inr ⟨_, rfl, (hm _ (by rw [h_y]; decide)).1.trans h_y⟩)
      )
  exact ⟨τ1, G1, EX.of h1 rfl, h2, (h3 _ (List.mem_of_getElem? (i := 0) rfl)).1, (h3 _ (List.mem_of_getElem? (i := 0) rfl)).2.2.2.2.2, h4⟩
set_option maxHeartbeats 4000000 in
theorem ab_int6 {D : va_G} {cy : Nat → ClassId} {base : Nat} {τ : Nat → Nat} {G : Gh} {H : Heap} {q : Nat} (h : TYR D cy base τ G [(q, .inl (cy 1, 6, .inl (fun _ => 0)))] H) : ∃ (τ1 : Nat → Nat) (G1 : Gh), EX τ τ1 ∧ Fr τ [] G G1 ∧ τ1 q = 25 ∧ τ q = 0 ∧ TY D cy base τ1 G1 H := by
  obtain ⟨τ1, G1, h1, h2, h3, h4⟩ := h.absorb [(q, 25, (fun _ => 0), (fun _ => 0), (fun _ => none), 6)] rfl (by
      intro x hx; simp only [List.mem_cons, List.not_mem_nil, or_false] at hx; rcases hx with rfl
      · exact (show (25 : Nat) ≠ 0 by decide)
      ) (by
      intro x hx; simp only [List.mem_cons, List.not_mem_nil, or_false] at hx; rcases hx with rfl
      · exact rgi_A25
      ) (by
      intro x hx; simp only [List.mem_cons, List.not_mem_nil, or_false] at hx; rcases hx with rfl
      · rfl
      ) (by
      intro τ2 ln2 hm hn
      intro x hx; simp only [List.mem_cons, List.not_mem_nil, or_false] at hx; rcases hx with rfl
      · exact rgr_A25
      )
  exact ⟨τ1, G1, EX.of h1 rfl, h2, (h3 _ (List.mem_of_getElem? (i := 0) rfl)).1, (h3 _ (List.mem_of_getElem? (i := 0) rfl)).2.2.2.2.2, h4⟩
