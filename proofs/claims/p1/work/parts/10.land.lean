theorem dX2_hasValley_0 : decode cX2_hasValley 0 = .ok (.iload_n 1, 1) := by decide +kernel
theorem dX2_hasValley_1 : decode cX2_hasValley 1 = .ok (.ifCond .lt 15, 3) := by decide +kernel
theorem dX2_hasValley_16 : decode cX2_hasValley 16 = .ok (.iconst 0, 1) := by decide +kernel
theorem dX2_hasValley_17 : decode cX2_hasValley 17 = .ok (.ireturn, 1) := by decide +kernel
theorem dX2_hasValley_4 : decode cX2_hasValley 4 = .ok (.iload_n 1, 1) := by decide +kernel
theorem dX2_hasValley_5 : decode cX2_hasValley 5 = .ok (.aload_n 0, 1) := by decide +kernel
theorem dX2_hasValley_6 : decode cX2_hasValley 6 = .ok (.getfield 40, 3) := by decide +kernel
theorem dX2_hasValley_9 : decode cX2_hasValley 9 = .ok (.if_icmp .ge 7, 3) := by decide +kernel
theorem dX2_hasThing_0 : decode cX2_hasThing 0 = .ok (.iload_n 1, 1) := by decide +kernel
theorem dX2_hasThing_1 : decode cX2_hasThing 1 = .ok (.ifCond .lt 15, 3) := by decide +kernel
theorem dX2_hasThing_16 : decode cX2_hasThing 16 = .ok (.iconst 0, 1) := by decide +kernel
theorem dX2_hasThing_17 : decode cX2_hasThing 17 = .ok (.ireturn, 1) := by decide +kernel
theorem dX2_hasThing_4 : decode cX2_hasThing 4 = .ok (.iload_n 1, 1) := by decide +kernel
theorem dX2_hasThing_5 : decode cX2_hasThing 5 = .ok (.aload_n 0, 1) := by decide +kernel
theorem dX2_hasThing_6 : decode cX2_hasThing 6 = .ok (.getfield 47, 3) := by decide +kernel
theorem dX2_hasThing_9 : decode cX2_hasThing 9 = .ok (.if_icmp .ge 7, 3) := by decide +kernel
theorem dX2_hasTwo_0 : decode cX2_hasTwo 0 = .ok (.aload_n 0, 1) := by decide +kernel
theorem dX2_hasTwo_1 : decode cX2_hasTwo 1 = .ok (.iload_n 1, 1) := by decide +kernel
theorem dX2_hasTwo_2 : decode cX2_hasTwo 2 = .ok (.invokevirtual 43, 3) := by decide +kernel
theorem dX2_hasTwo_5 : decode cX2_hasTwo 5 = .ok (.ifCond .eq 20, 3) := by decide +kernel
theorem dX2_hasTwo_25 : decode cX2_hasTwo 25 = .ok (.iconst 0, 1) := by decide +kernel
theorem dX2_hasTwo_26 : decode cX2_hasTwo 26 = .ok (.ireturn, 1) := by decide +kernel
theorem dX2_hasStore_0 : decode cX2_hasStore 0 = .ok (.aload_n 0, 1) := by decide +kernel
theorem dX2_hasStore_1 : decode cX2_hasStore 1 = .ok (.iload_n 1, 1) := by decide +kernel
theorem dX2_hasStore_2 : decode cX2_hasStore 2 = .ok (.invokevirtual 43, 3) := by decide +kernel
theorem dX2_hasStore_5 : decode cX2_hasStore 5 = .ok (.ifCond .eq 15, 3) := by decide +kernel
theorem dX2_hasStore_20 : decode cX2_hasStore 20 = .ok (.iconst 0, 1) := by decide +kernel
theorem dX2_hasStore_21 : decode cX2_hasStore 21 = .ok (.ireturn, 1) := by decide +kernel
theorem dX2_hasDay_0 : decode cX2_hasDay 0 = .ok (.iload_n 1, 1) := by decide +kernel
theorem dX2_hasDay_1 : decode cX2_hasDay 1 = .ok (.iconst 1, 1) := by decide +kernel
theorem dX2_hasDay_2 : decode cX2_hasDay 2 = .ok (.if_icmp .lt 15, 3) := by decide +kernel
theorem dX2_hasDay_17 : decode cX2_hasDay 17 = .ok (.iconst 0, 1) := by decide +kernel
theorem dX2_hasDay_18 : decode cX2_hasDay 18 = .ok (.ireturn, 1) := by decide +kernel
theorem dX2_hasDay_5 : decode cX2_hasDay 5 = .ok (.iload_n 1, 1) := by decide +kernel
theorem dX2_hasDay_6 : decode cX2_hasDay 6 = .ok (.aload_n 0, 1) := by decide +kernel
theorem dX2_hasDay_7 : decode cX2_hasDay 7 = .ok (.getfield 53, 3) := by decide +kernel
theorem dX2_hasDay_10 : decode cX2_hasDay 10 = .ok (.if_icmp .gt 7, 3) := by decide +kernel
theorem dX9_isSlot_0 : decode cX9_isSlot 0 = .ok (.iload_n 0, 1) := by decide +kernel
theorem dX9_isSlot_1 : decode cX9_isSlot 1 = .ok (.ifCond .lt 12, 3) := by decide +kernel
theorem dX9_isSlot_13 : decode cX9_isSlot 13 = .ok (.iconst 0, 1) := by decide +kernel
theorem dX9_isSlot_14 : decode cX9_isSlot 14 = .ok (.ireturn, 1) := by decide +kernel
theorem dX9_isSlot_4 : decode cX9_isSlot 4 = .ok (.iload_n 0, 1) := by decide +kernel
theorem dX9_isSlot_5 : decode cX9_isSlot 5 = .ok (.iconst 4, 1) := by decide +kernel
theorem dX9_isSlot_6 : decode cX9_isSlot 6 = .ok (.if_icmp .ge 7, 3) := by decide +kernel
theorem dX9_isSlot_9 : decode cX9_isSlot 9 = .ok (.iconst 1, 1) := by decide +kernel
theorem dX9_isSlot_10 : decode cX9_isSlot 10 = .ok (.goto 4, 3) := by decide +kernel
theorem dX9_isSeed_0 : decode cX9_isSeed 0 = .ok (.iload_n 0, 1) := by decide +kernel
theorem dX9_isSeed_1 : decode cX9_isSeed 1 = .ok (.ifCond .lt 14, 3) := by decide +kernel
theorem dX9_isSeed_15 : decode cX9_isSeed 15 = .ok (.iconst 0, 1) := by decide +kernel
theorem dX9_isSeed_16 : decode cX9_isSeed 16 = .ok (.ireturn, 1) := by decide +kernel
theorem dX9_isSeed_4 : decode cX9_isSeed 4 = .ok (.iload_n 0, 1) := by decide +kernel
theorem dX9_isSeed_5 : decode cX9_isSeed 5 = .ok (.ldc_w 383, 3) := by decide +kernel
theorem dX9_isSeed_8 : decode cX9_isSeed 8 = .ok (.if_icmp .gt 7, 3) := by decide +kernel
theorem dX9_isSeed_11 : decode cX9_isSeed 11 = .ok (.iconst 1, 1) := by decide +kernel
theorem dX9_isSeed_12 : decode cX9_isSeed 12 = .ok (.goto 4, 3) := by decide +kernel
theorem sV_X2_43 : SiteV RX2 43 yX2_hasValley cX2_hasValley 2 (some .boolean) 1 := ⟨ml_X2_43, im_X2_hasValley, se_X2_hasValley, ini_X2, co_X2_hasValley, by decide +kernel⟩
set_option maxHeartbeats 4000000 in
set_option maxRecDepth 100000 in
theorem f_hasValley (l : Launch) (D : va_G) (cy : Nat → ClassId) (xa : Nat → Nat) (v : Int32) : MM l yX2_hasValley cX2_hasValley 2 (some .boolean) 0 0 0 D cy [.ref (xa 11), .int v] (fun H => va_P D vwCl [((xa 11), .inr (2, [.int 0, .int 0, .int 0, .int 0, .int 0, .int 0, .int 0, .int 0, .int 1, .int 10, .int 0, .int 0, .int 0, .int 0, .ref (xa 20), .ref (xa 21), .ref (xa 22), .ref (xa 23), .ref (xa 24), .ref (xa 25), .ref (xa 26)]))] H) (PuI (fun r => r = 0)) noF := by
  refine MM.of (by decide) (Nat.le_of_ble_eq_true rfl) ?_
  intro p e s m below meth c C hP ls hl
  obtain ⟨hx, hb, hr, hml, hown, hts, hlocks, hK, hnm⟩ := C
  have hP : va_P D vwCl [((xa 11), .inr (2, [.int 0, .int 0, .int 0, .int 0, .int 0, .int 0, .int 0, .int 0, .int 1, .int 10, .int 0, .int 0, .int 0, .int 0, .ref (xa 20), .ref (xa 21), .ref (xa 22), .ref (xa 23), .ref (xa 24), .ref (xa 25), .ref (xa 26)]))] s.heap := hP
  have hl : lv_has ls 2 [(0, .ref (xa 11)), (1, .int v)] := hl
  refine lv_iload_n hx hb dX2_hasValley_0 rfl (lv_at hl 1 rfl) ?_
  refine lv_if_lt (tgt := 16) hx hb dX2_hasValley_1 (by decide) (fun c_1 => ?_) (fun c_1 => ?_)
  · skip
    have tc_1 : v.toInt < 0 := (fa_lt _ _).mp c_1
    refine lv_iconst (v := 0) hx hb dX2_hasValley_16 (by decide) ?_
    exact ret_z (ty := .boolean) hx hb hr rfl hlocks ⟨rfl, _, rfl, rfl⟩ (fun _ h => absurd h List.not_mem_nil) (Nat.le_refl _) (Nat.le_refl _) dX2_hasValley_17
  · skip
    have tc_1 : ¬ v.toInt < 0 := fun h => c_1 ((fa_lt _ _).mpr h)
    refine lv_iload_n hx hb dX2_hasValley_4 rfl (lv_at hl 1 rfl) ?_
    refine lv_aload_n hx hb dX2_hasValley_5 rfl (lv_at hl 0 rfl) ?_
    refine va_get (D := D) (ci := 2) (v := .int 0) (C := RX2) (T := TX2) (N := 21) hx hb hts lay_X2 hown hK.1 hP 0 rfl rfl 6 (by decide) (hts _ fl_X2_40) (fun _ h9 => h9) rfl dX2_hasValley_6 ?_
    refine lv_icmp_ge (tgt := 16) hx hb dX2_hasValley_9 (by decide) (fun c_2 => ?_) (fun c_2 => ?_)
    · skip
      have tc_2 : 0 ≤ v.toInt := (fa_le _ _).mp c_2
      refine lv_iconst (v := 0) hx hb dX2_hasValley_16 (by decide) ?_
      exact ret_z (ty := .boolean) hx hb hr rfl hlocks ⟨rfl, _, rfl, rfl⟩ (fun _ h => absurd h List.not_mem_nil) (Nat.le_refl _) (Nat.le_refl _) dX2_hasValley_17
    · skip
      have tc_2 : ¬ 0 ≤ v.toInt := fun h => c_2 ((fa_le _ _).mpr h)
      exfalso; omega
set_option maxHeartbeats 4000000 in
set_option maxRecDepth 100000 in
theorem f_hasThing (l : Launch) (D : va_G) (cy : Nat → ClassId) (xa : Nat → Nat) (v : Int32) : MM l yX2_hasThing cX2_hasThing 2 (some .boolean) 0 0 0 D cy [.ref (xa 11), .int v] (fun H => va_P D vwCl [((xa 11), .inr (2, [.int 0, .int 0, .int 0, .int 0, .int 0, .int 0, .int 0, .int 0, .int 1, .int 10, .int 0, .int 0, .int 0, .int 0, .ref (xa 20), .ref (xa 21), .ref (xa 22), .ref (xa 23), .ref (xa 24), .ref (xa 25), .ref (xa 26)]))] H) (PuI (fun r => r = 0)) noF := by
  refine MM.of (by decide) (Nat.le_of_ble_eq_true rfl) ?_
  intro p e s m below meth c C hP ls hl
  obtain ⟨hx, hb, hr, hml, hown, hts, hlocks, hK, hnm⟩ := C
  have hP : va_P D vwCl [((xa 11), .inr (2, [.int 0, .int 0, .int 0, .int 0, .int 0, .int 0, .int 0, .int 0, .int 1, .int 10, .int 0, .int 0, .int 0, .int 0, .ref (xa 20), .ref (xa 21), .ref (xa 22), .ref (xa 23), .ref (xa 24), .ref (xa 25), .ref (xa 26)]))] s.heap := hP
  have hl : lv_has ls 2 [(0, .ref (xa 11)), (1, .int v)] := hl
  refine lv_iload_n hx hb dX2_hasThing_0 rfl (lv_at hl 1 rfl) ?_
  refine lv_if_lt (tgt := 16) hx hb dX2_hasThing_1 (by decide) (fun c_1 => ?_) (fun c_1 => ?_)
  · skip
    have tc_1 : v.toInt < 0 := (fa_lt _ _).mp c_1
    refine lv_iconst (v := 0) hx hb dX2_hasThing_16 (by decide) ?_
    exact ret_z (ty := .boolean) hx hb hr rfl hlocks ⟨rfl, _, rfl, rfl⟩ (fun _ h => absurd h List.not_mem_nil) (Nat.le_refl _) (Nat.le_refl _) dX2_hasThing_17
  · skip
    have tc_1 : ¬ v.toInt < 0 := fun h => c_1 ((fa_lt _ _).mpr h)
    refine lv_iload_n hx hb dX2_hasThing_4 rfl (lv_at hl 1 rfl) ?_
    refine lv_aload_n hx hb dX2_hasThing_5 rfl (lv_at hl 0 rfl) ?_
    refine va_get (D := D) (ci := 2) (v := .int 0) (C := RX2) (T := TX2) (N := 21) hx hb hts lay_X2 hown hK.1 hP 0 rfl rfl 5 (by decide) (hts _ fl_X2_47) (fun _ h9 => h9) rfl dX2_hasThing_6 ?_
    refine lv_icmp_ge (tgt := 16) hx hb dX2_hasThing_9 (by decide) (fun c_2 => ?_) (fun c_2 => ?_)
    · skip
      have tc_2 : 0 ≤ v.toInt := (fa_le _ _).mp c_2
      refine lv_iconst (v := 0) hx hb dX2_hasThing_16 (by decide) ?_
      exact ret_z (ty := .boolean) hx hb hr rfl hlocks ⟨rfl, _, rfl, rfl⟩ (fun _ h => absurd h List.not_mem_nil) (Nat.le_refl _) (Nat.le_refl _) dX2_hasThing_17
    · skip
      have tc_2 : ¬ 0 ≤ v.toInt := fun h => c_2 ((fa_le _ _).mpr h)
      exfalso; omega
set_option maxHeartbeats 4000000 in
set_option maxRecDepth 100000 in
theorem f_hasTwo (l : Launch) (D : va_G) (cy : Nat → ClassId) (xa : Nat → Nat) (v : Int32) (w : Int32) : MM l yX2_hasTwo cX2_hasTwo 3 (some .boolean) 1 0 0 D cy [.ref (xa 11), .int v, .int w] (fun H => va_P D vwCl [((xa 11), .inr (2, [.int 0, .int 0, .int 0, .int 0, .int 0, .int 0, .int 0, .int 0, .int 1, .int 10, .int 0, .int 0, .int 0, .int 0, .ref (xa 20), .ref (xa 21), .ref (xa 22), .ref (xa 23), .ref (xa 24), .ref (xa 25), .ref (xa 26)]))] H) (PuI (fun r => r = 0)) noF := by
  refine MM.of (by decide) (Nat.le_of_ble_eq_true rfl) ?_
  intro p e s m below meth c C hP ls hl
  obtain ⟨hx, hb, hr, hml, hown, hts, hlocks, hK, hnm⟩ := C
  have hP : va_P D vwCl [((xa 11), .inr (2, [.int 0, .int 0, .int 0, .int 0, .int 0, .int 0, .int 0, .int 0, .int 1, .int 10, .int 0, .int 0, .int 0, .int 0, .ref (xa 20), .ref (xa 21), .ref (xa 22), .ref (xa 23), .ref (xa 24), .ref (xa 25), .ref (xa 26)]))] s.heap := hP
  have hl : lv_has ls 3 [(0, .ref (xa 11)), (1, .int v), (2, .int w)] := hl
  refine lv_aload_n hx hb dX2_hasTwo_0 rfl (lv_at hl 0 rfl) ?_
  refine lv_iload_n hx hb dX2_hasTwo_1 rfl (lv_at hl 1 rfl) ?_
  refine pu_calli (runV (As := [.int v]) (rest := []) ⟨hx, hb, hml, hown, hts⟩ (f_hasValley l D cy xa v ) sV_X2_43 hK (va_recv hK.1 hP (ci := 2) (q0 := 0) rfl rfl) (hP.sub (ws' := [((xa 11), .inr (2, [.int 0, .int 0, .int 0, .int 0, .int 0, .int 0, .int 0, .int 0, .int 1, .int 10, .int 0, .int 0, .int 0, .int 0, .ref (xa 20), .ref (xa 21), .ref (xa 22), .ref (xa 23), .ref (xa 24), .ref (xa 25), .ref (xa 26)]))]) [0] rfl) ⟨Nat.le_of_ble_eq_true rfl, Nat.le_of_ble_eq_true rfl⟩ rfl hl.1 rfl (Nat.le_of_ble_eq_true rfl) dX2_hasTwo_2 ⟨Nat.le_of_ble_eq_true rfl, Nat.le_of_ble_eq_true rfl⟩) (fun r_1 hr_1 => ?_)
  have er_1 := hr_1
  subst er_1
  refine W.eq (g2 := F0 m 5 ls [.int 0]) rfl ?_
  refine lv_if_eq (tgt := 25) hx hb dX2_hasTwo_5 (by decide) (fun _ => ?_) (fun c_2 => absurd (by decide) c_2)
  refine lv_iconst (v := 0) hx hb dX2_hasTwo_25 (by decide) ?_
  exact ret_z (ty := .boolean) hx hb hr rfl hlocks ⟨rfl, _, rfl, rfl⟩ (fun _ h => absurd h List.not_mem_nil) (Nat.le_refl _) (Nat.le_refl _) dX2_hasTwo_26
set_option maxHeartbeats 4000000 in
set_option maxRecDepth 100000 in
theorem f_hasStore (l : Launch) (D : va_G) (cy : Nat → ClassId) (xa : Nat → Nat) (v : Int32) (w : Int32) : MM l yX2_hasStore cX2_hasStore 3 (some .boolean) 1 0 0 D cy [.ref (xa 11), .int v, .int w] (fun H => va_P D vwCl [((xa 11), .inr (2, [.int 0, .int 0, .int 0, .int 0, .int 0, .int 0, .int 0, .int 0, .int 1, .int 10, .int 0, .int 0, .int 0, .int 0, .ref (xa 20), .ref (xa 21), .ref (xa 22), .ref (xa 23), .ref (xa 24), .ref (xa 25), .ref (xa 26)]))] H) (PuI (fun r => r = 0)) noF := by
  refine MM.of (by decide) (Nat.le_of_ble_eq_true rfl) ?_
  intro p e s m below meth c C hP ls hl
  obtain ⟨hx, hb, hr, hml, hown, hts, hlocks, hK, hnm⟩ := C
  have hP : va_P D vwCl [((xa 11), .inr (2, [.int 0, .int 0, .int 0, .int 0, .int 0, .int 0, .int 0, .int 0, .int 1, .int 10, .int 0, .int 0, .int 0, .int 0, .ref (xa 20), .ref (xa 21), .ref (xa 22), .ref (xa 23), .ref (xa 24), .ref (xa 25), .ref (xa 26)]))] s.heap := hP
  have hl : lv_has ls 3 [(0, .ref (xa 11)), (1, .int v), (2, .int w)] := hl
  refine lv_aload_n hx hb dX2_hasStore_0 rfl (lv_at hl 0 rfl) ?_
  refine lv_iload_n hx hb dX2_hasStore_1 rfl (lv_at hl 1 rfl) ?_
  refine pu_calli (runV (As := [.int v]) (rest := []) ⟨hx, hb, hml, hown, hts⟩ (f_hasValley l D cy xa v ) sV_X2_43 hK (va_recv hK.1 hP (ci := 2) (q0 := 0) rfl rfl) (hP.sub (ws' := [((xa 11), .inr (2, [.int 0, .int 0, .int 0, .int 0, .int 0, .int 0, .int 0, .int 0, .int 1, .int 10, .int 0, .int 0, .int 0, .int 0, .ref (xa 20), .ref (xa 21), .ref (xa 22), .ref (xa 23), .ref (xa 24), .ref (xa 25), .ref (xa 26)]))]) [0] rfl) ⟨Nat.le_of_ble_eq_true rfl, Nat.le_of_ble_eq_true rfl⟩ rfl hl.1 rfl (Nat.le_of_ble_eq_true rfl) dX2_hasStore_2 ⟨Nat.le_of_ble_eq_true rfl, Nat.le_of_ble_eq_true rfl⟩) (fun r_1 hr_1 => ?_)
  have er_1 := hr_1
  subst er_1
  refine W.eq (g2 := F0 m 5 ls [.int 0]) rfl ?_
  refine lv_if_eq (tgt := 20) hx hb dX2_hasStore_5 (by decide) (fun _ => ?_) (fun c_2 => absurd (by decide) c_2)
  refine lv_iconst (v := 0) hx hb dX2_hasStore_20 (by decide) ?_
  exact ret_z (ty := .boolean) hx hb hr rfl hlocks ⟨rfl, _, rfl, rfl⟩ (fun _ h => absurd h List.not_mem_nil) (Nat.le_refl _) (Nat.le_refl _) dX2_hasStore_21
set_option maxHeartbeats 4000000 in
set_option maxRecDepth 100000 in
theorem f_hasDay (l : Launch) (D : va_G) (cy : Nat → ClassId) (xa : Nat → Nat) (v : Int32) : MM l yX2_hasDay cX2_hasDay 2 (some .boolean) 0 0 0 D cy [.ref (xa 11), .int v] (fun H => va_P D vwCl [((xa 11), .inr (2, [.int 0, .int 0, .int 0, .int 0, .int 0, .int 0, .int 0, .int 0, .int 1, .int 10, .int 0, .int 0, .int 0, .int 0, .ref (xa 20), .ref (xa 21), .ref (xa 22), .ref (xa 23), .ref (xa 24), .ref (xa 25), .ref (xa 26)]))] H) (PuI (fun r => r = 0)) noF := by
  refine MM.of (by decide) (Nat.le_of_ble_eq_true rfl) ?_
  intro p e s m below meth c C hP ls hl
  obtain ⟨hx, hb, hr, hml, hown, hts, hlocks, hK, hnm⟩ := C
  have hP : va_P D vwCl [((xa 11), .inr (2, [.int 0, .int 0, .int 0, .int 0, .int 0, .int 0, .int 0, .int 0, .int 1, .int 10, .int 0, .int 0, .int 0, .int 0, .ref (xa 20), .ref (xa 21), .ref (xa 22), .ref (xa 23), .ref (xa 24), .ref (xa 25), .ref (xa 26)]))] s.heap := hP
  have hl : lv_has ls 2 [(0, .ref (xa 11)), (1, .int v)] := hl
  refine lv_iload_n hx hb dX2_hasDay_0 rfl (lv_at hl 1 rfl) ?_
  refine lv_iconst (v := 1) hx hb dX2_hasDay_1 (by decide) ?_
  refine lv_icmp_lt (tgt := 17) hx hb dX2_hasDay_2 (by decide) (fun c_1 => ?_) (fun c_1 => ?_)
  · skip
    have tc_1 : v.toInt < 1 := (fa_lt _ _).mp c_1
    refine lv_iconst (v := 0) hx hb dX2_hasDay_17 (by decide) ?_
    exact ret_z (ty := .boolean) hx hb hr rfl hlocks ⟨rfl, _, rfl, rfl⟩ (fun _ h => absurd h List.not_mem_nil) (Nat.le_refl _) (Nat.le_refl _) dX2_hasDay_18
  · skip
    have tc_1 : ¬ v.toInt < 1 := fun h => c_1 ((fa_lt _ _).mpr h)
    refine lv_iload_n hx hb dX2_hasDay_5 rfl (lv_at hl 1 rfl) ?_
    refine lv_aload_n hx hb dX2_hasDay_6 rfl (lv_at hl 0 rfl) ?_
    refine va_get (D := D) (ci := 2) (v := .int 0) (C := RX2) (T := TX2) (N := 21) hx hb hts lay_X2 hown hK.1 hP 0 rfl rfl 1 (by decide) (hts _ fl_X2_53) (fun _ h9 => h9) rfl dX2_hasDay_7 ?_
    refine lv_icmp_gt (tgt := 17) hx hb dX2_hasDay_10 (by decide) (fun c_2 => ?_) (fun c_2 => ?_)
    · skip
      have tc_2 : 0 < v.toInt := (fa_lt _ _).mp c_2
      refine lv_iconst (v := 0) hx hb dX2_hasDay_17 (by decide) ?_
      exact ret_z (ty := .boolean) hx hb hr rfl hlocks ⟨rfl, _, rfl, rfl⟩ (fun _ h => absurd h List.not_mem_nil) (Nat.le_refl _) (Nat.le_refl _) dX2_hasDay_18
    · skip
      have tc_2 : ¬ 0 < v.toInt := fun h => c_2 ((fa_lt _ _).mpr h)
      exfalso; omega
set_option maxHeartbeats 4000000 in
set_option maxRecDepth 100000 in
theorem f_isSlot (l : Launch) (D : va_G) (cy : Nat → ClassId) (v : Int32) : MM l yX9_isSlot cX9_isSlot 1 (some .boolean) 0 0 0 D cy [.int v] (fun H => va_P D vwCl [] H) (PuI (fun r => (r = 1 ∧ 0 ≤ v.toInt ∧ v.toInt ≤ 3) ∨ (r = 0 ∧ (v.toInt < 0 ∨ 3 < v.toInt)))) noF := by
  refine MM.of (by decide) (Nat.le_of_ble_eq_true rfl) ?_
  intro p e s m below meth c C hP ls hl
  obtain ⟨hx, hb, hr, hml, hown, hts, hlocks, hK, hnm⟩ := C
  have hP : va_P D vwCl [] s.heap := hP
  have hl : lv_has ls 1 [(0, .int v)] := hl
  refine lv_iload_n hx hb dX9_isSlot_0 rfl (lv_at hl 0 rfl) ?_
  refine lv_if_lt (tgt := 13) hx hb dX9_isSlot_1 (by decide) (fun c_1 => ?_) (fun c_1 => ?_)
  · skip
    have tc_1 : v.toInt < 0 := (fa_lt _ _).mp c_1
    refine lv_iconst (v := 0) hx hb dX9_isSlot_13 (by decide) ?_
    exact ret_z (ty := .boolean) hx hb hr rfl hlocks ⟨rfl, _, rfl, (Or.inr ⟨rfl, (by omega)⟩)⟩ (fun _ h => absurd h List.not_mem_nil) (Nat.le_refl _) (Nat.le_refl _) dX9_isSlot_14
  · skip
    have tc_1 : ¬ v.toInt < 0 := fun h => c_1 ((fa_lt _ _).mpr h)
    refine lv_iload_n hx hb dX9_isSlot_4 rfl (lv_at hl 0 rfl) ?_
    refine lv_iconst (v := 4) hx hb dX9_isSlot_5 (by decide) ?_
    refine lv_icmp_ge (tgt := 13) hx hb dX9_isSlot_6 (by decide) (fun c_2 => ?_) (fun c_2 => ?_)
    · skip
      have tc_2 : 4 ≤ v.toInt := (fa_le _ _).mp c_2
      refine lv_iconst (v := 0) hx hb dX9_isSlot_13 (by decide) ?_
      exact ret_z (ty := .boolean) hx hb hr rfl hlocks ⟨rfl, _, rfl, (Or.inr ⟨rfl, (by omega)⟩)⟩ (fun _ h => absurd h List.not_mem_nil) (Nat.le_refl _) (Nat.le_refl _) dX9_isSlot_14
    · skip
      have tc_2 : ¬ 4 ≤ v.toInt := fun h => c_2 ((fa_le _ _).mpr h)
      refine lv_iconst (v := 1) hx hb dX9_isSlot_9 (by decide) ?_
      refine lv_goto (tgt := 14) hx hb dX9_isSlot_10 (by decide) ?_
      exact ret_z (ty := .boolean) hx hb hr rfl hlocks ⟨rfl, _, rfl, (Or.inl ⟨rfl, (by omega), (by omega)⟩)⟩ (fun _ h => absurd h List.not_mem_nil) (Nat.le_refl _) (Nat.le_refl _) dX9_isSlot_14
set_option maxHeartbeats 4000000 in
set_option maxRecDepth 100000 in
theorem f_isSeed (l : Launch) (D : va_G) (cy : Nat → ClassId) (v : Int32) : MM l yX9_isSeed cX9_isSeed 1 (some .boolean) 0 0 0 D cy [.int v] (fun H => va_P D vwCl [] H) (PuI (fun r => (r = 1 ∧ 0 ≤ v.toInt ∧ v.toInt ≤ 2000000000) ∨ (r = 0 ∧ (v.toInt < 0 ∨ 2000000000 < v.toInt)))) noF := by
  refine MM.of (by decide) (Nat.le_of_ble_eq_true rfl) ?_
  intro p e s m below meth c C hP ls hl
  obtain ⟨hx, hb, hr, hml, hown, hts, hlocks, hK, hnm⟩ := C
  have hP : va_P D vwCl [] s.heap := hP
  have hl : lv_has ls 1 [(0, .int v)] := hl
  refine lv_iload_n hx hb dX9_isSeed_0 rfl (lv_at hl 0 rfl) ?_
  refine lv_if_lt (tgt := 15) hx hb dX9_isSeed_1 (by decide) (fun c_1 => ?_) (fun c_1 => ?_)
  · skip
    have tc_1 : v.toInt < 0 := (fa_lt _ _).mp c_1
    refine lv_iconst (v := 0) hx hb dX9_isSeed_15 (by decide) ?_
    exact ret_z (ty := .boolean) hx hb hr rfl hlocks ⟨rfl, _, rfl, (Or.inr ⟨rfl, (by omega)⟩)⟩ (fun _ h => absurd h List.not_mem_nil) (Nat.le_refl _) (Nat.le_refl _) dX9_isSeed_16
  · skip
    have tc_1 : ¬ v.toInt < 0 := fun h => c_1 ((fa_lt _ _).mpr h)
    refine lv_iload_n hx hb dX9_isSeed_4 rfl (lv_at hl 0 rfl) ?_
    refine lv_ldcw (v := 2000000000) hx hb hown (hts _ ki_X9_383) dX9_isSeed_5 ?_
    refine lv_icmp_gt (tgt := 15) hx hb dX9_isSeed_8 (by decide) (fun c_2 => ?_) (fun c_2 => ?_)
    · skip
      have tc_2 : 2000000000 < v.toInt := (fa_lt _ _).mp c_2
      refine lv_iconst (v := 0) hx hb dX9_isSeed_15 (by decide) ?_
      exact ret_z (ty := .boolean) hx hb hr rfl hlocks ⟨rfl, _, rfl, (Or.inr ⟨rfl, (by omega)⟩)⟩ (fun _ h => absurd h List.not_mem_nil) (Nat.le_refl _) (Nat.le_refl _) dX9_isSeed_16
    · skip
      have tc_2 : ¬ 2000000000 < v.toInt := fun h => c_2 ((fa_lt _ _).mpr h)
      refine lv_iconst (v := 1) hx hb dX9_isSeed_11 (by decide) ?_
      refine lv_goto (tgt := 16) hx hb dX9_isSeed_12 (by decide) ?_
      exact ret_z (ty := .boolean) hx hb hr rfl hlocks ⟨rfl, _, rfl, (Or.inl ⟨rfl, (by omega), (by omega)⟩)⟩ (fun _ h => absurd h List.not_mem_nil) (Nat.le_refl _) (Nat.le_refl _) dX9_isSeed_16
