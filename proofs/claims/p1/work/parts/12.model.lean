theorem dX10_in_0 : decode cX10_in 0 = .ok (.lload_n 0, 1) := by decide +kernel
theorem dX10_in_1 : decode cX10_in 1 = .ok (.lload_n 2, 1) := by decide +kernel
theorem dX10_in_2 : decode cX10_in 2 = .ok (.lcmp, 1) := by decide +kernel
theorem dX10_in_3 : decode cX10_in 3 = .ok (.ifCond .lt 14, 3) := by decide +kernel
theorem dX10_in_17 : decode cX10_in 17 = .ok (.iconst 0, 1) := by decide +kernel
theorem dX10_in_18 : decode cX10_in 18 = .ok (.ireturn, 1) := by decide +kernel
theorem dX10_in_6 : decode cX10_in 6 = .ok (.lload_n 0, 1) := by decide +kernel
theorem dX10_in_7 : decode cX10_in 7 = .ok (.lload 4, 2) := by decide +kernel
theorem dX10_in_9 : decode cX10_in 9 = .ok (.lcmp, 1) := by decide +kernel
theorem dX10_in_10 : decode cX10_in 10 = .ok (.ifCond .gt 7, 3) := by decide +kernel
theorem dX10_in_13 : decode cX10_in 13 = .ok (.iconst 1, 1) := by decide +kernel
theorem dX10_in_14 : decode cX10_in 14 = .ok (.goto 4, 3) := by decide +kernel
theorem dX10_isSlot_0 : decode cX10_isSlot 0 = .ok (.iload_n 0, 1) := by decide +kernel
theorem dX10_isSlot_1 : decode cX10_isSlot 1 = .ok (.i2l, 1) := by decide +kernel
theorem dX10_isSlot_2 : decode cX10_isSlot 2 = .ok (.lconst 0, 1) := by decide +kernel
theorem dX10_isSlot_3 : decode cX10_isSlot 3 = .ok (.ldc2_w 114, 3) := by decide +kernel
theorem dX10_isSlot_6 : decode cX10_isSlot 6 = .ok (.invokestatic 116, 3) := by decide +kernel
theorem dX10_isSlot_9 : decode cX10_isSlot 9 = .ok (.ireturn, 1) := by decide +kernel
theorem dX10_isSeed_0 : decode cX10_isSeed 0 = .ok (.iload_n 0, 1) := by decide +kernel
theorem dX10_isSeed_1 : decode cX10_isSeed 1 = .ok (.i2l, 1) := by decide +kernel
theorem dX10_isSeed_2 : decode cX10_isSeed 2 = .ok (.lconst 0, 1) := by decide +kernel
theorem dX10_isSeed_3 : decode cX10_isSeed 3 = .ok (.ldc2_w 490, 3) := by decide +kernel
theorem dX10_isSeed_6 : decode cX10_isSeed 6 = .ok (.invokestatic 116, 3) := by decide +kernel
theorem dX10_isSeed_9 : decode cX10_isSeed 9 = .ok (.ireturn, 1) := by decide +kernel
theorem dX10_lastDay_0 : decode cX10_lastDay 0 = .ok (.aload_n 0, 1) := by decide +kernel
theorem dX10_lastDay_1 : decode cX10_lastDay 1 = .ok (.getfield 34, 3) := by decide +kernel
theorem dX10_lastDay_4 : decode cX10_lastDay 4 = .ok (.iconst 0, 1) := by decide +kernel
theorem dX10_lastDay_5 : decode cX10_lastDay 5 = .ok (.iaload, 1) := by decide +kernel
theorem dX10_lastDay_6 : decode cX10_lastDay 6 = .ok (.ireturn, 1) := by decide +kernel
theorem dX10_isDay_0 : decode cX10_isDay 0 = .ok (.iload_n 1, 1) := by decide +kernel
theorem dX10_isDay_1 : decode cX10_isDay 1 = .ok (.i2l, 1) := by decide +kernel
theorem dX10_isDay_2 : decode cX10_isDay 2 = .ok (.lconst 1, 1) := by decide +kernel
theorem dX10_isDay_3 : decode cX10_isDay 3 = .ok (.aload_n 0, 1) := by decide +kernel
theorem dX10_isDay_4 : decode cX10_isDay 4 = .ok (.invokevirtual 278, 3) := by decide +kernel
theorem dX10_isDay_7 : decode cX10_isDay 7 = .ok (.i2l, 1) := by decide +kernel
theorem dX10_isDay_8 : decode cX10_isDay 8 = .ok (.invokestatic 116, 3) := by decide +kernel
theorem dX10_isDay_11 : decode cX10_isDay 11 = .ok (.ireturn, 1) := by decide +kernel
theorem dX10_isValley_0 : decode cX10_isValley 0 = .ok (.iload_n 1, 1) := by decide +kernel
theorem dX10_isValley_1 : decode cX10_isValley 1 = .ok (.i2l, 1) := by decide +kernel
theorem dX10_isValley_2 : decode cX10_isValley 2 = .ok (.lconst 0, 1) := by decide +kernel
theorem dX10_isValley_3 : decode cX10_isValley 3 = .ok (.aload_n 0, 1) := by decide +kernel
theorem dX10_isValley_4 : decode cX10_isValley 4 = .ok (.getfield 43, 3) := by decide +kernel
theorem dX10_isValley_7 : decode cX10_isValley 7 = .ok (.iconst 0, 1) := by decide +kernel
theorem dX10_isValley_8 : decode cX10_isValley 8 = .ok (.iaload, 1) := by decide +kernel
theorem dX10_isValley_9 : decode cX10_isValley 9 = .ok (.iconst 1, 1) := by decide +kernel
theorem dX10_isValley_10 : decode cX10_isValley 10 = .ok (.isub, 1) := by decide +kernel
theorem dX10_isValley_11 : decode cX10_isValley 11 = .ok (.i2l, 1) := by decide +kernel
theorem dX10_isValley_12 : decode cX10_isValley 12 = .ok (.invokestatic 116, 3) := by decide +kernel
theorem dX10_isValley_15 : decode cX10_isValley 15 = .ok (.ireturn, 1) := by decide +kernel
theorem dX10_isThing_0 : decode cX10_isThing 0 = .ok (.iload_n 1, 1) := by decide +kernel
theorem dX10_isThing_1 : decode cX10_isThing 1 = .ok (.i2l, 1) := by decide +kernel
theorem dX10_isThing_2 : decode cX10_isThing 2 = .ok (.lconst 0, 1) := by decide +kernel
theorem dX10_isThing_3 : decode cX10_isThing 3 = .ok (.aload_n 0, 1) := by decide +kernel
theorem dX10_isThing_4 : decode cX10_isThing 4 = .ok (.getfield 37, 3) := by decide +kernel
theorem dX10_isThing_7 : decode cX10_isThing 7 = .ok (.iconst 0, 1) := by decide +kernel
theorem dX10_isThing_8 : decode cX10_isThing 8 = .ok (.iaload, 1) := by decide +kernel
theorem dX10_isThing_9 : decode cX10_isThing 9 = .ok (.iconst 1, 1) := by decide +kernel
theorem dX10_isThing_10 : decode cX10_isThing 10 = .ok (.isub, 1) := by decide +kernel
theorem dX10_isThing_11 : decode cX10_isThing 11 = .ok (.i2l, 1) := by decide +kernel
theorem dX10_isThing_12 : decode cX10_isThing 12 = .ok (.invokestatic 116, 3) := by decide +kernel
theorem dX10_isThing_15 : decode cX10_isThing 15 = .ok (.ireturn, 1) := by decide +kernel
theorem dX10_areTwo_0 : decode cX10_areTwo 0 = .ok (.aload_n 0, 1) := by decide +kernel
theorem dX10_areTwo_1 : decode cX10_areTwo 1 = .ok (.iload_n 1, 1) := by decide +kernel
theorem dX10_areTwo_2 : decode cX10_areTwo 2 = .ok (.invokevirtual 297, 3) := by decide +kernel
theorem dX10_areTwo_5 : decode cX10_areTwo 5 = .ok (.ifCond .eq 20, 3) := by decide +kernel
theorem dX10_areTwo_25 : decode cX10_areTwo 25 = .ok (.iconst 0, 1) := by decide +kernel
theorem dX10_areTwo_26 : decode cX10_areTwo 26 = .ok (.ireturn, 1) := by decide +kernel
theorem dX10_isStore_0 : decode cX10_isStore 0 = .ok (.aload_n 0, 1) := by decide +kernel
theorem dX10_isStore_1 : decode cX10_isStore 1 = .ok (.iload_n 1, 1) := by decide +kernel
theorem dX10_isStore_2 : decode cX10_isStore 2 = .ok (.invokevirtual 297, 3) := by decide +kernel
theorem dX10_isStore_5 : decode cX10_isStore 5 = .ok (.ifCond .eq 23, 3) := by decide +kernel
theorem dX10_isStore_28 : decode cX10_isStore 28 = .ok (.iconst 0, 1) := by decide +kernel
theorem dX10_isStore_29 : decode cX10_isStore 29 = .ok (.ireturn, 1) := by decide +kernel
theorem dX10_whyNot_0 : decode cX10_whyNot 0 = .ok (.iload_n 1, 1) := by decide +kernel
theorem dX10_whyNot_1 : decode cX10_whyNot 1 = .ok (.invokestatic 120, 3) := by decide +kernel
theorem dX10_whyNot_4 : decode cX10_whyNot 4 = .ok (.ifCond .eq 34, 3) := by decide +kernel
theorem dX10_whyNot_7 : decode cX10_whyNot 7 = .ok (.iload_n 2, 1) := by decide +kernel
theorem dX10_whyNot_8 : decode cX10_whyNot 8 = .ok (.i2l, 1) := by decide +kernel
theorem dX10_whyNot_9 : decode cX10_whyNot 9 = .ok (.lconst 0, 1) := by decide +kernel
theorem dX10_whyNot_10 : decode cX10_whyNot 10 = .ok (.lconst 1, 1) := by decide +kernel
theorem dX10_whyNot_11 : decode cX10_whyNot 11 = .ok (.invokestatic 116, 3) := by decide +kernel
theorem dX10_whyNot_14 : decode cX10_whyNot 14 = .ok (.ifCond .eq 24, 3) := by decide +kernel
theorem dX10_whyNot_17 : decode cX10_whyNot 17 = .ok (.iload_n 3, 1) := by decide +kernel
theorem dX10_whyNot_18 : decode cX10_whyNot 18 = .ok (.i2l, 1) := by decide +kernel
theorem dX10_whyNot_19 : decode cX10_whyNot 19 = .ok (.lconst 0, 1) := by decide +kernel
theorem dX10_whyNot_20 : decode cX10_whyNot 20 = .ok (.ldc2_w 446, 3) := by decide +kernel
theorem dX10_whyNot_23 : decode cX10_whyNot 23 = .ok (.invokestatic 116, 3) := by decide +kernel
theorem dX10_whyNot_26 : decode cX10_whyNot 26 = .ok (.ifCond .eq 12, 3) := by decide +kernel
theorem dX10_whyNot_29 : decode cX10_whyNot 29 = .ok (.aload_n 0, 1) := by decide +kernel
theorem dX10_whyNot_30 : decode cX10_whyNot 30 = .ok (.iload 4, 2) := by decide +kernel
theorem dX10_whyNot_32 : decode cX10_whyNot 32 = .ok (.invokevirtual 297, 3) := by decide +kernel
theorem dX10_whyNot_35 : decode cX10_whyNot 35 = .ok (.ifCond .ne 6, 3) := by decide +kernel
theorem dX10_whyNot_38 : decode cX10_whyNot 38 = .ok (.bipush (-2), 2) := by decide +kernel
theorem dX10_whyNot_40 : decode cX10_whyNot 40 = .ok (.ireturn, 1) := by decide +kernel
theorem dX10_whyNotJudged_0 : decode cX10_whyNotJudged 0 = .ok (.iload_n 1, 1) := by decide +kernel
theorem dX10_whyNotJudged_1 : decode cX10_whyNotJudged 1 = .ok (.invokestatic 120, 3) := by decide +kernel
theorem dX10_whyNotJudged_4 : decode cX10_whyNotJudged 4 = .ok (.ifCond .eq 11, 3) := by decide +kernel
theorem dX10_whyNotJudged_7 : decode cX10_whyNotJudged 7 = .ok (.aload_n 0, 1) := by decide +kernel
theorem dX10_whyNotJudged_8 : decode cX10_whyNotJudged 8 = .ok (.iload_n 2, 1) := by decide +kernel
theorem dX10_whyNotJudged_9 : decode cX10_whyNotJudged 9 = .ok (.invokevirtual 297, 3) := by decide +kernel
theorem dX10_whyNotJudged_12 : decode cX10_whyNotJudged 12 = .ok (.ifCond .ne 6, 3) := by decide +kernel
theorem dX10_whyNotJudged_15 : decode cX10_whyNotJudged 15 = .ok (.bipush (-2), 2) := by decide +kernel
theorem dX10_whyNotJudged_17 : decode cX10_whyNotJudged 17 = .ok (.ireturn, 1) := by decide +kernel
theorem sS_X10_116 : SiteS RX10 116 yX10_in cX10_in 6 (some .boolean) 3 := ⟨ml_X10_116, st_X10_in, ini_X10, co_X10_in, by decide +kernel⟩
theorem sV_X10_278 : SiteV RX10 278 yX10_lastDay cX10_lastDay 1 (some .int) 0 := ⟨ml_X10_278, im_X10_lastDay, se_X10_lastDay, ini_X10, co_X10_lastDay, by decide +kernel⟩
theorem sV_X10_297 : SiteV RX10 297 yX10_isValley cX10_isValley 2 (some .boolean) 1 := ⟨ml_X10_297, im_X10_isValley, se_X10_isValley, ini_X10, co_X10_isValley, by decide +kernel⟩
theorem sS_X10_120 : SiteS RX10 120 yX10_isSlot cX10_isSlot 1 (some .boolean) 1 := ⟨ml_X10_120, st_X10_isSlot, ini_X10, co_X10_isSlot, by decide +kernel⟩
set_option maxHeartbeats 4000000 in
set_option maxRecDepth 100000 in
theorem m_in (l : Launch) (D : va_G) (cy : Nat → ClassId) (v : Int64) (lo : Int64) (hi : Int64) : MM l yX10_in cX10_in 6 (some .boolean) 0 0 0 D cy [.long v, .long lo, .long hi] (fun H => va_P D vwCl [] H) (PuI (fun r => (r = 1 ∧ lo.toInt ≤ v.toInt ∧ v.toInt ≤ hi.toInt) ∨ (r = 0 ∧ (v.toInt < lo.toInt ∨ hi.toInt < v.toInt)))) noF := by
  refine MM.of (by decide) (Nat.le_of_ble_eq_true rfl) ?_
  intro p e s m below meth c C hP ls hl
  obtain ⟨hx, hb, hr, hml, hown, hts, hlocks, hK, hnm⟩ := C
  have hP : va_P D vwCl [] s.heap := hP
  have hl : lv_has ls 6 [(0, .long v), (2, .long lo), (4, .long hi)] := hl
  refine lv_lload_n hx hb dX10_in_0 rfl (lv_at hl 0 rfl) ?_
  refine lv_lload_n hx hb dX10_in_1 rfl (lv_at hl 1 rfl) ?_
  refine W.lcmp hx hb dX10_in_2 ?_
  refine lv_topi (fun z_1 ez_1 => ?_)
  have tz_1 : (z_1.toInt < 0 ↔ v.toInt < lo.toInt) ∧ (0 < z_1.toInt ↔ lo.toInt < v.toInt) ∧ -1 ≤ z_1.toInt ∧ z_1.toInt ≤ 1 := cmp_t ez_1
  refine lv_if_lt (tgt := 17) hx hb dX10_in_3 (by decide) (fun c_2 => ?_) (fun c_2 => ?_)
  · skip
    have tc_2 : z_1.toInt < 0 := (fa_lt _ _).mp c_2
    refine lv_iconst (v := 0) hx hb dX10_in_17 (by decide) ?_
    exact ret_z (ty := .boolean) hx hb hr rfl hlocks ⟨rfl, _, rfl, (Or.inr ⟨rfl, (by omega)⟩)⟩ (fun _ h => absurd h List.not_mem_nil) (Nat.le_refl _) (Nat.le_refl _) dX10_in_18
  · skip
    have tc_2 : ¬ z_1.toInt < 0 := fun h => c_2 ((fa_lt _ _).mpr h)
    refine lv_lload_n hx hb dX10_in_6 rfl (lv_at hl 0 rfl) ?_
    refine lv_lload hx hb dX10_in_7 (lv_at hl 2 rfl) ?_
    refine W.lcmp hx hb dX10_in_9 ?_
    refine lv_topi (fun z_3 ez_3 => ?_)
    have tz_3 : (z_3.toInt < 0 ↔ v.toInt < hi.toInt) ∧ (0 < z_3.toInt ↔ hi.toInt < v.toInt) ∧ -1 ≤ z_3.toInt ∧ z_3.toInt ≤ 1 := cmp_t ez_3
    refine lv_if_gt (tgt := 17) hx hb dX10_in_10 (by decide) (fun c_4 => ?_) (fun c_4 => ?_)
    · skip
      have tc_4 : 0 < z_3.toInt := (fa_lt _ _).mp c_4
      refine lv_iconst (v := 0) hx hb dX10_in_17 (by decide) ?_
      exact ret_z (ty := .boolean) hx hb hr rfl hlocks ⟨rfl, _, rfl, (Or.inr ⟨rfl, (by omega)⟩)⟩ (fun _ h => absurd h List.not_mem_nil) (Nat.le_refl _) (Nat.le_refl _) dX10_in_18
    · skip
      have tc_4 : ¬ 0 < z_3.toInt := fun h => c_4 ((fa_lt _ _).mpr h)
      refine lv_iconst (v := 1) hx hb dX10_in_13 (by decide) ?_
      refine lv_goto (tgt := 18) hx hb dX10_in_14 (by decide) ?_
      exact ret_z (ty := .boolean) hx hb hr rfl hlocks ⟨rfl, _, rfl, (Or.inl ⟨rfl, (by omega), (by omega)⟩)⟩ (fun _ h => absurd h List.not_mem_nil) (Nat.le_refl _) (Nat.le_refl _) dX10_in_18
set_option maxHeartbeats 4000000 in
set_option maxRecDepth 100000 in
theorem m_isSlot (l : Launch) (D : va_G) (cy : Nat → ClassId) (v : Int32) : MM l yX10_isSlot cX10_isSlot 1 (some .boolean) 1 0 0 D cy [.int v] (fun H => va_P D vwCl [] H) (PuI (fun r => (r = 1 ∧ 0 ≤ v.toInt ∧ v.toInt ≤ 3) ∨ (r = 0 ∧ (v.toInt < 0 ∨ 3 < v.toInt)))) noF := by
  refine MM.of (by decide) (Nat.le_of_ble_eq_true rfl) ?_
  intro p e s m below meth c C hP ls hl
  obtain ⟨hx, hb, hr, hml, hown, hts, hlocks, hK, hnm⟩ := C
  have hP : va_P D vwCl [] s.heap := hP
  have hl : lv_has ls 1 [(0, .int v)] := hl
  refine lv_iload_n hx hb dX10_isSlot_0 rfl (lv_at hl 0 rfl) ?_
  refine lv_i2l hx hb dX10_isSlot_1 rfl ?_
  refine lv_topl (fun z_1 ez_1 => ?_)
  have tz_1 : z_1.toInt = v.toInt := by rw [ez_1]; exact wide_t v
  refine lv_lconst (v := 0) hx hb dX10_isSlot_2 (by decide) ?_
  refine lv_ldc2 (v := 3) hx hb hown (hts _ kl_X10_114) dX10_isSlot_3 ?_
  refine pu_calli (runS (As := [.long z_1, .long 0, .long 3]) (rest := []) ⟨hx, hb, hml, hown, hts⟩ (m_in l D cy z_1 0 3 ) sS_X10_116 hK (hP.sub (ws' := []) [] rfl) ⟨Nat.le_of_ble_eq_true rfl, Nat.le_of_ble_eq_true rfl⟩ rfl hl.1 rfl (Nat.le_of_ble_eq_true rfl) dX10_isSlot_6 ⟨Nat.le_of_ble_eq_true rfl, Nat.le_of_ble_eq_true rfl⟩) (fun r_2 hr_2 => ?_)
  rcases hr_2 with hr_2_0 | hr_2_1
  · skip
    obtain ⟨er_2, hr_2_0_f0, hr_2_0_f1⟩ := hr_2_0
    have hr_2_0_f0 : 0 ≤ z_1.toInt := hr_2_0_f0
    have hr_2_0_f1 : z_1.toInt ≤ 3 := hr_2_0_f1
    subst er_2
    refine W.eq (g2 := F0 m 9 ls [.int 1]) rfl ?_
    exact ret_z (ty := .boolean) hx hb hr rfl hlocks ⟨rfl, _, rfl, (Or.inl ⟨rfl, (by omega), (by omega)⟩)⟩ (fun _ h => absurd h List.not_mem_nil) (Nat.le_refl _) (Nat.le_refl _) dX10_isSlot_9
  · skip
    obtain ⟨er_2, hr_2_1_f0⟩ := hr_2_1
    have hr_2_1_f0 : (z_1.toInt < 0 ∨ 3 < z_1.toInt) := hr_2_1_f0
    subst er_2
    refine W.eq (g2 := F0 m 9 ls [.int 0]) rfl ?_
    exact ret_z (ty := .boolean) hx hb hr rfl hlocks ⟨rfl, _, rfl, (Or.inr ⟨rfl, (by omega)⟩)⟩ (fun _ h => absurd h List.not_mem_nil) (Nat.le_refl _) (Nat.le_refl _) dX10_isSlot_9
set_option maxHeartbeats 4000000 in
set_option maxRecDepth 100000 in
theorem m_isSeed (l : Launch) (D : va_G) (cy : Nat → ClassId) (v : Int32) : MM l yX10_isSeed cX10_isSeed 1 (some .boolean) 1 0 0 D cy [.int v] (fun H => va_P D vwCl [] H) (PuI (fun r => (r = 1 ∧ 0 ≤ v.toInt ∧ v.toInt ≤ 2000000000) ∨ (r = 0 ∧ (v.toInt < 0 ∨ 2000000000 < v.toInt)))) noF := by
  refine MM.of (by decide) (Nat.le_of_ble_eq_true rfl) ?_
  intro p e s m below meth c C hP ls hl
  obtain ⟨hx, hb, hr, hml, hown, hts, hlocks, hK, hnm⟩ := C
  have hP : va_P D vwCl [] s.heap := hP
  have hl : lv_has ls 1 [(0, .int v)] := hl
  refine lv_iload_n hx hb dX10_isSeed_0 rfl (lv_at hl 0 rfl) ?_
  refine lv_i2l hx hb dX10_isSeed_1 rfl ?_
  refine lv_topl (fun z_1 ez_1 => ?_)
  have tz_1 : z_1.toInt = v.toInt := by rw [ez_1]; exact wide_t v
  refine lv_lconst (v := 0) hx hb dX10_isSeed_2 (by decide) ?_
  refine lv_ldc2 (v := 2000000000) hx hb hown (hts _ kl_X10_490) dX10_isSeed_3 ?_
  refine pu_calli (runS (As := [.long z_1, .long 0, .long 2000000000]) (rest := []) ⟨hx, hb, hml, hown, hts⟩ (m_in l D cy z_1 0 2000000000 ) sS_X10_116 hK (hP.sub (ws' := []) [] rfl) ⟨Nat.le_of_ble_eq_true rfl, Nat.le_of_ble_eq_true rfl⟩ rfl hl.1 rfl (Nat.le_of_ble_eq_true rfl) dX10_isSeed_6 ⟨Nat.le_of_ble_eq_true rfl, Nat.le_of_ble_eq_true rfl⟩) (fun r_2 hr_2 => ?_)
  rcases hr_2 with hr_2_0 | hr_2_1
  · skip
    obtain ⟨er_2, hr_2_0_f0, hr_2_0_f1⟩ := hr_2_0
    have hr_2_0_f0 : 0 ≤ z_1.toInt := hr_2_0_f0
    have hr_2_0_f1 : z_1.toInt ≤ 2000000000 := hr_2_0_f1
    subst er_2
    refine W.eq (g2 := F0 m 9 ls [.int 1]) rfl ?_
    exact ret_z (ty := .boolean) hx hb hr rfl hlocks ⟨rfl, _, rfl, (Or.inl ⟨rfl, (by omega), (by omega)⟩)⟩ (fun _ h => absurd h List.not_mem_nil) (Nat.le_refl _) (Nat.le_refl _) dX10_isSeed_9
  · skip
    obtain ⟨er_2, hr_2_1_f0⟩ := hr_2_1
    have hr_2_1_f0 : (z_1.toInt < 0 ∨ 2000000000 < z_1.toInt) := hr_2_1_f0
    subst er_2
    refine W.eq (g2 := F0 m 9 ls [.int 0]) rfl ?_
    exact ret_z (ty := .boolean) hx hb hr rfl hlocks ⟨rfl, _, rfl, (Or.inr ⟨rfl, (by omega)⟩)⟩ (fun _ h => absurd h List.not_mem_nil) (Nat.le_refl _) (Nat.le_refl _) dX10_isSeed_9
set_option maxHeartbeats 4000000 in
set_option maxRecDepth 100000 in
theorem m_lastDay (l : Launch) (D : va_G) (cy : Nat → ClassId) (ma : Nat → Nat) : MM l yX10_lastDay cX10_lastDay 1 (some .int) 0 0 0 D cy [.ref (ma 0)] (fun H => va_P D vwCl [((ma 0), .inr (10, [.int 0, .ref (ma 1), .ref (ma 2), .ref (ma 3), .ref (ma 4), .ref (ma 5), .int 0, .int 0, .int 0, .int 0, .int 0, .long 0, .int 0, .int 0, .int 0, .int (-1), .ref (ma 16), .ref (ma 17), .ref (ma 18), .ref (ma 19), .ref (ma 20), .ref (ma 21), .ref (ma 22), .ref (ma 23), .ref (ma 24), .ref (ma 25), .ref (ma 26), .ref (ma 27), .ref (ma 28), .ref (ma 29), .ref (ma 30), .ref (ma 31), .ref (ma 32), .ref (ma 33), .ref (ma 34), .ref (ma 35), .ref (ma 36), .ref (ma 37), .ref (ma 38), .ref (ma 39), .ref (ma 40), .ref (ma 41), .long 0])), ((ma 17), .inl (cy 1, 20, .inl (fun _ => 0)))] H) (PuI (fun r => r = 0)) noF := by
  refine MM.of (by decide) (Nat.le_of_ble_eq_true rfl) ?_
  intro p e s m below meth c C hP ls hl
  obtain ⟨hx, hb, hr, hml, hown, hts, hlocks, hK, hnm⟩ := C
  have hP : va_P D vwCl [((ma 0), .inr (10, [.int 0, .ref (ma 1), .ref (ma 2), .ref (ma 3), .ref (ma 4), .ref (ma 5), .int 0, .int 0, .int 0, .int 0, .int 0, .long 0, .int 0, .int 0, .int 0, .int (-1), .ref (ma 16), .ref (ma 17), .ref (ma 18), .ref (ma 19), .ref (ma 20), .ref (ma 21), .ref (ma 22), .ref (ma 23), .ref (ma 24), .ref (ma 25), .ref (ma 26), .ref (ma 27), .ref (ma 28), .ref (ma 29), .ref (ma 30), .ref (ma 31), .ref (ma 32), .ref (ma 33), .ref (ma 34), .ref (ma 35), .ref (ma 36), .ref (ma 37), .ref (ma 38), .ref (ma 39), .ref (ma 40), .ref (ma 41), .long 0])), ((ma 17), .inl (cy 1, 20, .inl (fun _ => 0)))] s.heap := hP
  have hl : lv_has ls 1 [(0, .ref (ma 0))] := hl
  refine lv_aload_n hx hb dX10_lastDay_0 rfl (lv_at hl 0 rfl) ?_
  refine va_get (D := D) (ci := 10) (v := .ref (ma 17)) (C := RX10) (T := TX10) (N := 43) hx hb hts lay_X10 hown hK.1 hP 0 rfl rfl 17 (by decide) (hts _ fl_X10_34) (fun _ h9 => h9) rfl dX10_lastDay_1 ?_
  refine lv_iconst (v := 0) hx hb dX10_lastDay_4 (by decide) ?_
  refine va_iald hx hb hK.1 hP 1 1 rfl rfl (i := 0) (vp_in_iff.mpr (by decide)) dX10_lastDay_5 ?_
  refine W.eq (g2 := F0 m 6 ls [.int 0]) rfl ?_
  exact ret_i hx hb hr hlocks ⟨rfl, _, rfl, rfl⟩ (fun _ h => absurd h List.not_mem_nil) (Nat.le_refl _) (Nat.le_refl _) dX10_lastDay_6
set_option maxHeartbeats 4000000 in
set_option maxRecDepth 100000 in
theorem m_isDay (l : Launch) (D : va_G) (cy : Nat → ClassId) (ma : Nat → Nat) (v : Int32) : MM l yX10_isDay cX10_isDay 2 (some .boolean) 1 0 0 D cy [.ref (ma 0), .int v] (fun H => va_P D vwCl [((ma 0), .inr (10, [.int 0, .ref (ma 1), .ref (ma 2), .ref (ma 3), .ref (ma 4), .ref (ma 5), .int 0, .int 0, .int 0, .int 0, .int 0, .long 0, .int 0, .int 0, .int 0, .int (-1), .ref (ma 16), .ref (ma 17), .ref (ma 18), .ref (ma 19), .ref (ma 20), .ref (ma 21), .ref (ma 22), .ref (ma 23), .ref (ma 24), .ref (ma 25), .ref (ma 26), .ref (ma 27), .ref (ma 28), .ref (ma 29), .ref (ma 30), .ref (ma 31), .ref (ma 32), .ref (ma 33), .ref (ma 34), .ref (ma 35), .ref (ma 36), .ref (ma 37), .ref (ma 38), .ref (ma 39), .ref (ma 40), .ref (ma 41), .long 0])), ((ma 17), .inl (cy 1, 20, .inl (fun _ => 0)))] H) (PuI (fun r => r = 0)) noF := by
  refine MM.of (by decide) (Nat.le_of_ble_eq_true rfl) ?_
  intro p e s m below meth c C hP ls hl
  obtain ⟨hx, hb, hr, hml, hown, hts, hlocks, hK, hnm⟩ := C
  have hP : va_P D vwCl [((ma 0), .inr (10, [.int 0, .ref (ma 1), .ref (ma 2), .ref (ma 3), .ref (ma 4), .ref (ma 5), .int 0, .int 0, .int 0, .int 0, .int 0, .long 0, .int 0, .int 0, .int 0, .int (-1), .ref (ma 16), .ref (ma 17), .ref (ma 18), .ref (ma 19), .ref (ma 20), .ref (ma 21), .ref (ma 22), .ref (ma 23), .ref (ma 24), .ref (ma 25), .ref (ma 26), .ref (ma 27), .ref (ma 28), .ref (ma 29), .ref (ma 30), .ref (ma 31), .ref (ma 32), .ref (ma 33), .ref (ma 34), .ref (ma 35), .ref (ma 36), .ref (ma 37), .ref (ma 38), .ref (ma 39), .ref (ma 40), .ref (ma 41), .long 0])), ((ma 17), .inl (cy 1, 20, .inl (fun _ => 0)))] s.heap := hP
  have hl : lv_has ls 2 [(0, .ref (ma 0)), (1, .int v)] := hl
  refine lv_iload_n hx hb dX10_isDay_0 rfl (lv_at hl 1 rfl) ?_
  refine lv_i2l hx hb dX10_isDay_1 rfl ?_
  refine lv_topl (fun z_1 ez_1 => ?_)
  have tz_1 : z_1.toInt = v.toInt := by rw [ez_1]; exact wide_t v
  refine lv_lconst (v := 1) hx hb dX10_isDay_2 (by decide) ?_
  refine lv_aload_n hx hb dX10_isDay_3 rfl (lv_at hl 0 rfl) ?_
  refine pu_calli (runV (As := []) (rest := [.long 1, .long z_1]) ⟨hx, hb, hml, hown, hts⟩ (m_lastDay l D cy ma ) sV_X10_278 hK (va_recv hK.1 hP (ci := 10) (q0 := 0) rfl rfl) (hP.sub (ws' := [((ma 0), .inr (10, [.int 0, .ref (ma 1), .ref (ma 2), .ref (ma 3), .ref (ma 4), .ref (ma 5), .int 0, .int 0, .int 0, .int 0, .int 0, .long 0, .int 0, .int 0, .int 0, .int (-1), .ref (ma 16), .ref (ma 17), .ref (ma 18), .ref (ma 19), .ref (ma 20), .ref (ma 21), .ref (ma 22), .ref (ma 23), .ref (ma 24), .ref (ma 25), .ref (ma 26), .ref (ma 27), .ref (ma 28), .ref (ma 29), .ref (ma 30), .ref (ma 31), .ref (ma 32), .ref (ma 33), .ref (ma 34), .ref (ma 35), .ref (ma 36), .ref (ma 37), .ref (ma 38), .ref (ma 39), .ref (ma 40), .ref (ma 41), .long 0])), ((ma 17), .inl (cy 1, 20, .inl (fun _ => 0)))]) [0, 1] rfl) ⟨Nat.le_of_ble_eq_true rfl, Nat.le_of_ble_eq_true rfl⟩ rfl hl.1 rfl (Nat.le_of_ble_eq_true rfl) dX10_isDay_4 ⟨Nat.le_of_ble_eq_true rfl, Nat.le_of_ble_eq_true rfl⟩) (fun r_2 hr_2 => ?_)
  have er_2 := hr_2
  subst er_2
  refine W.eq (g2 := F0 m 7 ls [.int 0, .long 1, .long z_1]) rfl ?_
  refine lv_i2l hx hb dX10_isDay_7 rfl ?_
  refine lv_topl (fun z_3 ez_3 => ?_)
  have ez_3 : z_3 = 0 := ez_3.trans (by decide)
  subst ez_3
  refine pu_calli (runS (As := [.long z_1, .long 1, .long 0]) (rest := []) ⟨hx, hb, hml, hown, hts⟩ (m_in l D cy z_1 1 0 ) sS_X10_116 hK (hP.sub (ws' := []) [] rfl) ⟨Nat.le_of_ble_eq_true rfl, Nat.le_of_ble_eq_true rfl⟩ rfl hl.1 rfl (Nat.le_of_ble_eq_true rfl) dX10_isDay_8 ⟨Nat.le_of_ble_eq_true rfl, Nat.le_of_ble_eq_true rfl⟩) (fun r_4 hr_4 => ?_)
  rcases hr_4 with hr_4_0 | hr_4_1
  · skip
    obtain ⟨er_4, hr_4_0_f0, hr_4_0_f1⟩ := hr_4_0
    have hr_4_0_f0 : 1 ≤ z_1.toInt := hr_4_0_f0
    have hr_4_0_f1 : z_1.toInt ≤ 0 := hr_4_0_f1
    subst er_4
    exfalso; omega
  · skip
    obtain ⟨er_4, hr_4_1_f0⟩ := hr_4_1
    have hr_4_1_f0 : (z_1.toInt < 1 ∨ 0 < z_1.toInt) := hr_4_1_f0
    subst er_4
    refine W.eq (g2 := F0 m 11 ls [.int 0]) rfl ?_
    exact ret_z (ty := .boolean) hx hb hr rfl hlocks ⟨rfl, _, rfl, rfl⟩ (fun _ h => absurd h List.not_mem_nil) (Nat.le_refl _) (Nat.le_refl _) dX10_isDay_11
set_option maxHeartbeats 4000000 in
set_option maxRecDepth 100000 in
theorem m_isValley (l : Launch) (D : va_G) (cy : Nat → ClassId) (ma : Nat → Nat) (v : Int32) : MM l yX10_isValley cX10_isValley 2 (some .boolean) 1 0 0 D cy [.ref (ma 0), .int v] (fun H => va_P D vwCl [((ma 0), .inr (10, [.int 0, .ref (ma 1), .ref (ma 2), .ref (ma 3), .ref (ma 4), .ref (ma 5), .int 0, .int 0, .int 0, .int 0, .int 0, .long 0, .int 0, .int 0, .int 0, .int (-1), .ref (ma 16), .ref (ma 17), .ref (ma 18), .ref (ma 19), .ref (ma 20), .ref (ma 21), .ref (ma 22), .ref (ma 23), .ref (ma 24), .ref (ma 25), .ref (ma 26), .ref (ma 27), .ref (ma 28), .ref (ma 29), .ref (ma 30), .ref (ma 31), .ref (ma 32), .ref (ma 33), .ref (ma 34), .ref (ma 35), .ref (ma 36), .ref (ma 37), .ref (ma 38), .ref (ma 39), .ref (ma 40), .ref (ma 41), .long 0])), ((ma 20), .inl (cy 1, 5, .inl (fun _ => 0)))] H) (PuI (fun r => r = 0)) noF := by
  refine MM.of (by decide) (Nat.le_of_ble_eq_true rfl) ?_
  intro p e s m below meth c C hP ls hl
  obtain ⟨hx, hb, hr, hml, hown, hts, hlocks, hK, hnm⟩ := C
  have hP : va_P D vwCl [((ma 0), .inr (10, [.int 0, .ref (ma 1), .ref (ma 2), .ref (ma 3), .ref (ma 4), .ref (ma 5), .int 0, .int 0, .int 0, .int 0, .int 0, .long 0, .int 0, .int 0, .int 0, .int (-1), .ref (ma 16), .ref (ma 17), .ref (ma 18), .ref (ma 19), .ref (ma 20), .ref (ma 21), .ref (ma 22), .ref (ma 23), .ref (ma 24), .ref (ma 25), .ref (ma 26), .ref (ma 27), .ref (ma 28), .ref (ma 29), .ref (ma 30), .ref (ma 31), .ref (ma 32), .ref (ma 33), .ref (ma 34), .ref (ma 35), .ref (ma 36), .ref (ma 37), .ref (ma 38), .ref (ma 39), .ref (ma 40), .ref (ma 41), .long 0])), ((ma 20), .inl (cy 1, 5, .inl (fun _ => 0)))] s.heap := hP
  have hl : lv_has ls 2 [(0, .ref (ma 0)), (1, .int v)] := hl
  refine lv_iload_n hx hb dX10_isValley_0 rfl (lv_at hl 1 rfl) ?_
  refine lv_i2l hx hb dX10_isValley_1 rfl ?_
  refine lv_topl (fun z_1 ez_1 => ?_)
  have tz_1 : z_1.toInt = v.toInt := by rw [ez_1]; exact wide_t v
  refine lv_lconst (v := 0) hx hb dX10_isValley_2 (by decide) ?_
  refine lv_aload_n hx hb dX10_isValley_3 rfl (lv_at hl 0 rfl) ?_
  refine va_get (D := D) (ci := 10) (v := .ref (ma 20)) (C := RX10) (T := TX10) (N := 43) hx hb hts lay_X10 hown hK.1 hP 0 rfl rfl 20 (by decide) (hts _ fl_X10_43) (fun _ h9 => h9) rfl dX10_isValley_4 ?_
  refine lv_iconst (v := 0) hx hb dX10_isValley_7 (by decide) ?_
  refine va_iald hx hb hK.1 hP 1 1 rfl rfl (i := 0) (vp_in_iff.mpr (by decide)) dX10_isValley_8 ?_
  refine W.eq (g2 := F0 m 9 ls [.int 0, .long 0, .long z_1]) rfl ?_
  refine lv_iconst (v := 1) hx hb dX10_isValley_9 (by decide) ?_
  refine lv_isub hx hb dX10_isValley_10 ?_
  refine lv_topi (fun z_2 ez_2 => ?_)
  have ez_2 : z_2 = (-1) := ez_2.trans (by decide)
  subst ez_2
  refine lv_i2l hx hb dX10_isValley_11 rfl ?_
  refine lv_topl (fun z_3 ez_3 => ?_)
  have ez_3 : z_3 = (-1) := ez_3.trans (by decide)
  subst ez_3
  refine pu_calli (runS (As := [.long z_1, .long 0, .long (-1)]) (rest := []) ⟨hx, hb, hml, hown, hts⟩ (m_in l D cy z_1 0 (-1) ) sS_X10_116 hK (hP.sub (ws' := []) [] rfl) ⟨Nat.le_of_ble_eq_true rfl, Nat.le_of_ble_eq_true rfl⟩ rfl hl.1 rfl (Nat.le_of_ble_eq_true rfl) dX10_isValley_12 ⟨Nat.le_of_ble_eq_true rfl, Nat.le_of_ble_eq_true rfl⟩) (fun r_4 hr_4 => ?_)
  rcases hr_4 with hr_4_0 | hr_4_1
  · skip
    obtain ⟨er_4, hr_4_0_f0, hr_4_0_f1⟩ := hr_4_0
    have hr_4_0_f0 : 0 ≤ z_1.toInt := hr_4_0_f0
    have hr_4_0_f1 : z_1.toInt ≤ -1 := hr_4_0_f1
    subst er_4
    exfalso; omega
  · skip
    obtain ⟨er_4, hr_4_1_f0⟩ := hr_4_1
    have hr_4_1_f0 : (z_1.toInt < 0 ∨ -1 < z_1.toInt) := hr_4_1_f0
    subst er_4
    refine W.eq (g2 := F0 m 15 ls [.int 0]) rfl ?_
    exact ret_z (ty := .boolean) hx hb hr rfl hlocks ⟨rfl, _, rfl, rfl⟩ (fun _ h => absurd h List.not_mem_nil) (Nat.le_refl _) (Nat.le_refl _) dX10_isValley_15
set_option maxHeartbeats 4000000 in
set_option maxRecDepth 100000 in
theorem m_isThing (l : Launch) (D : va_G) (cy : Nat → ClassId) (ma : Nat → Nat) (v : Int32) : MM l yX10_isThing cX10_isThing 2 (some .boolean) 1 0 0 D cy [.ref (ma 0), .int v] (fun H => va_P D vwCl [((ma 0), .inr (10, [.int 0, .ref (ma 1), .ref (ma 2), .ref (ma 3), .ref (ma 4), .ref (ma 5), .int 0, .int 0, .int 0, .int 0, .int 0, .long 0, .int 0, .int 0, .int 0, .int (-1), .ref (ma 16), .ref (ma 17), .ref (ma 18), .ref (ma 19), .ref (ma 20), .ref (ma 21), .ref (ma 22), .ref (ma 23), .ref (ma 24), .ref (ma 25), .ref (ma 26), .ref (ma 27), .ref (ma 28), .ref (ma 29), .ref (ma 30), .ref (ma 31), .ref (ma 32), .ref (ma 33), .ref (ma 34), .ref (ma 35), .ref (ma 36), .ref (ma 37), .ref (ma 38), .ref (ma 39), .ref (ma 40), .ref (ma 41), .long 0])), ((ma 18), .inl (cy 1, 5, .inl (fun _ => 0)))] H) (PuI (fun r => r = 0)) noF := by
  refine MM.of (by decide) (Nat.le_of_ble_eq_true rfl) ?_
  intro p e s m below meth c C hP ls hl
  obtain ⟨hx, hb, hr, hml, hown, hts, hlocks, hK, hnm⟩ := C
  have hP : va_P D vwCl [((ma 0), .inr (10, [.int 0, .ref (ma 1), .ref (ma 2), .ref (ma 3), .ref (ma 4), .ref (ma 5), .int 0, .int 0, .int 0, .int 0, .int 0, .long 0, .int 0, .int 0, .int 0, .int (-1), .ref (ma 16), .ref (ma 17), .ref (ma 18), .ref (ma 19), .ref (ma 20), .ref (ma 21), .ref (ma 22), .ref (ma 23), .ref (ma 24), .ref (ma 25), .ref (ma 26), .ref (ma 27), .ref (ma 28), .ref (ma 29), .ref (ma 30), .ref (ma 31), .ref (ma 32), .ref (ma 33), .ref (ma 34), .ref (ma 35), .ref (ma 36), .ref (ma 37), .ref (ma 38), .ref (ma 39), .ref (ma 40), .ref (ma 41), .long 0])), ((ma 18), .inl (cy 1, 5, .inl (fun _ => 0)))] s.heap := hP
  have hl : lv_has ls 2 [(0, .ref (ma 0)), (1, .int v)] := hl
  refine lv_iload_n hx hb dX10_isThing_0 rfl (lv_at hl 1 rfl) ?_
  refine lv_i2l hx hb dX10_isThing_1 rfl ?_
  refine lv_topl (fun z_1 ez_1 => ?_)
  have tz_1 : z_1.toInt = v.toInt := by rw [ez_1]; exact wide_t v
  refine lv_lconst (v := 0) hx hb dX10_isThing_2 (by decide) ?_
  refine lv_aload_n hx hb dX10_isThing_3 rfl (lv_at hl 0 rfl) ?_
  refine va_get (D := D) (ci := 10) (v := .ref (ma 18)) (C := RX10) (T := TX10) (N := 43) hx hb hts lay_X10 hown hK.1 hP 0 rfl rfl 18 (by decide) (hts _ fl_X10_37) (fun _ h9 => h9) rfl dX10_isThing_4 ?_
  refine lv_iconst (v := 0) hx hb dX10_isThing_7 (by decide) ?_
  refine va_iald hx hb hK.1 hP 1 1 rfl rfl (i := 0) (vp_in_iff.mpr (by decide)) dX10_isThing_8 ?_
  refine W.eq (g2 := F0 m 9 ls [.int 0, .long 0, .long z_1]) rfl ?_
  refine lv_iconst (v := 1) hx hb dX10_isThing_9 (by decide) ?_
  refine lv_isub hx hb dX10_isThing_10 ?_
  refine lv_topi (fun z_2 ez_2 => ?_)
  have ez_2 : z_2 = (-1) := ez_2.trans (by decide)
  subst ez_2
  refine lv_i2l hx hb dX10_isThing_11 rfl ?_
  refine lv_topl (fun z_3 ez_3 => ?_)
  have ez_3 : z_3 = (-1) := ez_3.trans (by decide)
  subst ez_3
  refine pu_calli (runS (As := [.long z_1, .long 0, .long (-1)]) (rest := []) ⟨hx, hb, hml, hown, hts⟩ (m_in l D cy z_1 0 (-1) ) sS_X10_116 hK (hP.sub (ws' := []) [] rfl) ⟨Nat.le_of_ble_eq_true rfl, Nat.le_of_ble_eq_true rfl⟩ rfl hl.1 rfl (Nat.le_of_ble_eq_true rfl) dX10_isThing_12 ⟨Nat.le_of_ble_eq_true rfl, Nat.le_of_ble_eq_true rfl⟩) (fun r_4 hr_4 => ?_)
  rcases hr_4 with hr_4_0 | hr_4_1
  · skip
    obtain ⟨er_4, hr_4_0_f0, hr_4_0_f1⟩ := hr_4_0
    have hr_4_0_f0 : 0 ≤ z_1.toInt := hr_4_0_f0
    have hr_4_0_f1 : z_1.toInt ≤ -1 := hr_4_0_f1
    subst er_4
    exfalso; omega
  · skip
    obtain ⟨er_4, hr_4_1_f0⟩ := hr_4_1
    have hr_4_1_f0 : (z_1.toInt < 0 ∨ -1 < z_1.toInt) := hr_4_1_f0
    subst er_4
    refine W.eq (g2 := F0 m 15 ls [.int 0]) rfl ?_
    exact ret_z (ty := .boolean) hx hb hr rfl hlocks ⟨rfl, _, rfl, rfl⟩ (fun _ h => absurd h List.not_mem_nil) (Nat.le_refl _) (Nat.le_refl _) dX10_isThing_15
set_option maxHeartbeats 4000000 in
set_option maxRecDepth 100000 in
theorem m_areTwo (l : Launch) (D : va_G) (cy : Nat → ClassId) (ma : Nat → Nat) (v : Int32) (w : Int32) : MM l yX10_areTwo cX10_areTwo 3 (some .boolean) 2 0 0 D cy [.ref (ma 0), .int v, .int w] (fun H => va_P D vwCl [((ma 0), .inr (10, [.int 0, .ref (ma 1), .ref (ma 2), .ref (ma 3), .ref (ma 4), .ref (ma 5), .int 0, .int 0, .int 0, .int 0, .int 0, .long 0, .int 0, .int 0, .int 0, .int (-1), .ref (ma 16), .ref (ma 17), .ref (ma 18), .ref (ma 19), .ref (ma 20), .ref (ma 21), .ref (ma 22), .ref (ma 23), .ref (ma 24), .ref (ma 25), .ref (ma 26), .ref (ma 27), .ref (ma 28), .ref (ma 29), .ref (ma 30), .ref (ma 31), .ref (ma 32), .ref (ma 33), .ref (ma 34), .ref (ma 35), .ref (ma 36), .ref (ma 37), .ref (ma 38), .ref (ma 39), .ref (ma 40), .ref (ma 41), .long 0])), ((ma 20), .inl (cy 1, 5, .inl (fun _ => 0)))] H) (PuI (fun r => r = 0)) noF := by
  refine MM.of (by decide) (Nat.le_of_ble_eq_true rfl) ?_
  intro p e s m below meth c C hP ls hl
  obtain ⟨hx, hb, hr, hml, hown, hts, hlocks, hK, hnm⟩ := C
  have hP : va_P D vwCl [((ma 0), .inr (10, [.int 0, .ref (ma 1), .ref (ma 2), .ref (ma 3), .ref (ma 4), .ref (ma 5), .int 0, .int 0, .int 0, .int 0, .int 0, .long 0, .int 0, .int 0, .int 0, .int (-1), .ref (ma 16), .ref (ma 17), .ref (ma 18), .ref (ma 19), .ref (ma 20), .ref (ma 21), .ref (ma 22), .ref (ma 23), .ref (ma 24), .ref (ma 25), .ref (ma 26), .ref (ma 27), .ref (ma 28), .ref (ma 29), .ref (ma 30), .ref (ma 31), .ref (ma 32), .ref (ma 33), .ref (ma 34), .ref (ma 35), .ref (ma 36), .ref (ma 37), .ref (ma 38), .ref (ma 39), .ref (ma 40), .ref (ma 41), .long 0])), ((ma 20), .inl (cy 1, 5, .inl (fun _ => 0)))] s.heap := hP
  have hl : lv_has ls 3 [(0, .ref (ma 0)), (1, .int v), (2, .int w)] := hl
  refine lv_aload_n hx hb dX10_areTwo_0 rfl (lv_at hl 0 rfl) ?_
  refine lv_iload_n hx hb dX10_areTwo_1 rfl (lv_at hl 1 rfl) ?_
  refine pu_calli (runV (As := [.int v]) (rest := []) ⟨hx, hb, hml, hown, hts⟩ (m_isValley l D cy ma v ) sV_X10_297 hK (va_recv hK.1 hP (ci := 10) (q0 := 0) rfl rfl) (hP.sub (ws' := [((ma 0), .inr (10, [.int 0, .ref (ma 1), .ref (ma 2), .ref (ma 3), .ref (ma 4), .ref (ma 5), .int 0, .int 0, .int 0, .int 0, .int 0, .long 0, .int 0, .int 0, .int 0, .int (-1), .ref (ma 16), .ref (ma 17), .ref (ma 18), .ref (ma 19), .ref (ma 20), .ref (ma 21), .ref (ma 22), .ref (ma 23), .ref (ma 24), .ref (ma 25), .ref (ma 26), .ref (ma 27), .ref (ma 28), .ref (ma 29), .ref (ma 30), .ref (ma 31), .ref (ma 32), .ref (ma 33), .ref (ma 34), .ref (ma 35), .ref (ma 36), .ref (ma 37), .ref (ma 38), .ref (ma 39), .ref (ma 40), .ref (ma 41), .long 0])), ((ma 20), .inl (cy 1, 5, .inl (fun _ => 0)))]) [0, 1] rfl) ⟨Nat.le_of_ble_eq_true rfl, Nat.le_of_ble_eq_true rfl⟩ rfl hl.1 rfl (Nat.le_of_ble_eq_true rfl) dX10_areTwo_2 ⟨Nat.le_of_ble_eq_true rfl, Nat.le_of_ble_eq_true rfl⟩) (fun r_1 hr_1 => ?_)
  have er_1 := hr_1
  subst er_1
  refine W.eq (g2 := F0 m 5 ls [.int 0]) rfl ?_
  refine lv_if_eq (tgt := 25) hx hb dX10_areTwo_5 (by decide) (fun _ => ?_) (fun c_2 => absurd (by decide) c_2)
  refine lv_iconst (v := 0) hx hb dX10_areTwo_25 (by decide) ?_
  exact ret_z (ty := .boolean) hx hb hr rfl hlocks ⟨rfl, _, rfl, rfl⟩ (fun _ h => absurd h List.not_mem_nil) (Nat.le_refl _) (Nat.le_refl _) dX10_areTwo_26
set_option maxHeartbeats 4000000 in
set_option maxRecDepth 100000 in
theorem m_isStore (l : Launch) (D : va_G) (cy : Nat → ClassId) (ma : Nat → Nat) (v : Int32) (w : Int32) (z : Int32) : MM l yX10_isStore cX10_isStore 4 (some .boolean) 2 0 0 D cy [.ref (ma 0), .int v, .int w, .int z] (fun H => va_P D vwCl [((ma 0), .inr (10, [.int 0, .ref (ma 1), .ref (ma 2), .ref (ma 3), .ref (ma 4), .ref (ma 5), .int 0, .int 0, .int 0, .int 0, .int 0, .long 0, .int 0, .int 0, .int 0, .int (-1), .ref (ma 16), .ref (ma 17), .ref (ma 18), .ref (ma 19), .ref (ma 20), .ref (ma 21), .ref (ma 22), .ref (ma 23), .ref (ma 24), .ref (ma 25), .ref (ma 26), .ref (ma 27), .ref (ma 28), .ref (ma 29), .ref (ma 30), .ref (ma 31), .ref (ma 32), .ref (ma 33), .ref (ma 34), .ref (ma 35), .ref (ma 36), .ref (ma 37), .ref (ma 38), .ref (ma 39), .ref (ma 40), .ref (ma 41), .long 0])), ((ma 20), .inl (cy 1, 5, .inl (fun _ => 0))), ((ma 18), .inl (cy 1, 5, .inl (fun _ => 0)))] H) (PuI (fun r => r = 0)) noF := by
  refine MM.of (by decide) (Nat.le_of_ble_eq_true rfl) ?_
  intro p e s m below meth c C hP ls hl
  obtain ⟨hx, hb, hr, hml, hown, hts, hlocks, hK, hnm⟩ := C
  have hP : va_P D vwCl [((ma 0), .inr (10, [.int 0, .ref (ma 1), .ref (ma 2), .ref (ma 3), .ref (ma 4), .ref (ma 5), .int 0, .int 0, .int 0, .int 0, .int 0, .long 0, .int 0, .int 0, .int 0, .int (-1), .ref (ma 16), .ref (ma 17), .ref (ma 18), .ref (ma 19), .ref (ma 20), .ref (ma 21), .ref (ma 22), .ref (ma 23), .ref (ma 24), .ref (ma 25), .ref (ma 26), .ref (ma 27), .ref (ma 28), .ref (ma 29), .ref (ma 30), .ref (ma 31), .ref (ma 32), .ref (ma 33), .ref (ma 34), .ref (ma 35), .ref (ma 36), .ref (ma 37), .ref (ma 38), .ref (ma 39), .ref (ma 40), .ref (ma 41), .long 0])), ((ma 20), .inl (cy 1, 5, .inl (fun _ => 0))), ((ma 18), .inl (cy 1, 5, .inl (fun _ => 0)))] s.heap := hP
  have hl : lv_has ls 4 [(0, .ref (ma 0)), (1, .int v), (2, .int w), (3, .int z)] := hl
  refine lv_aload_n hx hb dX10_isStore_0 rfl (lv_at hl 0 rfl) ?_
  refine lv_iload_n hx hb dX10_isStore_1 rfl (lv_at hl 1 rfl) ?_
  refine pu_calli (runV (As := [.int v]) (rest := []) ⟨hx, hb, hml, hown, hts⟩ (m_isValley l D cy ma v ) sV_X10_297 hK (va_recv hK.1 hP (ci := 10) (q0 := 0) rfl rfl) (hP.sub (ws' := [((ma 0), .inr (10, [.int 0, .ref (ma 1), .ref (ma 2), .ref (ma 3), .ref (ma 4), .ref (ma 5), .int 0, .int 0, .int 0, .int 0, .int 0, .long 0, .int 0, .int 0, .int 0, .int (-1), .ref (ma 16), .ref (ma 17), .ref (ma 18), .ref (ma 19), .ref (ma 20), .ref (ma 21), .ref (ma 22), .ref (ma 23), .ref (ma 24), .ref (ma 25), .ref (ma 26), .ref (ma 27), .ref (ma 28), .ref (ma 29), .ref (ma 30), .ref (ma 31), .ref (ma 32), .ref (ma 33), .ref (ma 34), .ref (ma 35), .ref (ma 36), .ref (ma 37), .ref (ma 38), .ref (ma 39), .ref (ma 40), .ref (ma 41), .long 0])), ((ma 20), .inl (cy 1, 5, .inl (fun _ => 0)))]) [0, 1] rfl) ⟨Nat.le_of_ble_eq_true rfl, Nat.le_of_ble_eq_true rfl⟩ rfl hl.1 rfl (Nat.le_of_ble_eq_true rfl) dX10_isStore_2 ⟨Nat.le_of_ble_eq_true rfl, Nat.le_of_ble_eq_true rfl⟩) (fun r_1 hr_1 => ?_)
  have er_1 := hr_1
  subst er_1
  refine W.eq (g2 := F0 m 5 ls [.int 0]) rfl ?_
  refine lv_if_eq (tgt := 28) hx hb dX10_isStore_5 (by decide) (fun _ => ?_) (fun c_2 => absurd (by decide) c_2)
  refine lv_iconst (v := 0) hx hb dX10_isStore_28 (by decide) ?_
  exact ret_z (ty := .boolean) hx hb hr rfl hlocks ⟨rfl, _, rfl, rfl⟩ (fun _ h => absurd h List.not_mem_nil) (Nat.le_refl _) (Nat.le_refl _) dX10_isStore_29
set_option maxHeartbeats 4000000 in
set_option maxRecDepth 100000 in
theorem m_whyNot (l : Launch) (D : va_G) (cy : Nat → ClassId) (ma : Nat → Nat) (v : Int32) (w : Int32) (z : Int32) (y : Int32) : MM l yX10_whyNot cX10_whyNot 5 (some .int) 2 0 0 D cy [.ref (ma 0), .int v, .int w, .int z, .int y] (fun H => va_P D vwCl [((ma 0), .inr (10, [.int 0, .ref (ma 1), .ref (ma 2), .ref (ma 3), .ref (ma 4), .ref (ma 5), .int 0, .int 0, .int 0, .int 0, .int 0, .long 0, .int 0, .int 0, .int 0, .int (-1), .ref (ma 16), .ref (ma 17), .ref (ma 18), .ref (ma 19), .ref (ma 20), .ref (ma 21), .ref (ma 22), .ref (ma 23), .ref (ma 24), .ref (ma 25), .ref (ma 26), .ref (ma 27), .ref (ma 28), .ref (ma 29), .ref (ma 30), .ref (ma 31), .ref (ma 32), .ref (ma 33), .ref (ma 34), .ref (ma 35), .ref (ma 36), .ref (ma 37), .ref (ma 38), .ref (ma 39), .ref (ma 40), .ref (ma 41), .long 0])), ((ma 20), .inl (cy 1, 5, .inl (fun _ => 0)))] H) (PuI (fun r => r = (-2))) noF := by
  refine MM.of (by decide) (Nat.le_of_ble_eq_true rfl) ?_
  intro p e s m below meth c C hP ls hl
  obtain ⟨hx, hb, hr, hml, hown, hts, hlocks, hK, hnm⟩ := C
  have hP : va_P D vwCl [((ma 0), .inr (10, [.int 0, .ref (ma 1), .ref (ma 2), .ref (ma 3), .ref (ma 4), .ref (ma 5), .int 0, .int 0, .int 0, .int 0, .int 0, .long 0, .int 0, .int 0, .int 0, .int (-1), .ref (ma 16), .ref (ma 17), .ref (ma 18), .ref (ma 19), .ref (ma 20), .ref (ma 21), .ref (ma 22), .ref (ma 23), .ref (ma 24), .ref (ma 25), .ref (ma 26), .ref (ma 27), .ref (ma 28), .ref (ma 29), .ref (ma 30), .ref (ma 31), .ref (ma 32), .ref (ma 33), .ref (ma 34), .ref (ma 35), .ref (ma 36), .ref (ma 37), .ref (ma 38), .ref (ma 39), .ref (ma 40), .ref (ma 41), .long 0])), ((ma 20), .inl (cy 1, 5, .inl (fun _ => 0)))] s.heap := hP
  have hl : lv_has ls 5 [(0, .ref (ma 0)), (1, .int v), (2, .int w), (3, .int z), (4, .int y)] := hl
  refine lv_iload_n hx hb dX10_whyNot_0 rfl (lv_at hl 1 rfl) ?_
  refine pu_calli (runS (As := [.int v]) (rest := []) ⟨hx, hb, hml, hown, hts⟩ (m_isSlot l D cy v ) sS_X10_120 hK (hP.sub (ws' := []) [] rfl) ⟨Nat.le_of_ble_eq_true rfl, Nat.le_of_ble_eq_true rfl⟩ rfl hl.1 rfl (Nat.le_of_ble_eq_true rfl) dX10_whyNot_1 ⟨Nat.le_of_ble_eq_true rfl, Nat.le_of_ble_eq_true rfl⟩) (fun r_1 hr_1 => ?_)
  rcases hr_1 with hr_1_0 | hr_1_1
  · skip
    obtain ⟨er_1, hr_1_0_f0, hr_1_0_f1⟩ := hr_1_0
    have hr_1_0_f0 : 0 ≤ v.toInt := hr_1_0_f0
    have hr_1_0_f1 : v.toInt ≤ 3 := hr_1_0_f1
    subst er_1
    refine W.eq (g2 := F0 m 4 ls [.int 1]) rfl ?_
    refine lv_if_eq (tgt := 38) hx hb dX10_whyNot_4 (by decide) (fun c_2 => absurd c_2 (by decide)) (fun _ => ?_)
    refine lv_iload_n hx hb dX10_whyNot_7 rfl (lv_at hl 2 rfl) ?_
    refine lv_i2l hx hb dX10_whyNot_8 rfl ?_
    refine lv_topl (fun z_3 ez_3 => ?_)
    have tz_3 : z_3.toInt = w.toInt := by rw [ez_3]; exact wide_t w
    refine lv_lconst (v := 0) hx hb dX10_whyNot_9 (by decide) ?_
    refine lv_lconst (v := 1) hx hb dX10_whyNot_10 (by decide) ?_
    refine pu_calli (runS (As := [.long z_3, .long 0, .long 1]) (rest := []) ⟨hx, hb, hml, hown, hts⟩ (m_in l D cy z_3 0 1 ) sS_X10_116 hK (hP.sub (ws' := []) [] rfl) ⟨Nat.le_of_ble_eq_true rfl, Nat.le_of_ble_eq_true rfl⟩ rfl hl.1 rfl (Nat.le_of_ble_eq_true rfl) dX10_whyNot_11 ⟨Nat.le_of_ble_eq_true rfl, Nat.le_of_ble_eq_true rfl⟩) (fun r_4 hr_4 => ?_)
    rcases hr_4 with hr_4_0 | hr_4_1
    · skip
      obtain ⟨er_4, hr_4_0_f0, hr_4_0_f1⟩ := hr_4_0
      have hr_4_0_f0 : 0 ≤ z_3.toInt := hr_4_0_f0
      have hr_4_0_f1 : z_3.toInt ≤ 1 := hr_4_0_f1
      subst er_4
      refine W.eq (g2 := F0 m 14 ls [.int 1]) rfl ?_
      refine lv_if_eq (tgt := 38) hx hb dX10_whyNot_14 (by decide) (fun c_5 => absurd c_5 (by decide)) (fun _ => ?_)
      refine lv_iload_n hx hb dX10_whyNot_17 rfl (lv_at hl 3 rfl) ?_
      refine lv_i2l hx hb dX10_whyNot_18 rfl ?_
      refine lv_topl (fun z_6 ez_6 => ?_)
      have tz_6 : z_6.toInt = z.toInt := by rw [ez_6]; exact wide_t z
      refine lv_lconst (v := 0) hx hb dX10_whyNot_19 (by decide) ?_
      refine lv_ldc2 (v := 99999) hx hb hown (hts _ kl_X10_446) dX10_whyNot_20 ?_
      refine pu_calli (runS (As := [.long z_6, .long 0, .long 99999]) (rest := []) ⟨hx, hb, hml, hown, hts⟩ (m_in l D cy z_6 0 99999 ) sS_X10_116 hK (hP.sub (ws' := []) [] rfl) ⟨Nat.le_of_ble_eq_true rfl, Nat.le_of_ble_eq_true rfl⟩ rfl hl.1 rfl (Nat.le_of_ble_eq_true rfl) dX10_whyNot_23 ⟨Nat.le_of_ble_eq_true rfl, Nat.le_of_ble_eq_true rfl⟩) (fun r_7 hr_7 => ?_)
      rcases hr_7 with hr_7_0 | hr_7_1
      · skip
        obtain ⟨er_7, hr_7_0_f0, hr_7_0_f1⟩ := hr_7_0
        have hr_7_0_f0 : 0 ≤ z_6.toInt := hr_7_0_f0
        have hr_7_0_f1 : z_6.toInt ≤ 99999 := hr_7_0_f1
        subst er_7
        refine W.eq (g2 := F0 m 26 ls [.int 1]) rfl ?_
        refine lv_if_eq (tgt := 38) hx hb dX10_whyNot_26 (by decide) (fun c_8 => absurd c_8 (by decide)) (fun _ => ?_)
        refine lv_aload_n hx hb dX10_whyNot_29 rfl (lv_at hl 0 rfl) ?_
        refine lv_iload hx hb dX10_whyNot_30 (lv_at hl 4 rfl) ?_
        refine pu_calli (runV (As := [.int y]) (rest := []) ⟨hx, hb, hml, hown, hts⟩ (m_isValley l D cy ma y ) sV_X10_297 hK (va_recv hK.1 hP (ci := 10) (q0 := 0) rfl rfl) (hP.sub (ws' := [((ma 0), .inr (10, [.int 0, .ref (ma 1), .ref (ma 2), .ref (ma 3), .ref (ma 4), .ref (ma 5), .int 0, .int 0, .int 0, .int 0, .int 0, .long 0, .int 0, .int 0, .int 0, .int (-1), .ref (ma 16), .ref (ma 17), .ref (ma 18), .ref (ma 19), .ref (ma 20), .ref (ma 21), .ref (ma 22), .ref (ma 23), .ref (ma 24), .ref (ma 25), .ref (ma 26), .ref (ma 27), .ref (ma 28), .ref (ma 29), .ref (ma 30), .ref (ma 31), .ref (ma 32), .ref (ma 33), .ref (ma 34), .ref (ma 35), .ref (ma 36), .ref (ma 37), .ref (ma 38), .ref (ma 39), .ref (ma 40), .ref (ma 41), .long 0])), ((ma 20), .inl (cy 1, 5, .inl (fun _ => 0)))]) [0, 1] rfl) ⟨Nat.le_of_ble_eq_true rfl, Nat.le_of_ble_eq_true rfl⟩ rfl hl.1 rfl (Nat.le_of_ble_eq_true rfl) dX10_whyNot_32 ⟨Nat.le_of_ble_eq_true rfl, Nat.le_of_ble_eq_true rfl⟩) (fun r_9 hr_9 => ?_)
        have er_9 := hr_9
        subst er_9
        refine W.eq (g2 := F0 m 35 ls [.int 0]) rfl ?_
        refine lv_if_ne (tgt := 41) hx hb dX10_whyNot_35 (by decide) (fun c_10 => absurd rfl c_10) (fun _ => ?_)
        refine lv_bipush (v := (-2)) hx hb dX10_whyNot_38 (by decide) ?_
        exact ret_i hx hb hr hlocks ⟨rfl, _, rfl, rfl⟩ (fun _ h => absurd h List.not_mem_nil) (Nat.le_refl _) (Nat.le_refl _) dX10_whyNot_40
      · skip
        obtain ⟨er_7, hr_7_1_f0⟩ := hr_7_1
        have hr_7_1_f0 : (z_6.toInt < 0 ∨ 99999 < z_6.toInt) := hr_7_1_f0
        subst er_7
        refine W.eq (g2 := F0 m 26 ls [.int 0]) rfl ?_
        refine lv_if_eq (tgt := 38) hx hb dX10_whyNot_26 (by decide) (fun _ => ?_) (fun c_11 => absurd (by decide) c_11)
        refine lv_bipush (v := (-2)) hx hb dX10_whyNot_38 (by decide) ?_
        exact ret_i hx hb hr hlocks ⟨rfl, _, rfl, rfl⟩ (fun _ h => absurd h List.not_mem_nil) (Nat.le_refl _) (Nat.le_refl _) dX10_whyNot_40
    · skip
      obtain ⟨er_4, hr_4_1_f0⟩ := hr_4_1
      have hr_4_1_f0 : (z_3.toInt < 0 ∨ 1 < z_3.toInt) := hr_4_1_f0
      subst er_4
      refine W.eq (g2 := F0 m 14 ls [.int 0]) rfl ?_
      refine lv_if_eq (tgt := 38) hx hb dX10_whyNot_14 (by decide) (fun _ => ?_) (fun c_12 => absurd (by decide) c_12)
      refine lv_bipush (v := (-2)) hx hb dX10_whyNot_38 (by decide) ?_
      exact ret_i hx hb hr hlocks ⟨rfl, _, rfl, rfl⟩ (fun _ h => absurd h List.not_mem_nil) (Nat.le_refl _) (Nat.le_refl _) dX10_whyNot_40
  · skip
    obtain ⟨er_1, hr_1_1_f0⟩ := hr_1_1
    have hr_1_1_f0 : (v.toInt < 0 ∨ 3 < v.toInt) := hr_1_1_f0
    subst er_1
    refine W.eq (g2 := F0 m 4 ls [.int 0]) rfl ?_
    refine lv_if_eq (tgt := 38) hx hb dX10_whyNot_4 (by decide) (fun _ => ?_) (fun c_13 => absurd (by decide) c_13)
    refine lv_bipush (v := (-2)) hx hb dX10_whyNot_38 (by decide) ?_
    exact ret_i hx hb hr hlocks ⟨rfl, _, rfl, rfl⟩ (fun _ h => absurd h List.not_mem_nil) (Nat.le_refl _) (Nat.le_refl _) dX10_whyNot_40
set_option maxHeartbeats 4000000 in
set_option maxRecDepth 100000 in
theorem m_whyNotJudged (l : Launch) (D : va_G) (cy : Nat → ClassId) (ma : Nat → Nat) (v : Int32) (w : Int32) : MM l yX10_whyNotJudged cX10_whyNotJudged 3 (some .int) 2 0 0 D cy [.ref (ma 0), .int v, .int w] (fun H => va_P D vwCl [((ma 0), .inr (10, [.int 0, .ref (ma 1), .ref (ma 2), .ref (ma 3), .ref (ma 4), .ref (ma 5), .int 0, .int 0, .int 0, .int 0, .int 0, .long 0, .int 0, .int 0, .int 0, .int (-1), .ref (ma 16), .ref (ma 17), .ref (ma 18), .ref (ma 19), .ref (ma 20), .ref (ma 21), .ref (ma 22), .ref (ma 23), .ref (ma 24), .ref (ma 25), .ref (ma 26), .ref (ma 27), .ref (ma 28), .ref (ma 29), .ref (ma 30), .ref (ma 31), .ref (ma 32), .ref (ma 33), .ref (ma 34), .ref (ma 35), .ref (ma 36), .ref (ma 37), .ref (ma 38), .ref (ma 39), .ref (ma 40), .ref (ma 41), .long 0])), ((ma 20), .inl (cy 1, 5, .inl (fun _ => 0)))] H) (PuI (fun r => r = (-2))) noF := by
  refine MM.of (by decide) (Nat.le_of_ble_eq_true rfl) ?_
  intro p e s m below meth c C hP ls hl
  obtain ⟨hx, hb, hr, hml, hown, hts, hlocks, hK, hnm⟩ := C
  have hP : va_P D vwCl [((ma 0), .inr (10, [.int 0, .ref (ma 1), .ref (ma 2), .ref (ma 3), .ref (ma 4), .ref (ma 5), .int 0, .int 0, .int 0, .int 0, .int 0, .long 0, .int 0, .int 0, .int 0, .int (-1), .ref (ma 16), .ref (ma 17), .ref (ma 18), .ref (ma 19), .ref (ma 20), .ref (ma 21), .ref (ma 22), .ref (ma 23), .ref (ma 24), .ref (ma 25), .ref (ma 26), .ref (ma 27), .ref (ma 28), .ref (ma 29), .ref (ma 30), .ref (ma 31), .ref (ma 32), .ref (ma 33), .ref (ma 34), .ref (ma 35), .ref (ma 36), .ref (ma 37), .ref (ma 38), .ref (ma 39), .ref (ma 40), .ref (ma 41), .long 0])), ((ma 20), .inl (cy 1, 5, .inl (fun _ => 0)))] s.heap := hP
  have hl : lv_has ls 3 [(0, .ref (ma 0)), (1, .int v), (2, .int w)] := hl
  refine lv_iload_n hx hb dX10_whyNotJudged_0 rfl (lv_at hl 1 rfl) ?_
  refine pu_calli (runS (As := [.int v]) (rest := []) ⟨hx, hb, hml, hown, hts⟩ (m_isSlot l D cy v ) sS_X10_120 hK (hP.sub (ws' := []) [] rfl) ⟨Nat.le_of_ble_eq_true rfl, Nat.le_of_ble_eq_true rfl⟩ rfl hl.1 rfl (Nat.le_of_ble_eq_true rfl) dX10_whyNotJudged_1 ⟨Nat.le_of_ble_eq_true rfl, Nat.le_of_ble_eq_true rfl⟩) (fun r_1 hr_1 => ?_)
  rcases hr_1 with hr_1_0 | hr_1_1
  · skip
    obtain ⟨er_1, hr_1_0_f0, hr_1_0_f1⟩ := hr_1_0
    have hr_1_0_f0 : 0 ≤ v.toInt := hr_1_0_f0
    have hr_1_0_f1 : v.toInt ≤ 3 := hr_1_0_f1
    subst er_1
    refine W.eq (g2 := F0 m 4 ls [.int 1]) rfl ?_
    refine lv_if_eq (tgt := 15) hx hb dX10_whyNotJudged_4 (by decide) (fun c_2 => absurd c_2 (by decide)) (fun _ => ?_)
    refine lv_aload_n hx hb dX10_whyNotJudged_7 rfl (lv_at hl 0 rfl) ?_
    refine lv_iload_n hx hb dX10_whyNotJudged_8 rfl (lv_at hl 2 rfl) ?_
    refine pu_calli (runV (As := [.int w]) (rest := []) ⟨hx, hb, hml, hown, hts⟩ (m_isValley l D cy ma w ) sV_X10_297 hK (va_recv hK.1 hP (ci := 10) (q0 := 0) rfl rfl) (hP.sub (ws' := [((ma 0), .inr (10, [.int 0, .ref (ma 1), .ref (ma 2), .ref (ma 3), .ref (ma 4), .ref (ma 5), .int 0, .int 0, .int 0, .int 0, .int 0, .long 0, .int 0, .int 0, .int 0, .int (-1), .ref (ma 16), .ref (ma 17), .ref (ma 18), .ref (ma 19), .ref (ma 20), .ref (ma 21), .ref (ma 22), .ref (ma 23), .ref (ma 24), .ref (ma 25), .ref (ma 26), .ref (ma 27), .ref (ma 28), .ref (ma 29), .ref (ma 30), .ref (ma 31), .ref (ma 32), .ref (ma 33), .ref (ma 34), .ref (ma 35), .ref (ma 36), .ref (ma 37), .ref (ma 38), .ref (ma 39), .ref (ma 40), .ref (ma 41), .long 0])), ((ma 20), .inl (cy 1, 5, .inl (fun _ => 0)))]) [0, 1] rfl) ⟨Nat.le_of_ble_eq_true rfl, Nat.le_of_ble_eq_true rfl⟩ rfl hl.1 rfl (Nat.le_of_ble_eq_true rfl) dX10_whyNotJudged_9 ⟨Nat.le_of_ble_eq_true rfl, Nat.le_of_ble_eq_true rfl⟩) (fun r_3 hr_3 => ?_)
    have er_3 := hr_3
    subst er_3
    refine W.eq (g2 := F0 m 12 ls [.int 0]) rfl ?_
    refine lv_if_ne (tgt := 18) hx hb dX10_whyNotJudged_12 (by decide) (fun c_4 => absurd rfl c_4) (fun _ => ?_)
    refine lv_bipush (v := (-2)) hx hb dX10_whyNotJudged_15 (by decide) ?_
    exact ret_i hx hb hr hlocks ⟨rfl, _, rfl, rfl⟩ (fun _ h => absurd h List.not_mem_nil) (Nat.le_refl _) (Nat.le_refl _) dX10_whyNotJudged_17
  · skip
    obtain ⟨er_1, hr_1_1_f0⟩ := hr_1_1
    have hr_1_1_f0 : (v.toInt < 0 ∨ 3 < v.toInt) := hr_1_1_f0
    subst er_1
    refine W.eq (g2 := F0 m 4 ls [.int 0]) rfl ?_
    refine lv_if_eq (tgt := 15) hx hb dX10_whyNotJudged_4 (by decide) (fun _ => ?_) (fun c_5 => absurd (by decide) c_5)
    refine lv_bipush (v := (-2)) hx hb dX10_whyNotJudged_15 (by decide) ?_
    exact ret_i hx hb hr hlocks ⟨rfl, _, rfl, rfl⟩ (fun _ h => absurd h List.not_mem_nil) (Nat.le_refl _) (Nat.le_refl _) dX10_whyNotJudged_17
