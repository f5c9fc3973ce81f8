theorem dL_law_18 : decode cL_law 18 = .ok (.iload_n 3, 1) := by decide +kernel
theorem dL_law_19 : decode cL_law 19 = .ok (.aload_n 0, 1) := by decide +kernel
theorem dL_law_20 : decode cL_law 20 = .ok (.arraylength, 1) := by decide +kernel
theorem dL_law_21 : decode cL_law 21 = .ok (.bipush 7, 2) := by decide +kernel
theorem dL_law_23 : decode cL_law 23 = .ok (.isub, 1) := by decide +kernel
theorem dL_law_24 : decode cL_law 24 = .ok (.if_icmp .gt 2248, 3) := by decide +kernel
theorem dL_law_27 : decode cL_law 27 = .ok (.aload_n 0, 1) := by decide +kernel
theorem dL_law_28 : decode cL_law 28 = .ok (.iload_n 3, 1) := by decide +kernel
theorem dL_law_29 : decode cL_law 29 = .ok (.iaload, 1) := by decide +kernel
theorem dL_law_30 : decode cL_law 30 = .ok (.bipush 63, 2) := by decide +kernel
theorem dL_law_32 : decode cL_law 32 = .ok (.iand, 1) := by decide +kernel
theorem dL_law_33 : decode cL_law 33 = .ok (.tableswitch 2233 0 49 #[215, 278, 301, 314, 337, 370, 403, 456, 489, 522, 555, 598, 641, 684, 717, 760, 803, 826, 859, 882, 915, 994, 1027, 1060, 1113, 1156, 1199, 1242, 1275, 1298, 1351, 1384, 1437, 1500, 1563, 1616, 1669, 1712, 1735, 1758, 1781, 1834, 1867, 1910, 1985, 2008, 2031, 2054, 2097, 2170], 215) := by decide +kernel
theorem dL_law_2266 : decode cL_law 2266 = .ok (.iinc 3 7, 3) := by decide +kernel
theorem dL_law_2269 : decode cL_law 2269 = .ok (.goto (-2251), 3) := by decide +kernel
set_option maxHeartbeats 4000000 in
set_option maxRecDepth 100000 in
theorem law_step {p : Program} {e : Env} {s : State} {m : MethodId} {below : List Frame} {meth : Method} {c : Code} {l : Launch} {b L : Nat} {xs : Nat → Int32} (D : va_G) (cy : Nat → ClassId) (adK adV : Nat → Nat) (base xo mo : Nat) (C0 : lw_At p s m meth c b L xs) (hK : KK D cy s) (hSS : SS adK adV base s s.heap) (hZ : base ≤ s.heap.size) (hZ2 : s.heap.size ≤ base) (hbA : ¬ RA base b) (hLs : L ≤ 3584) (τ : Nat → Nat) (G : Gh) (i : Int32) (hi0 : 0 ≤ i.toInt) (hLI : LI τ G xo mo) {H : Heap} {locs : List Loc} (hT : TY D cy base τ G H) (hS : va_S (RA base) s.heap H locs) {ls : Array Slot} (hl : lv_has ls 4 [(3, .int i), (2, .ref mo), (1, .ref xo), (0, .ref b)]) {cells slots : Nat} (hroom : cells + 100 ≤ room_1.cells ∧ slots + 1000 ≤ room_1.slots) (kk : (i.toInt + 7 ≤ L) → ∀ (τ1 : Nat → Nat) (G1 : Gh) (H1 : Heap) (locs1 : List Loc) (ls1 : Array Slot), LI τ1 G1 xo mo → TY D cy base τ1 G1 H1 → va_S (RA base) s.heap H1 locs1 → lv_has ls1 4 [(3, .int i), (2, .ref mo), (1, .ref xo), (0, .ref b)] → W p l e room_1 s m #[Value.ref b] below meth c H1 locs1 (cells + 10) (slots + 200) (lw_Z below #[Value.ref b] s) (F0 m 2266 ls1 [])) : W p l e room_1 s m #[Value.ref b] below meth c H locs cells slots (lw_Z below #[Value.ref b] s) (F0 m 18 ls []) := by
  obtain ⟨hx, hb, hr, hml, hown, hts, hX, hbl, hlocks, hgv⟩ := id C0
  have hown : s.vm.findClass RL = some m.cls := hown
  have hb : c.code = cL_law := hb
  have hts : ∀ w ∈ GW, w.before #[Value.ref b] s = true := fun w h => hts w (gw_tbl w h)
  have h_xo := hLI.1
  have h_mo := hLI.2.1
  obtain ⟨w0, ew0⟩ : ∃ y : Int32, y = xs (i.toInt.toNat + 0) := ⟨_, rfl⟩
  refine lv_iload_n hx hb dL_law_18 rfl (lv_at hl 0 rfl) ?_
  refine lv_aload_n hx hb dL_law_19 rfl (lv_at hl 3 rfl) ?_
  refine va_slen hx hb hX hbl hbA hS dL_law_20 ?_
  refine lv_topi (fun z_1 ez_1 => ?_)
  have tz_1 : z_1.toInt = L := by rw [ez_1]; exact Int32.toInt_ofNat_of_lt (by omega)
  refine lv_bipush (v := 7) hx hb dL_law_21 (by decide) ?_
  refine lv_isub hx hb dL_law_23 ?_
  refine lv_topi (fun z_2 ez_2 => ?_)
  have tz_2 : z_2.toInt = z_1.toInt - 7 := sub_t ez_2 (show -2147483648 ≤ z_1.toInt - 7 by omega) (show z_1.toInt - 7 < 2147483648 by omega)
  refine lv_icmp_gt (tgt := 2272) hx hb dL_law_24 (by decide) (fun c_3 => ?_) (fun c_3 => ?_)
  · skip
    have tc_3 : z_2.toInt < i.toInt := (fa_lt _ _).mp c_3
    have mc_3 : i.toInt ≤ 2147483647 := max_t i
    exact law_ret C0 hZ2 hS (by have q9 : cells + 100 ≤ 600000 := hroom.1; omega) (by have q9 : slots + 1000 ≤ 7302250 := hroom.2; omega)
  · skip
    have tc_3 : ¬ z_2.toInt < i.toInt := fun h => c_3 ((fa_lt _ _).mpr h)
    refine lv_aload_n hx hb dL_law_27 rfl (lv_at hl 3 rfl) ?_
    refine lv_iload_n hx hb dL_law_28 rfl (lv_at hl 0 rfl) ?_
    refine va_sld (i := i) hx hb hX hbl hbA hS (vp_in_iff.mpr ⟨by omega, by omega⟩) dL_law_29 ?_
    refine W.eq (g2 := F0 m 30 ls [.int w0]) (by rw [ew0, show i.toNatClampNeg = i.toInt.toNat + 0 from (show i.toInt.toNat = _ by omega)]) ?_
    refine lv_bipush (v := 63) hx hb dL_law_30 (by decide) ?_
    refine lv_iand hx hb dL_law_32 ?_
    refine lv_topi (fun z_4 ez_4 => ?_)
    have tz_4 : 0 ≤ z_4.toInt ∧ z_4.toInt ≤ 63 := and_t ez_4 (by decide)
    by_cases sw_5 : z_4.toInt < 0 ∨ 49 < z_4.toInt
    · skip
      refine lv_tableOut (tgt := 2266) hx hb dL_law_33 sw_5 (by decide) ?_
      exact W.widen (k := cells + 10) (n := slots + 200) (by omega) (by omega) (kk (by omega) τ G H locs ls hLI hT hS (lv_sub hl [0, 1, 2, 3] rfl))
    · skip
      rcases (show z_4.toInt = 0 ∨ z_4.toInt = 1 ∨ z_4.toInt = 2 ∨ z_4.toInt = 3 ∨ z_4.toInt = 4 ∨ z_4.toInt = 5 ∨ z_4.toInt = 6 ∨ z_4.toInt = 7 ∨ z_4.toInt = 8 ∨ z_4.toInt = 9 ∨ z_4.toInt = 10 ∨ z_4.toInt = 11 ∨ z_4.toInt = 12 ∨ z_4.toInt = 13 ∨ z_4.toInt = 14 ∨ z_4.toInt = 15 ∨ z_4.toInt = 16 ∨ z_4.toInt = 17 ∨ z_4.toInt = 18 ∨ z_4.toInt = 19 ∨ z_4.toInt = 20 ∨ z_4.toInt = 21 ∨ z_4.toInt = 22 ∨ z_4.toInt = 23 ∨ z_4.toInt = 24 ∨ z_4.toInt = 25 ∨ z_4.toInt = 26 ∨ z_4.toInt = 27 ∨ z_4.toInt = 28 ∨ z_4.toInt = 29 ∨ z_4.toInt = 30 ∨ z_4.toInt = 31 ∨ z_4.toInt = 32 ∨ z_4.toInt = 33 ∨ z_4.toInt = 34 ∨ z_4.toInt = 35 ∨ z_4.toInt = 36 ∨ z_4.toInt = 37 ∨ z_4.toInt = 38 ∨ z_4.toInt = 39 ∨ z_4.toInt = 40 ∨ z_4.toInt = 41 ∨ z_4.toInt = 42 ∨ z_4.toInt = 43 ∨ z_4.toInt = 44 ∨ z_4.toInt = 45 ∨ z_4.toInt = 46 ∨ z_4.toInt = 47 ∨ z_4.toInt = 48 ∨ z_4.toInt = 49 by omega) with sw_5_0 | sw_5_1 | sw_5_2 | sw_5_3 | sw_5_4 | sw_5_5 | sw_5_6 | sw_5_7 | sw_5_8 | sw_5_9 | sw_5_10 | sw_5_11 | sw_5_12 | sw_5_13 | sw_5_14 | sw_5_15 | sw_5_16 | sw_5_17 | sw_5_18 | sw_5_19 | sw_5_20 | sw_5_21 | sw_5_22 | sw_5_23 | sw_5_24 | sw_5_25 | sw_5_26 | sw_5_27 | sw_5_28 | sw_5_29 | sw_5_30 | sw_5_31 | sw_5_32 | sw_5_33 | sw_5_34 | sw_5_35 | sw_5_36 | sw_5_37 | sw_5_38 | sw_5_39 | sw_5_40 | sw_5_41 | sw_5_42 | sw_5_43 | sw_5_44 | sw_5_45 | sw_5_46 | sw_5_47 | sw_5_48 | sw_5_49
      · skip
        refine lv_tableIn (tgt := 248) hx hb dL_law_33 (by omega) (by omega) (by rw [sw_5_0]; rfl) (by decide) ?_
        exact lc_0 D cy adK adV base xo mo C0 hK hSS hZ hZ2 hbA hLs τ G i hi0 (by omega) hLI hT hS (lv_sub hl [0, 1, 2, 3] rfl) hroom (kk (by omega))
      · skip
        refine lv_tableIn (tgt := 311) hx hb dL_law_33 (by omega) (by omega) (by rw [sw_5_1]; rfl) (by decide) ?_
        exact lc_1 D cy adK adV base xo mo C0 hK hSS hZ hZ2 hbA hLs τ G i hi0 (by omega) hLI hT hS (lv_sub hl [0, 1, 2, 3] rfl) hroom (kk (by omega))
      · skip
        refine lv_tableIn (tgt := 334) hx hb dL_law_33 (by omega) (by omega) (by rw [sw_5_2]; rfl) (by decide) ?_
        exact lc_2 D cy adK adV base xo mo C0 hK hSS hZ hZ2 hbA hLs τ G i hi0 (by omega) hLI hT hS (lv_sub hl [0, 1, 2, 3] rfl) hroom (kk (by omega))
      · skip
        refine lv_tableIn (tgt := 347) hx hb dL_law_33 (by omega) (by omega) (by rw [sw_5_3]; rfl) (by decide) ?_
        exact lc_3 D cy adK adV base xo mo C0 hK hSS hZ hZ2 hbA hLs τ G i hi0 (by omega) hLI hT hS (lv_sub hl [0, 1, 2, 3] rfl) hroom (kk (by omega))
      · skip
        refine lv_tableIn (tgt := 370) hx hb dL_law_33 (by omega) (by omega) (by rw [sw_5_4]; rfl) (by decide) ?_
        exact lc_4 D cy adK adV base xo mo C0 hK hSS hZ hZ2 hbA hLs τ G i hi0 (by omega) hLI hT hS (lv_sub hl [0, 1, 2, 3] rfl) hroom (kk (by omega))
      · skip
        refine lv_tableIn (tgt := 403) hx hb dL_law_33 (by omega) (by omega) (by rw [sw_5_5]; rfl) (by decide) ?_
        exact lc_5 D cy adK adV base xo mo C0 hK hSS hZ hZ2 hbA hLs τ G i hi0 (by omega) hLI hT hS (lv_sub hl [0, 1, 2, 3] rfl) hroom (kk (by omega))
      · skip
        refine lv_tableIn (tgt := 436) hx hb dL_law_33 (by omega) (by omega) (by rw [sw_5_6]; rfl) (by decide) ?_
        exact lc_6 D cy adK adV base xo mo C0 hK hSS hZ hZ2 hbA hLs τ G i hi0 (by omega) hLI hT hS (lv_sub hl [0, 1, 2, 3] rfl) hroom (kk (by omega))
      · skip
        refine lv_tableIn (tgt := 489) hx hb dL_law_33 (by omega) (by omega) (by rw [sw_5_7]; rfl) (by decide) ?_
        exact lc_7 D cy adK adV base xo mo C0 hK hSS hZ hZ2 hbA hLs τ G i hi0 (by omega) hLI hT hS (lv_sub hl [0, 1, 2, 3] rfl) hroom (kk (by omega))
      · skip
        refine lv_tableIn (tgt := 522) hx hb dL_law_33 (by omega) (by omega) (by rw [sw_5_8]; rfl) (by decide) ?_
        exact lc_8 D cy adK adV base xo mo C0 hK hSS hZ hZ2 hbA hLs τ G i hi0 (by omega) hLI hT hS (lv_sub hl [0, 1, 2, 3] rfl) hroom (kk (by omega))
      · skip
        refine lv_tableIn (tgt := 555) hx hb dL_law_33 (by omega) (by omega) (by rw [sw_5_9]; rfl) (by decide) ?_
        exact lc_9 D cy adK adV base xo mo C0 hK hSS hZ hZ2 hbA hLs τ G i hi0 (by omega) hLI hT hS (lv_sub hl [0, 1, 2, 3] rfl) hroom (kk (by omega))
      · skip
        refine lv_tableIn (tgt := 588) hx hb dL_law_33 (by omega) (by omega) (by rw [sw_5_10]; rfl) (by decide) ?_
        exact lc_10 D cy adK adV base xo mo C0 hK hSS hZ hZ2 hbA hLs τ G i hi0 (by omega) hLI hT hS (lv_sub hl [0, 1, 2, 3] rfl) hroom (kk (by omega))
      · skip
        refine lv_tableIn (tgt := 631) hx hb dL_law_33 (by omega) (by omega) (by rw [sw_5_11]; rfl) (by decide) ?_
        exact lc_11 D cy adK adV base xo mo C0 hK hSS hZ hZ2 hbA hLs τ G i hi0 (by omega) hLI hT hS (lv_sub hl [0, 1, 2, 3] rfl) hroom (kk (by omega))
      · skip
        refine lv_tableIn (tgt := 674) hx hb dL_law_33 (by omega) (by omega) (by rw [sw_5_12]; rfl) (by decide) ?_
        exact lc_12 D cy adK adV base xo mo C0 hK hSS hZ hZ2 hbA hLs τ G i hi0 (by omega) hLI hT hS (lv_sub hl [0, 1, 2, 3] rfl) hroom (kk (by omega))
      · skip
        refine lv_tableIn (tgt := 717) hx hb dL_law_33 (by omega) (by omega) (by rw [sw_5_13]; rfl) (by decide) ?_
        exact lc_13 D cy adK adV base xo mo C0 hK hSS hZ hZ2 hbA hLs τ G i hi0 (by omega) hLI hT hS (lv_sub hl [0, 1, 2, 3] rfl) hroom (kk (by omega))
      · skip
        refine lv_tableIn (tgt := 750) hx hb dL_law_33 (by omega) (by omega) (by rw [sw_5_14]; rfl) (by decide) ?_
        exact lc_14 D cy adK adV base xo mo C0 hK hSS hZ hZ2 hbA hLs τ G i hi0 (by omega) hLI hT hS (lv_sub hl [0, 1, 2, 3] rfl) hroom (kk (by omega))
      · skip
        refine lv_tableIn (tgt := 793) hx hb dL_law_33 (by omega) (by omega) (by rw [sw_5_15]; rfl) (by decide) ?_
        exact lc_15 D cy adK adV base xo mo C0 hK hSS hZ hZ2 hbA hLs τ G i hi0 (by omega) hLI hT hS (lv_sub hl [0, 1, 2, 3] rfl) hroom (kk (by omega))
      · skip
        refine lv_tableIn (tgt := 836) hx hb dL_law_33 (by omega) (by omega) (by rw [sw_5_16]; rfl) (by decide) ?_
        exact lc_16 D cy adK adV base xo mo C0 hK hSS hZ hZ2 hbA hLs τ G i hi0 (by omega) hLI hT hS (lv_sub hl [0, 1, 2, 3] rfl) hroom (kk (by omega))
      · skip
        refine lv_tableIn (tgt := 859) hx hb dL_law_33 (by omega) (by omega) (by rw [sw_5_17]; rfl) (by decide) ?_
        exact lc_17 D cy adK adV base xo mo C0 hK hSS hZ hZ2 hbA hLs τ G i hi0 (by omega) hLI hT hS (lv_sub hl [0, 1, 2, 3] rfl) hroom (kk (by omega))
      · skip
        refine lv_tableIn (tgt := 892) hx hb dL_law_33 (by omega) (by omega) (by rw [sw_5_18]; rfl) (by decide) ?_
        exact lc_18 D cy adK adV base xo mo C0 hK hSS hZ hZ2 hbA hLs τ G i hi0 (by omega) hLI hT hS (lv_sub hl [0, 1, 2, 3] rfl) hroom (kk (by omega))
      · skip
        refine lv_tableIn (tgt := 915) hx hb dL_law_33 (by omega) (by omega) (by rw [sw_5_19]; rfl) (by decide) ?_
        exact lc_19 D cy adK adV base xo mo C0 hK hSS hZ hZ2 hbA hLs τ G i hi0 (by omega) hLI hT hS (lv_sub hl [0, 1, 2, 3] rfl) hroom (kk (by omega))
      · skip
        refine lv_tableIn (tgt := 948) hx hb dL_law_33 (by omega) (by omega) (by rw [sw_5_20]; rfl) (by decide) ?_
        exact lc_20 D cy adK adV base xo mo C0 hK hSS hZ hZ2 hbA hLs τ G i hi0 (by omega) hLI hT hS (lv_sub hl [0, 1, 2, 3] rfl) hroom (kk (by omega))
      · skip
        refine lv_tableIn (tgt := 1027) hx hb dL_law_33 (by omega) (by omega) (by rw [sw_5_21]; rfl) (by decide) ?_
        exact lc_21 D cy adK adV base xo mo C0 hK hSS hZ hZ2 hbA hLs τ G i hi0 (by omega) hLI hT hS (lv_sub hl [0, 1, 2, 3] rfl) hroom (kk (by omega))
      · skip
        refine lv_tableIn (tgt := 1060) hx hb dL_law_33 (by omega) (by omega) (by rw [sw_5_22]; rfl) (by decide) ?_
        exact lc_22 D cy adK adV base xo mo C0 hK hSS hZ hZ2 hbA hLs τ G i hi0 (by omega) hLI hT hS (lv_sub hl [0, 1, 2, 3] rfl) hroom (kk (by omega))
      · skip
        refine lv_tableIn (tgt := 1093) hx hb dL_law_33 (by omega) (by omega) (by rw [sw_5_23]; rfl) (by decide) ?_
        exact lc_23 D cy adK adV base xo mo C0 hK hSS hZ hZ2 hbA hLs τ G i hi0 (by omega) hLI hT hS (lv_sub hl [0, 1, 2, 3] rfl) hroom (kk (by omega))
      · skip
        refine lv_tableIn (tgt := 1146) hx hb dL_law_33 (by omega) (by omega) (by rw [sw_5_24]; rfl) (by decide) ?_
        exact lc_24 D cy adK adV base xo mo C0 hK hSS hZ hZ2 hbA hLs τ G i hi0 (by omega) hLI hT hS (lv_sub hl [0, 1, 2, 3] rfl) hroom (kk (by omega))
      · skip
        refine lv_tableIn (tgt := 1189) hx hb dL_law_33 (by omega) (by omega) (by rw [sw_5_25]; rfl) (by decide) ?_
        exact lc_25 D cy adK adV base xo mo C0 hK hSS hZ hZ2 hbA hLs τ G i hi0 (by omega) hLI hT hS (lv_sub hl [0, 1, 2, 3] rfl) hroom (kk (by omega))
      · skip
        refine lv_tableIn (tgt := 1232) hx hb dL_law_33 (by omega) (by omega) (by rw [sw_5_26]; rfl) (by decide) ?_
        exact lc_26 D cy adK adV base xo mo C0 hK hSS hZ hZ2 hbA hLs τ G i hi0 (by omega) hLI hT hS (lv_sub hl [0, 1, 2, 3] rfl) hroom (kk (by omega))
      · skip
        refine lv_tableIn (tgt := 1275) hx hb dL_law_33 (by omega) (by omega) (by rw [sw_5_27]; rfl) (by decide) ?_
        exact lc_27 D cy adK adV base xo mo C0 hK hSS hZ hZ2 hbA hLs τ G i hi0 (by omega) hLI hT hS (lv_sub hl [0, 1, 2, 3] rfl) hroom (kk (by omega))
      · skip
        refine lv_tableIn (tgt := 1308) hx hb dL_law_33 (by omega) (by omega) (by rw [sw_5_28]; rfl) (by decide) ?_
        exact lc_28 D cy adK adV base xo mo C0 hK hSS hZ hZ2 hbA hLs τ G i hi0 (by omega) hLI hT hS (lv_sub hl [0, 1, 2, 3] rfl) hroom (kk (by omega))
      · skip
        refine lv_tableIn (tgt := 1331) hx hb dL_law_33 (by omega) (by omega) (by rw [sw_5_29]; rfl) (by decide) ?_
        exact lc_29 D cy adK adV base xo mo C0 hK hSS hZ hZ2 hbA hLs τ G i hi0 (by omega) hLI hT hS (lv_sub hl [0, 1, 2, 3] rfl) hroom (kk (by omega))
      · skip
        refine lv_tableIn (tgt := 1384) hx hb dL_law_33 (by omega) (by omega) (by rw [sw_5_30]; rfl) (by decide) ?_
        exact lc_30 D cy adK adV base xo mo C0 hK hSS hZ hZ2 hbA hLs τ G i hi0 (by omega) hLI hT hS (lv_sub hl [0, 1, 2, 3] rfl) hroom (kk (by omega))
      · skip
        refine lv_tableIn (tgt := 1417) hx hb dL_law_33 (by omega) (by omega) (by rw [sw_5_31]; rfl) (by decide) ?_
        exact lc_31 D cy adK adV base xo mo C0 hK hSS hZ hZ2 hbA hLs τ G i hi0 (by omega) hLI hT hS (lv_sub hl [0, 1, 2, 3] rfl) hroom (kk (by omega))
      · skip
        refine lv_tableIn (tgt := 1470) hx hb dL_law_33 (by omega) (by omega) (by rw [sw_5_32]; rfl) (by decide) ?_
        exact lc_32 D cy adK adV base xo mo C0 hK hSS hZ hZ2 hbA hLs τ G i hi0 (by omega) hLI hT hS (lv_sub hl [0, 1, 2, 3] rfl) hroom (kk (by omega))
      · skip
        refine lv_tableIn (tgt := 1533) hx hb dL_law_33 (by omega) (by omega) (by rw [sw_5_33]; rfl) (by decide) ?_
        exact lc_33 D cy adK adV base xo mo C0 hK hSS hZ hZ2 hbA hLs τ G i hi0 (by omega) hLI hT hS (lv_sub hl [0, 1, 2, 3] rfl) hroom (kk (by omega))
      · skip
        refine lv_tableIn (tgt := 1596) hx hb dL_law_33 (by omega) (by omega) (by rw [sw_5_34]; rfl) (by decide) ?_
        exact lc_34 D cy adK adV base xo mo C0 hK hSS hZ hZ2 hbA hLs τ G i hi0 (by omega) hLI hT hS (lv_sub hl [0, 1, 2, 3] rfl) hroom (kk (by omega))
      · skip
        refine lv_tableIn (tgt := 1649) hx hb dL_law_33 (by omega) (by omega) (by rw [sw_5_35]; rfl) (by decide) ?_
        exact lc_35 D cy adK adV base xo mo C0 hK hSS hZ hZ2 hbA hLs τ G i hi0 (by omega) hLI hT hS (lv_sub hl [0, 1, 2, 3] rfl) hroom (kk (by omega))
      · skip
        refine lv_tableIn (tgt := 1702) hx hb dL_law_33 (by omega) (by omega) (by rw [sw_5_36]; rfl) (by decide) ?_
        exact lc_36 D cy adK adV base xo mo C0 hK hSS hZ hZ2 hbA hLs τ G i hi0 (by omega) hLI hT hS (lv_sub hl [0, 1, 2, 3] rfl) hroom (kk (by omega))
      · skip
        refine lv_tableIn (tgt := 1745) hx hb dL_law_33 (by omega) (by omega) (by rw [sw_5_37]; rfl) (by decide) ?_
        exact lc_37 D cy adK adV base xo mo C0 hK hSS hZ hZ2 hbA hLs τ G i hi0 (by omega) hLI hT hS (lv_sub hl [0, 1, 2, 3] rfl) hroom (kk (by omega))
      · skip
        refine lv_tableIn (tgt := 1768) hx hb dL_law_33 (by omega) (by omega) (by rw [sw_5_38]; rfl) (by decide) ?_
        exact lc_38 D cy adK adV base xo mo C0 hK hSS hZ hZ2 hbA hLs τ G i hi0 (by omega) hLI hT hS (lv_sub hl [0, 1, 2, 3] rfl) hroom (kk (by omega))
      · skip
        refine lv_tableIn (tgt := 1791) hx hb dL_law_33 (by omega) (by omega) (by rw [sw_5_39]; rfl) (by decide) ?_
        exact lc_39 D cy adK adV base xo mo C0 hK hSS hZ hZ2 hbA hLs τ G i hi0 (by omega) hLI hT hS (lv_sub hl [0, 1, 2, 3] rfl) hroom (kk (by omega))
      · skip
        refine lv_tableIn (tgt := 1814) hx hb dL_law_33 (by omega) (by omega) (by rw [sw_5_40]; rfl) (by decide) ?_
        exact lc_40 D cy adK adV base xo mo C0 hK hSS hZ hZ2 hbA hLs τ G i hi0 (by omega) hLI hT hS (lv_sub hl [0, 1, 2, 3] rfl) hroom (kk (by omega))
      · skip
        refine lv_tableIn (tgt := 1867) hx hb dL_law_33 (by omega) (by omega) (by rw [sw_5_41]; rfl) (by decide) ?_
        exact lc_41 D cy adK adV base xo mo C0 hK hSS hZ hZ2 hbA hLs τ G i hi0 (by omega) hLI hT hS (lv_sub hl [0, 1, 2, 3] rfl) hroom (kk (by omega))
      · skip
        refine lv_tableIn (tgt := 1900) hx hb dL_law_33 (by omega) (by omega) (by rw [sw_5_42]; rfl) (by decide) ?_
        exact lc_42 D cy adK adV base xo mo C0 hK hSS hZ hZ2 hbA hLs τ G i hi0 (by omega) hLI hT hS (lv_sub hl [0, 1, 2, 3] rfl) hroom (kk (by omega))
      · skip
        refine lv_tableIn (tgt := 1943) hx hb dL_law_33 (by omega) (by omega) (by rw [sw_5_43]; rfl) (by decide) ?_
        exact lc_43 D cy adK adV base xo mo C0 hK hSS hZ hZ2 hbA hLs τ G i hi0 (by omega) hLI hT hS (lv_sub hl [0, 1, 2, 3] rfl) hroom (kk (by omega))
      · skip
        refine lv_tableIn (tgt := 2018) hx hb dL_law_33 (by omega) (by omega) (by rw [sw_5_44]; rfl) (by decide) ?_
        exact lc_44 D cy adK adV base xo mo C0 hK hSS hZ hZ2 hbA hLs τ G i hi0 (by omega) hLI hT hS (lv_sub hl [0, 1, 2, 3] rfl) hroom (kk (by omega))
      · skip
        refine lv_tableIn (tgt := 2041) hx hb dL_law_33 (by omega) (by omega) (by rw [sw_5_45]; rfl) (by decide) ?_
        exact lc_45 D cy adK adV base xo mo C0 hK hSS hZ hZ2 hbA hLs τ G i hi0 (by omega) hLI hT hS (lv_sub hl [0, 1, 2, 3] rfl) hroom (kk (by omega))
      · skip
        refine lv_tableIn (tgt := 2064) hx hb dL_law_33 (by omega) (by omega) (by rw [sw_5_46]; rfl) (by decide) ?_
        exact lc_46 D cy adK adV base xo mo C0 hK hSS hZ hZ2 hbA hLs τ G i hi0 (by omega) hLI hT hS (lv_sub hl [0, 1, 2, 3] rfl) hroom (kk (by omega))
      · skip
        refine lv_tableIn (tgt := 2087) hx hb dL_law_33 (by omega) (by omega) (by rw [sw_5_47]; rfl) (by decide) ?_
        exact lc_47 D cy adK adV base xo mo C0 hK hSS hZ hZ2 hbA hLs τ G i hi0 (by omega) hLI hT hS (lv_sub hl [0, 1, 2, 3] rfl) hroom (kk (by omega))
      · skip
        refine lv_tableIn (tgt := 2130) hx hb dL_law_33 (by omega) (by omega) (by rw [sw_5_48]; rfl) (by decide) ?_
        exact lc_48 D cy adK adV base xo mo C0 hK hSS hZ hZ2 hbA hLs τ G i hi0 (by omega) hLI hT hS (lv_sub hl [0, 1, 2, 3] rfl) hroom (kk (by omega))
      · skip
        refine lv_tableIn (tgt := 2203) hx hb dL_law_33 (by omega) (by omega) (by rw [sw_5_49]; rfl) (by decide) ?_
        exact lc_49 D cy adK adV base xo mo C0 hK hSS hZ hZ2 hbA hLs τ G i hi0 (by omega) hLI hT hS (lv_sub hl [0, 1, 2, 3] rfl) hroom (kk (by omega))
set_option maxHeartbeats 4000000 in
theorem law_loop {p : Program} {e : Env} {s : State} {m : MethodId} {below : List Frame} {meth : Method} {c : Code} {l : Launch} {b L : Nat} {xs : Nat → Int32} (D : va_G) (cy : Nat → ClassId) (adK adV : Nat → Nat) (base xo mo : Nat) (C0 : lw_At p s m meth c b L xs) (hK : KK D cy s) (hSS : SS adK adV base s s.heap) (hZ : base ≤ s.heap.size) (hZ2 : s.heap.size ≤ base) (hbA : ¬ RA base b) (hLs : L ≤ 3584) : ∀ (n : Nat) (τ : Nat → Nat) (G : Gh) (i : Int32) (H : Heap) (locs : List Loc) (ls : Array Slot) (cells slots : Nat), 0 ≤ i.toInt → (L : Int) ≤ i.toInt + 7 * n → LI τ G xo mo → TY D cy base τ G H → va_S (RA base) s.heap H locs → lv_has ls 4 [(3, .int i), (2, .ref mo), (1, .ref xo), (0, .ref b)] → cells + 10 * n + 100 ≤ 600000 → slots + 200 * n + 1000 ≤ 7302250 → W p l e room_1 s m #[Value.ref b] below meth c H locs cells slots (lw_Z below #[Value.ref b] s) (F0 m 18 ls []) := by
  intro n
  induction n with
  | zero =>
    intro τ G i H locs ls cells slots hi0 hn hLI hT hS hl h1 h2
    exact law_step D cy adK adV base xo mo C0 hK hSS hZ hZ2 hbA hLs τ G i hi0 hLI hT hS hl ⟨show cells + 100 ≤ 600000 by omega, show slots + 1000 ≤ 7302250 by omega⟩ (fun hi7 => by exfalso; omega)
  | succ n ih =>
    intro τ G i H locs ls cells slots hi0 hn hLI hT hS hl h1 h2
    refine law_step D cy adK adV base xo mo C0 hK hSS hZ hZ2 hbA hLs τ G i hi0 hLI hT hS hl ⟨show cells + 100 ≤ 600000 by omega, show slots + 1000 ≤ 7302250 by omega⟩ (fun hi7 τ H1 H locs ls hLI hT hS hl => ?_)
    obtain ⟨hx, hb, hr, hml, hown, hts, hX, hbl, hlocks, hgv⟩ := id C0
    have hb : c.code = cL_law := hb
    obtain ⟨z, ez⟩ : ∃ y : Int32, y = i + 7 := ⟨_, rfl⟩
    have tz : z.toInt = i.toInt + 7 := add_t ez (show -2147483648 ≤ i.toInt + 7 by omega) (show i.toInt + 7 < 2147483648 by omega)
    refine lv_iinc (v := z) (lv' := [(3, .int z), (2, .ref mo), (1, .ref xo), (0, .ref b)]) hx hb dL_law_2266 hl (k := 0) rfl (by rw [ez]; rfl) (by decide) rfl (fun ls hl => ?_)
    refine lv_goto (tgt := 18) hx hb dL_law_2269 (by decide) ?_
    exact ih τ H1 z H locs ls (cells + 10) (slots + 200) (by omega) (by omega) hLI hT hS hl (by omega) (by omega)
