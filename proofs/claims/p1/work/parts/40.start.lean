theorem dL_law_27 : decode cL_law 27 = .ok (.aload_n 0, 1) := by decide +kernel
theorem dL_law_28 : decode cL_law 28 = .ok (.iload_n 3, 1) := by decide +kernel
theorem dL_law_29 : decode cL_law 29 = .ok (.iaload, 1) := by decide +kernel
theorem dL_law_30 : decode cL_law 30 = .ok (.bipush 63, 2) := by decide +kernel
theorem dL_law_32 : decode cL_law 32 = .ok (.iand, 1) := by decide +kernel
theorem dL_law_33 : decode cL_law 33 = .ok (.tableswitch 2253 0 49 #[215, 278, 301, 314, 337, 371, 405, 459, 493, 527, 560, 603, 647, 691, 724, 768, 811, 835, 868, 892, 926, 1005, 1038, 1072, 1126, 1169, 1213, 1257, 1290, 1313, 1367, 1400, 1453, 1516, 1580, 1634, 1688, 1731, 1754, 1777, 1800, 1853, 1886, 1930, 2005, 2028, 2051, 2074, 2117, 2190], 215) := by decide +kernel
theorem dL_law_0 : decode cL_law 0 = .ok (.new 7, 3) := by decide +kernel
theorem dL_law_3 : decode cL_law 3 = .ok (.dup, 1) := by decide +kernel
theorem dL_law_4 : decode cL_law 4 = .ok (.invokespecial 9, 3) := by decide +kernel
theorem dL_law_7 : decode cL_law 7 = .ok (.astore_n 1, 1) := by decide +kernel
theorem dL_law_8 : decode cL_law 8 = .ok (.new 10, 3) := by decide +kernel
theorem dL_law_11 : decode cL_law 11 = .ok (.dup, 1) := by decide +kernel
theorem dL_law_12 : decode cL_law 12 = .ok (.invokespecial 12, 3) := by decide +kernel
theorem dL_law_15 : decode cL_law 15 = .ok (.astore_n 2, 1) := by decide +kernel
theorem dL_law_16 : decode cL_law 16 = .ok (.iconst 0, 1) := by decide +kernel
theorem dL_law_17 : decode cL_law 17 = .ok (.istore_n 3, 1) := by decide +kernel
theorem sI_L_9 : SiteI RL 9 yX9_init cX9_init 1 0 := ⟨ml_L_9, im_X9_init, ini_X9, co_X9_init, rfl, by decide +kernel⟩
theorem sI_L_12 : SiteI RL 12 yX10_init cX10_init 2 0 := ⟨ml_L_12, im_X10_init, ini_X10, co_X10_init, rfl, by decide +kernel⟩
theorem tb_t1 {w : Cond} (h : w ∈ tables_1_1) : w ∈ lw_tbl := List.mem_append_right _ (show w ∈ tables_1 from (List.mem_append_left _ h))
theorem tb_t2 {w : Cond} (h : w ∈ tables_1_2) : w ∈ lw_tbl := List.mem_append_right _ (show w ∈ tables_1 from (List.mem_append_right _ (List.mem_append_left _ h)))
theorem arr_kn {ty : FieldType} {args : Array Value} {s : State} (h : (Cond.arrayClass ty).before args s = true) : ∃ cA : ClassId, s.vm.findClass ("[" ++ ty.toString) = some cA ∧ ArrOfT s cA ty := by
  obtain ⟨cA, kA, comp, h1, h2, h3⟩ := Cond.arrayClass_spec h
  exact ⟨cA, h1, fun n z => ⟨fun k h => (by cases h), kA, h2, comp, h3⟩⟩
theorem arr_knO {C : String} {s : State} (h : va_AO C s) : ∃ cA : ClassId, ArrOfT s cA (.object C) ∧ va_RA s cA (.object C) := by
  obtain ⟨comp, cA, kA, h1, h2, h3, h4, h5⟩ := Cond.arrayOver_spec h
  exact ⟨cA, fun N z => ⟨(fun k h => by cases h), kA, h3, comp, h4⟩, kA, comp, h3, h4, h1, h5⟩
theorem nw_start {s : State} {b : Nat} (hts : ∀ w ∈ lw_tbl, w.before #[Value.ref b] s = true) : ∀ q ∈ nwL, va_Nw (.methodLinkNest q.1 q.2.1 q.2.2 "RoadShut") s := by
  intro q hq
  simp only [nwL, List.mem_cons, List.not_mem_nil, or_false] at hq
  rcases hq with rfl | rfl | rfl | rfl | rfl | rfl | rfl | rfl | rfl
  · exact va_Nw.of rfl (hts _ (tb_t1 (List.mem_of_getElem? (i := 30) rfl)))
  · exact va_Nw.of rfl (hts _ (tb_t1 (List.mem_of_getElem? (i := 36) rfl)))
  · exact va_Nw.of rfl (hts _ (tb_t1 (List.mem_of_getElem? (i := 197) rfl)))
  · exact va_Nw.of rfl (hts _ (tb_t1 (List.mem_of_getElem? (i := 203) rfl)))
  · exact va_Nw.of rfl (hts _ (tb_t2 (List.mem_of_getElem? (i := 9) rfl)))
  · exact va_Nw.of rfl (hts _ (tb_t2 (List.mem_of_getElem? (i := 14) rfl)))
  · exact va_Nw.of rfl (hts _ (tb_t2 (List.mem_of_getElem? (i := 48) rfl)))
  · exact va_Nw.of rfl (hts _ (tb_t2 (List.mem_of_getElem? (i := 58) rfl)))
  · exact va_Nw.of rfl (hts _ (tb_t2 (List.mem_of_getElem? (i := 71) rfl)))
theorem kk_start {p : Program} {s : State} {m : MethodId} {meth : Method} {c : Code} {b L : Nat} {xs : Nat → Int32} (C0 : lw_At p s m meth c b L xs) : ∃ (D : va_G) (cy : Nat → ClassId), KK D cy s := by
  obtain ⟨hx, hb, hr, hml, hown, hts, hX, hbl, hlocks, hgv⟩ := C0
  have hg : ∀ w ∈ GW, w.before #[Value.ref b] s = true := fun w h => hts w (gw_tbl w h)
  obtain ⟨c0, i0, k0⟩ := u_known (C := RX0) (T := TX0) (N := 1) (n := 1) hg lay_X0 (hg _ ins_X0)
  obtain ⟨c1, i1, k1⟩ := u_known (C := RX1) (T := TX1) (N := 2) (n := 2) hg lay_X1 (hg _ ins_X1)
  obtain ⟨c2, i2, k2⟩ := u_known (C := RX2) (T := TX2) (N := 21) (n := 21) hg lay_X2 (hg _ ins_X2)
  obtain ⟨c3, i3, k3⟩ := u_known (C := RX3) (T := TX3) (N := 10) (n := 10) hg lay_X3 (hg _ ins_X3)
  obtain ⟨c4, i4, k4⟩ := u_known (C := RX4) (T := TX4) (N := 12) (n := 12) hg lay_X4 (hg _ ins_X4)
  obtain ⟨c5, i5, k5⟩ := u_known (C := RX5) (T := TX5) (N := 7) (n := 7) hg lay_X5 (hg _ ins_X5)
  obtain ⟨c6, i6, k6⟩ := u_known (C := RX6) (T := TX6) (N := 2) (n := 2) hg lay_X6 (hg _ ins_X6)
  obtain ⟨c7, i7, k7⟩ := u_known (C := RX7) (T := TX7) (N := 1) (n := 1) hg lay_X7 (hg _ ins_X7)
  obtain ⟨c8, i8, k8⟩ := u_known (C := RX8) (T := TX8) (N := 5) (n := 5) hg lay_X8 (hg _ ins_X8)
  obtain ⟨c9, i9, k9⟩ := u_known (C := RX9) (T := TX9) (N := 14) (n := 14) hg lay_X9 (hg _ ins_X9)
  obtain ⟨c10, i10, k10⟩ := u_known (C := RX10) (T := TX10) (N := 43) (n := 43) hg lay_X10 (hg _ ins_X10)
  obtain ⟨a0, ha0, hb0⟩ := arr_kn (hg _ ac_byte)
  obtain ⟨a1, ha1, hb1⟩ := arr_kn (hg _ ac_int)
  obtain ⟨a2, ha2, hb2⟩ := arr_kn (hg _ ac_long)
  obtain ⟨a3, ha3, hb3⟩ := arr_kn (hg _ ac_boolean)
  have o4 : va_AO RX6 s := va_AO.of (hts _ (tb_t2 (List.mem_of_getElem? (i := 67) rfl)))
  obtain ⟨a4, ha4, hb4⟩ := arr_knO o4
  have o5 : va_AO RX1 s := va_AO.of (hts _ (tb_t2 (List.mem_of_getElem? (i := 69) rfl)))
  obtain ⟨a5, ha5, hb5⟩ := arr_knO o5
  refine ⟨((fun k => match k with | 1 => c1 | 2 => c2 | 3 => c3 | 4 => c4 | 5 => c5 | 6 => c6 | 7 => c7 | 8 => c8 | 9 => c9 | 10 => c10 | _ => c0), (fun k => match k with | 1 => i1 | 2 => i2 | 3 => i3 | 4 => i4 | 5 => i5 | 6 => i6 | 7 => i7 | 8 => i8 | 9 => i9 | 10 => i10 | _ => i0)), (fun k => match k with | 1 => a1 | 2 => a2 | 3 => a3 | 4 => a4 | 5 => a5 | _ => a0), ⟨?_, ?_⟩, nw_start hts, o4, o5⟩
  · intro k q hq
    match k, hq with
    | 0, hq => cases hq; exact k0
    | 1, hq => cases hq; exact k1
    | 2, hq => cases hq; exact k2
    | 3, hq => cases hq; exact k3
    | 4, hq => cases hq; exact k4
    | 5, hq => cases hq; exact k5
    | 6, hq => cases hq; exact k6
    | 7, hq => cases hq; exact k7
    | 8, hq => cases hq; exact k8
    | 9, hq => cases hq; exact k9
    | 10, hq => cases hq; exact k10
    | k + 11, hq => exact absurd hq (by simp [vwCl])
  · intro k q hq
    match k, hq with
    | 0, hq => cases hq; exact ⟨hb0, ha0⟩
    | 1, hq => cases hq; exact ⟨hb1, ha1⟩
    | 2, hq => cases hq; exact ⟨hb2, ha2⟩
    | 3, hq => cases hq; exact ⟨hb3, ha3⟩
    | 4, hq => cases hq; exact ⟨ha4, hb4⟩
    | 5, hq => cases hq; exact ⟨ha5, hb5⟩
    | k + 6, hq => exact absurd hq (by simp [tyL])
theorem lt7 : ∀ L : Nat, L < 7 → Int32.ofNat L - 7 < 0 := by decide
set_option maxHeartbeats 4000000 in
set_option maxRecDepth 100000 in
theorem law_head {p : Program} {e : Env} {s : State} {m : MethodId} {below : List Frame} {meth : Method} {c : Code} {l : Launch} {b L : Nat} {xs : Nat → Int32} {A : Nat → Prop} (D : va_G) (cy : Nat → ClassId) (xa ma : Nat → Nat) (fw : Nat → Int32) (hw : ∀ k : Nat, k < 4 → fw k = -1) (hLe : L ≤ 7) (C0 : lw_At p s m meth c b L xs) (hK : KK D cy s) (hA : ∀ q : Nat, s.heap.size ≤ q → A q) (hA2 : ∀ q : Nat, A q → s.heap.size ≤ q) (hbA : ¬ A b) {H : Heap} {locs : List Loc} (hP : va_P D vwCl [((xa 0), .inr (9, [.ref (xa 1), .ref (xa 2), .ref (xa 3), .ref (xa 4), .ref (xa 5), .ref (xa 6), .ref (xa 7), .ref (xa 8), .ref (xa 9), .int 0, .ref (xa 11), .null, .int 0, .int (-1)])), ((xa 1), .inl (cy 0, 1600, .inl (fun _ => 0))), ((xa 2), .inr (4, [.int 0, .int (-1), .ref (xa 30), .int 0, .int 0, .int 0, .int 0, .int 0, .ref (xa 31), .int 0, .int 0, .int 0])), ((xa 8), .inl (cy 4, 4, .inr (.inr (.inr (.inr (fun _ => none)))))), ((xa 9), .inl (cy 5, 3, .inr (.inr (.inr (.inr (fun _ => none)))))), ((xa 11), .inr (2, [.int 0, .int 0, .int 0, .int 0, .int 0, .int 0, .int 0, .int 0, .int 1, .int 10, .int 0, .int 0, .int 0, .int 0, .ref (xa 20), .ref (xa 21), .ref (xa 22), .ref (xa 23), .ref (xa 24), .ref (xa 25), .ref (xa 26)])), ((ma 0), .inr (10, [.int 0, .ref (ma 1), .ref (ma 2), .ref (ma 3), .ref (ma 4), .ref (ma 5), .int 0, .int 0, .int 0, .int 0, .int 0, .long 0, .int 0, .int 0, .int 0, .int (-1), .ref (ma 16), .ref (ma 17), .ref (ma 18), .ref (ma 19), .ref (ma 20), .ref (ma 21), .ref (ma 22), .ref (ma 23), .ref (ma 24), .ref (ma 25), .ref (ma 26), .ref (ma 27), .ref (ma 28), .ref (ma 29), .ref (ma 30), .ref (ma 31), .ref (ma 32), .ref (ma 33), .ref (ma 34), .ref (ma 35), .ref (ma 36), .ref (ma 37), .ref (ma 38), .ref (ma 39), .ref (ma 40), .ref (ma 41), .long 0])), ((ma 1), .inl (cy 1, 4, .inl fw)), ((ma 2), .inl (cy 1, 4, .inl (fun _ => 0))), ((ma 3), .inl (cy 2, 240, .inr (.inl (fun _ => 0)))), ((ma 5), .inl (cy 0, 1600, .inl (fun _ => 0))), ((ma 16), .inl (cy 1, 5, .inl (fun _ => 0))), ((ma 17), .inl (cy 1, 20, .inl (fun _ => 0))), ((ma 18), .inl (cy 1, 5, .inl (fun _ => 0))), ((ma 19), .inl (cy 1, 45, .inl (fun _ => 0))), ((ma 20), .inl (cy 1, 5, .inl (fun _ => 0))), ((ma 21), .inl (cy 1, 150, .inl (fun _ => 0))), ((ma 22), .inl (cy 1, 5, .inl (fun _ => 0))), ((ma 23), .inl (cy 1, 120, .inl (fun _ => 0))), ((ma 24), .inl (cy 1, 30, .inl (fun _ => 0))), ((ma 25), .inl (cy 3, 15, .inl (fun _ => 0))), ((ma 26), .inl (cy 1, 5, .inl (fun _ => 0))), ((ma 27), .inl (cy 1, 30, .inl (fun _ => 0))), ((ma 28), .inl (cy 3, 3, .inl (fun _ => 0)))] H) (hD : va_D A [((xa 0), .inr (9, [.ref (xa 1), .ref (xa 2), .ref (xa 3), .ref (xa 4), .ref (xa 5), .ref (xa 6), .ref (xa 7), .ref (xa 8), .ref (xa 9), .int 0, .ref (xa 11), .null, .int 0, .int (-1)])), ((xa 1), .inl (cy 0, 1600, .inl (fun _ => 0))), ((xa 2), .inr (4, [.int 0, .int (-1), .ref (xa 30), .int 0, .int 0, .int 0, .int 0, .int 0, .ref (xa 31), .int 0, .int 0, .int 0])), ((xa 8), .inl (cy 4, 4, .inr (.inr (.inr (.inr (fun _ => none)))))), ((xa 9), .inl (cy 5, 3, .inr (.inr (.inr (.inr (fun _ => none)))))), ((xa 11), .inr (2, [.int 0, .int 0, .int 0, .int 0, .int 0, .int 0, .int 0, .int 0, .int 1, .int 10, .int 0, .int 0, .int 0, .int 0, .ref (xa 20), .ref (xa 21), .ref (xa 22), .ref (xa 23), .ref (xa 24), .ref (xa 25), .ref (xa 26)])), ((ma 0), .inr (10, [.int 0, .ref (ma 1), .ref (ma 2), .ref (ma 3), .ref (ma 4), .ref (ma 5), .int 0, .int 0, .int 0, .int 0, .int 0, .long 0, .int 0, .int 0, .int 0, .int (-1), .ref (ma 16), .ref (ma 17), .ref (ma 18), .ref (ma 19), .ref (ma 20), .ref (ma 21), .ref (ma 22), .ref (ma 23), .ref (ma 24), .ref (ma 25), .ref (ma 26), .ref (ma 27), .ref (ma 28), .ref (ma 29), .ref (ma 30), .ref (ma 31), .ref (ma 32), .ref (ma 33), .ref (ma 34), .ref (ma 35), .ref (ma 36), .ref (ma 37), .ref (ma 38), .ref (ma 39), .ref (ma 40), .ref (ma 41), .long 0])), ((ma 1), .inl (cy 1, 4, .inl fw)), ((ma 2), .inl (cy 1, 4, .inl (fun _ => 0))), ((ma 3), .inl (cy 2, 240, .inr (.inl (fun _ => 0)))), ((ma 5), .inl (cy 0, 1600, .inl (fun _ => 0))), ((ma 16), .inl (cy 1, 5, .inl (fun _ => 0))), ((ma 17), .inl (cy 1, 20, .inl (fun _ => 0))), ((ma 18), .inl (cy 1, 5, .inl (fun _ => 0))), ((ma 19), .inl (cy 1, 45, .inl (fun _ => 0))), ((ma 20), .inl (cy 1, 5, .inl (fun _ => 0))), ((ma 21), .inl (cy 1, 150, .inl (fun _ => 0))), ((ma 22), .inl (cy 1, 5, .inl (fun _ => 0))), ((ma 23), .inl (cy 1, 120, .inl (fun _ => 0))), ((ma 24), .inl (cy 1, 30, .inl (fun _ => 0))), ((ma 25), .inl (cy 3, 15, .inl (fun _ => 0))), ((ma 26), .inl (cy 1, 5, .inl (fun _ => 0))), ((ma 27), .inl (cy 1, 30, .inl (fun _ => 0))), ((ma 28), .inl (cy 3, 3, .inl (fun _ => 0)))]) (hS : va_S A s.heap H locs) {ls : Array Slot} (hl : lv_has ls 4 [(3, .int 0), (2, .ref (ma 0)), (1, .ref (xa 0)), (0, .ref b)]) : W p l e room_1 s m #[Value.ref b] below meth c H locs 82 108979 (lw_Z below #[Value.ref b] s) (F0 m 18 ls []) := by
  obtain ⟨hx, hb, hr, hml, hown, hts, hX, hbl, hlocks, hgv⟩ := id C0
  refine lv_iload_n hx hb dL_law_18 rfl (lv_at hl 0 rfl) ?_
  refine lv_aload_n hx hb dL_law_19 rfl (lv_at hl 3 rfl) ?_
  refine va_slen hx hb hX hbl hbA hS dL_law_20 ?_
  refine lv_bipush (v := 7) hx hb dL_law_21 (by decide) ?_
  refine lv_isub hx hb dL_law_23 ?_
  refine lv_icmp_gt (tgt := 2292) hx hb dL_law_24 (by decide) (fun _ => law_ret C0 hA2 hS (Nat.le_of_ble_eq_true rfl) (Nat.le_of_ble_eq_true rfl)) (fun c9 => ?_)
  have hL7 : L = 7 := by
    rcases Nat.lt_or_ge L 7 with h | h
    · exact absurd (lt7 L h) c9
    · omega
  have hb : c.code = cL_law := hb
  refine lv_aload_n hx hb dL_law_27 rfl (lv_at hl 3 rfl) ?_
  refine lv_iload_n hx hb dL_law_28 rfl (lv_at hl 0 rfl) ?_
  refine va_sld (i := 0) hx hb hX hbl hbA hS (by subst hL7; exact vp_in_iff.mpr (by decide)) dL_law_29 ?_
  refine W.eq (g2 := F0 m 30 ls [.int (xs 0)]) rfl ?_
  refine lv_bipush (v := 63) hx hb dL_law_30 (by decide) ?_
  refine lv_iand hx hb dL_law_32 ?_
  refine lv_topi (fun z_1 ez_1 => ?_)
  by_cases sw_2 : z_1.toInt < 0 ∨ 49 < z_1.toInt
  · skip
    refine lv_tableOut (tgt := 2286) hx hb dL_law_33 sw_2 (by decide) ?_
    exact law_end C0 hL7 hA2 hbA hS (lv_sub hl [0, 1, 2, 3] rfl) (Nat.le_of_ble_eq_true rfl) (Nat.le_of_ble_eq_true rfl)
  · skip
    rcases (show z_1.toInt = 0 ∨ z_1.toInt = 1 ∨ z_1.toInt = 2 ∨ z_1.toInt = 3 ∨ z_1.toInt = 4 ∨ z_1.toInt = 5 ∨ z_1.toInt = 6 ∨ z_1.toInt = 7 ∨ z_1.toInt = 8 ∨ z_1.toInt = 9 ∨ z_1.toInt = 10 ∨ z_1.toInt = 11 ∨ z_1.toInt = 12 ∨ z_1.toInt = 13 ∨ z_1.toInt = 14 ∨ z_1.toInt = 15 ∨ z_1.toInt = 16 ∨ z_1.toInt = 17 ∨ z_1.toInt = 18 ∨ z_1.toInt = 19 ∨ z_1.toInt = 20 ∨ z_1.toInt = 21 ∨ z_1.toInt = 22 ∨ z_1.toInt = 23 ∨ z_1.toInt = 24 ∨ z_1.toInt = 25 ∨ z_1.toInt = 26 ∨ z_1.toInt = 27 ∨ z_1.toInt = 28 ∨ z_1.toInt = 29 ∨ z_1.toInt = 30 ∨ z_1.toInt = 31 ∨ z_1.toInt = 32 ∨ z_1.toInt = 33 ∨ z_1.toInt = 34 ∨ z_1.toInt = 35 ∨ z_1.toInt = 36 ∨ z_1.toInt = 37 ∨ z_1.toInt = 38 ∨ z_1.toInt = 39 ∨ z_1.toInt = 40 ∨ z_1.toInt = 41 ∨ z_1.toInt = 42 ∨ z_1.toInt = 43 ∨ z_1.toInt = 44 ∨ z_1.toInt = 45 ∨ z_1.toInt = 46 ∨ z_1.toInt = 47 ∨ z_1.toInt = 48 ∨ z_1.toInt = 49 by omega) with sw_2_0 | sw_2_1 | sw_2_2 | sw_2_3 | sw_2_4 | sw_2_5 | sw_2_6 | sw_2_7 | sw_2_8 | sw_2_9 | sw_2_10 | sw_2_11 | sw_2_12 | sw_2_13 | sw_2_14 | sw_2_15 | sw_2_16 | sw_2_17 | sw_2_18 | sw_2_19 | sw_2_20 | sw_2_21 | sw_2_22 | sw_2_23 | sw_2_24 | sw_2_25 | sw_2_26 | sw_2_27 | sw_2_28 | sw_2_29 | sw_2_30 | sw_2_31 | sw_2_32 | sw_2_33 | sw_2_34 | sw_2_35 | sw_2_36 | sw_2_37 | sw_2_38 | sw_2_39 | sw_2_40 | sw_2_41 | sw_2_42 | sw_2_43 | sw_2_44 | sw_2_45 | sw_2_46 | sw_2_47 | sw_2_48 | sw_2_49
    · skip
      refine lv_tableIn (tgt := 248) hx hb dL_law_33 (by omega) (by omega) (by rw [sw_2_0]; rfl) (by decide) ?_
      exact lc_0 D cy xa ma fw hw hL7 C0 hK hA hA2 hbA hP hD hS hl
    · skip
      refine lv_tableIn (tgt := 311) hx hb dL_law_33 (by omega) (by omega) (by rw [sw_2_1]; rfl) (by decide) ?_
      exact lc_1 D cy xa ma fw hw hL7 C0 hK hA hA2 hbA hP hD hS hl
    · skip
      refine lv_tableIn (tgt := 334) hx hb dL_law_33 (by omega) (by omega) (by rw [sw_2_2]; rfl) (by decide) ?_
      exact lc_2 D cy xa ma fw hw hL7 C0 hK hA hA2 hbA hP hD hS hl
    · skip
      refine lv_tableIn (tgt := 347) hx hb dL_law_33 (by omega) (by omega) (by rw [sw_2_3]; rfl) (by decide) ?_
      exact lc_3 D cy xa ma fw hw hL7 C0 hK hA hA2 hbA hP hD hS hl
    · skip
      refine lv_tableIn (tgt := 370) hx hb dL_law_33 (by omega) (by omega) (by rw [sw_2_4]; rfl) (by decide) ?_
      exact lc_4 D cy xa ma fw hw hL7 C0 hK hA hA2 hbA hP hD hS hl
    · skip
      refine lv_tableIn (tgt := 404) hx hb dL_law_33 (by omega) (by omega) (by rw [sw_2_5]; rfl) (by decide) ?_
      exact lc_5 D cy xa ma fw hw hL7 C0 hK hA hA2 hbA hP hD hS hl
    · skip
      refine lv_tableIn (tgt := 438) hx hb dL_law_33 (by omega) (by omega) (by rw [sw_2_6]; rfl) (by decide) ?_
      exact lc_6 D cy xa ma fw hw hL7 C0 hK hA hA2 hbA hP hD hS hl
    · skip
      refine lv_tableIn (tgt := 492) hx hb dL_law_33 (by omega) (by omega) (by rw [sw_2_7]; rfl) (by decide) ?_
      exact lc_7 D cy xa ma fw hw hL7 C0 hK hA hA2 hbA hP hD hS hl
    · skip
      refine lv_tableIn (tgt := 526) hx hb dL_law_33 (by omega) (by omega) (by rw [sw_2_8]; rfl) (by decide) ?_
      exact lc_8 D cy xa ma fw hw hL7 C0 hK hA hA2 hbA hP hD hS hl
    · skip
      refine lv_tableIn (tgt := 560) hx hb dL_law_33 (by omega) (by omega) (by rw [sw_2_9]; rfl) (by decide) ?_
      exact lc_9 D cy xa ma fw hw hL7 C0 hK hA hA2 hbA hP hD hS hl
    · skip
      refine lv_tableIn (tgt := 593) hx hb dL_law_33 (by omega) (by omega) (by rw [sw_2_10]; rfl) (by decide) ?_
      exact lc_10 D cy xa ma fw hw hL7 C0 hK hA hA2 hbA hP hD hS hl
    · skip
      refine lv_tableIn (tgt := 636) hx hb dL_law_33 (by omega) (by omega) (by rw [sw_2_11]; rfl) (by decide) ?_
      exact lc_11 D cy xa ma fw hw hL7 C0 hK hA hA2 hbA hP hD hS hl
    · skip
      refine lv_tableIn (tgt := 680) hx hb dL_law_33 (by omega) (by omega) (by rw [sw_2_12]; rfl) (by decide) ?_
      exact lc_12 D cy xa ma fw hw hL7 C0 hK hA hA2 hbA hP hD hS hl
    · skip
      refine lv_tableIn (tgt := 724) hx hb dL_law_33 (by omega) (by omega) (by rw [sw_2_13]; rfl) (by decide) ?_
      exact lc_13 D cy xa ma fw hw hL7 C0 hK hA hA2 hbA hP hD hS hl
    · skip
      refine lv_tableIn (tgt := 757) hx hb dL_law_33 (by omega) (by omega) (by rw [sw_2_14]; rfl) (by decide) ?_
      exact lc_14 D cy xa ma fw hw hL7 C0 hK hA hA2 hbA hP hD hS hl
    · skip
      refine lv_tableIn (tgt := 801) hx hb dL_law_33 (by omega) (by omega) (by rw [sw_2_15]; rfl) (by decide) ?_
      exact lc_15 D cy xa ma fw hw hL7 C0 hK hA hA2 hbA hP hD hS hl
    · skip
      refine lv_tableIn (tgt := 844) hx hb dL_law_33 (by omega) (by omega) (by rw [sw_2_16]; rfl) (by decide) ?_
      exact lc_16 D cy xa ma fw hw hL7 C0 hK hA hA2 hbA hP hD hS hl
    · skip
      refine lv_tableIn (tgt := 868) hx hb dL_law_33 (by omega) (by omega) (by rw [sw_2_17]; rfl) (by decide) ?_
      exact lc_17 D cy xa ma fw hw hL7 C0 hK hA hA2 hbA hP hD hS hl
    · skip
      refine lv_tableIn (tgt := 901) hx hb dL_law_33 (by omega) (by omega) (by rw [sw_2_18]; rfl) (by decide) ?_
      exact lc_18 D cy xa ma fw hw hL7 C0 hK hA hA2 hbA hP hD hS hl
    · skip
      refine lv_tableIn (tgt := 925) hx hb dL_law_33 (by omega) (by omega) (by rw [sw_2_19]; rfl) (by decide) ?_
      exact lc_19 D cy xa ma fw hw hL7 C0 hK hA hA2 hbA hP hD hS hl
    · skip
      refine lv_tableIn (tgt := 959) hx hb dL_law_33 (by omega) (by omega) (by rw [sw_2_20]; rfl) (by decide) ?_
      exact lc_20 D cy xa ma fw hw hL7 C0 hK hA hA2 hbA hP hD hS hl
    · skip
      refine lv_tableIn (tgt := 1038) hx hb dL_law_33 (by omega) (by omega) (by rw [sw_2_21]; rfl) (by decide) ?_
      exact lc_21 D cy xa ma fw hw hL7 C0 hK hA hA2 hbA hP hD hS hl
    · skip
      refine lv_tableIn (tgt := 1071) hx hb dL_law_33 (by omega) (by omega) (by rw [sw_2_22]; rfl) (by decide) ?_
      exact lc_22 D cy xa ma fw hw hL7 C0 hK hA hA2 hbA hP hD hS hl
    · skip
      refine lv_tableIn (tgt := 1105) hx hb dL_law_33 (by omega) (by omega) (by rw [sw_2_23]; rfl) (by decide) ?_
      exact lc_23 D cy xa ma fw hw hL7 C0 hK hA hA2 hbA hP hD hS hl
    · skip
      refine lv_tableIn (tgt := 1159) hx hb dL_law_33 (by omega) (by omega) (by rw [sw_2_24]; rfl) (by decide) ?_
      exact lc_24 D cy xa ma fw hw hL7 C0 hK hA hA2 hbA hP hD hS hl
    · skip
      refine lv_tableIn (tgt := 1202) hx hb dL_law_33 (by omega) (by omega) (by rw [sw_2_25]; rfl) (by decide) ?_
      exact lc_25 D cy xa ma fw hw hL7 C0 hK hA hA2 hbA hP hD hS hl
    · skip
      refine lv_tableIn (tgt := 1246) hx hb dL_law_33 (by omega) (by omega) (by rw [sw_2_26]; rfl) (by decide) ?_
      exact lc_26 D cy xa ma fw hw hL7 C0 hK hA hA2 hbA hP hD hS hl
    · skip
      refine lv_tableIn (tgt := 1290) hx hb dL_law_33 (by omega) (by omega) (by rw [sw_2_27]; rfl) (by decide) ?_
      exact lc_27 D cy xa ma fw hw hL7 C0 hK hA hA2 hbA hP hD hS hl
    · skip
      refine lv_tableIn (tgt := 1323) hx hb dL_law_33 (by omega) (by omega) (by rw [sw_2_28]; rfl) (by decide) ?_
      exact lc_28 D cy xa ma fw hw hL7 C0 hK hA hA2 hbA hP hD hS hl
    · skip
      refine lv_tableIn (tgt := 1346) hx hb dL_law_33 (by omega) (by omega) (by rw [sw_2_29]; rfl) (by decide) ?_
      exact lc_29 D cy xa ma fw hw hL7 C0 hK hA hA2 hbA hP hD hS hl
    · skip
      refine lv_tableIn (tgt := 1400) hx hb dL_law_33 (by omega) (by omega) (by rw [sw_2_30]; rfl) (by decide) ?_
      exact lc_30 D cy xa ma fw hw hL7 C0 hK hA hA2 hbA hP hD hS hl
    · skip
      refine lv_tableIn (tgt := 1433) hx hb dL_law_33 (by omega) (by omega) (by rw [sw_2_31]; rfl) (by decide) ?_
      exact lc_31 D cy xa ma fw hw hL7 C0 hK hA hA2 hbA hP hD hS hl
    · skip
      refine lv_tableIn (tgt := 1486) hx hb dL_law_33 (by omega) (by omega) (by rw [sw_2_32]; rfl) (by decide) ?_
      exact lc_32 D cy xa ma fw hw hL7 C0 hK hA hA2 hbA hP hD hS hl
    · skip
      refine lv_tableIn (tgt := 1549) hx hb dL_law_33 (by omega) (by omega) (by rw [sw_2_33]; rfl) (by decide) ?_
      exact lc_33 D cy xa ma fw hw hL7 C0 hK hA hA2 hbA hP hD hS hl
    · skip
      refine lv_tableIn (tgt := 1613) hx hb dL_law_33 (by omega) (by omega) (by rw [sw_2_34]; rfl) (by decide) ?_
      exact lc_34 D cy xa ma fw hw hL7 C0 hK hA hA2 hbA hP hD hS hl
    · skip
      refine lv_tableIn (tgt := 1667) hx hb dL_law_33 (by omega) (by omega) (by rw [sw_2_35]; rfl) (by decide) ?_
      exact lc_35 D cy xa ma fw hw hL7 C0 hK hA hA2 hbA hP hD hS hl
    · skip
      refine lv_tableIn (tgt := 1721) hx hb dL_law_33 (by omega) (by omega) (by rw [sw_2_36]; rfl) (by decide) ?_
      exact lc_36 D cy xa ma fw hw hL7 C0 hK hA hA2 hbA hP hD hS hl
    · skip
      refine lv_tableIn (tgt := 1764) hx hb dL_law_33 (by omega) (by omega) (by rw [sw_2_37]; rfl) (by decide) ?_
      exact lc_37 D cy xa ma fw hw hL7 C0 hK hA hA2 hbA hP hD hS hl
    · skip
      refine lv_tableIn (tgt := 1787) hx hb dL_law_33 (by omega) (by omega) (by rw [sw_2_38]; rfl) (by decide) ?_
      exact lc_38 D cy xa ma fw hw hL7 C0 hK hA hA2 hbA hP hD hS hl
    · skip
      refine lv_tableIn (tgt := 1810) hx hb dL_law_33 (by omega) (by omega) (by rw [sw_2_39]; rfl) (by decide) ?_
      exact lc_39 D cy xa ma fw hw hL7 C0 hK hA hA2 hbA hP hD hS hl
    · skip
      refine lv_tableIn (tgt := 1833) hx hb dL_law_33 (by omega) (by omega) (by rw [sw_2_40]; rfl) (by decide) ?_
      exact lc_40 D cy xa ma fw hw hL7 C0 hK hA hA2 hbA hP hD hS hl
    · skip
      refine lv_tableIn (tgt := 1886) hx hb dL_law_33 (by omega) (by omega) (by rw [sw_2_41]; rfl) (by decide) ?_
      exact lc_41 D cy xa ma fw hw hL7 C0 hK hA hA2 hbA hP hD hS hl
    · skip
      refine lv_tableIn (tgt := 1919) hx hb dL_law_33 (by omega) (by omega) (by rw [sw_2_42]; rfl) (by decide) ?_
      exact lc_42 D cy xa ma fw hw hL7 C0 hK hA hA2 hbA hP hD hS hl
    · skip
      refine lv_tableIn (tgt := 1963) hx hb dL_law_33 (by omega) (by omega) (by rw [sw_2_43]; rfl) (by decide) ?_
      exact lc_43 D cy xa ma fw hw hL7 C0 hK hA hA2 hbA hP hD hS hl
    · skip
      refine lv_tableIn (tgt := 2038) hx hb dL_law_33 (by omega) (by omega) (by rw [sw_2_44]; rfl) (by decide) ?_
      exact lc_44 D cy xa ma fw hw hL7 C0 hK hA hA2 hbA hP hD hS hl
    · skip
      refine lv_tableIn (tgt := 2061) hx hb dL_law_33 (by omega) (by omega) (by rw [sw_2_45]; rfl) (by decide) ?_
      exact lc_45 D cy xa ma fw hw hL7 C0 hK hA hA2 hbA hP hD hS hl
    · skip
      refine lv_tableIn (tgt := 2084) hx hb dL_law_33 (by omega) (by omega) (by rw [sw_2_46]; rfl) (by decide) ?_
      exact lc_46 D cy xa ma fw hw hL7 C0 hK hA hA2 hbA hP hD hS hl
    · skip
      refine lv_tableIn (tgt := 2107) hx hb dL_law_33 (by omega) (by omega) (by rw [sw_2_47]; rfl) (by decide) ?_
      exact lc_47 D cy xa ma fw hw hL7 C0 hK hA hA2 hbA hP hD hS hl
    · skip
      refine lv_tableIn (tgt := 2150) hx hb dL_law_33 (by omega) (by omega) (by rw [sw_2_48]; rfl) (by decide) ?_
      exact lc_48 D cy xa ma fw hw hL7 C0 hK hA hA2 hbA hP hD hS hl
    · skip
      refine lv_tableIn (tgt := 2223) hx hb dL_law_33 (by omega) (by omega) (by rw [sw_2_49]; rfl) (by decide) ?_
      exact lc_49 D cy xa ma fw hw hL7 C0 hK hA hA2 hbA hP hD hS hl
set_option maxHeartbeats 4000000 in
set_option maxRecDepth 100000 in
theorem whole_start {p : Program} {e : Env} {s : State} {m : MethodId} {below : List Frame} {meth : Method} {c : Code} (l : Launch) {b L : Nat} {xs : Nat → Int32} (hL : L ≤ 7) (C0 : lw_At p s m meth c b L xs) : W p l e room_1 s m #[Value.ref b] below meth c s.heap [] 0 0 (lw_Z below #[Value.ref b] s) (entryFrame m ([Value.ref b] : List Value).toArray 4) := by
  obtain ⟨D, cy, hK⟩ := kk_start C0
  obtain ⟨hx, hb, hr, hml, hown, hts, hX, hbl, hlocks, hgv⟩ := id C0
  have hown : s.vm.findClass RL = some m.cls := hown
  have hb : c.code = cL_law := hb
  have hts : ∀ w ∈ GW, w.before #[Value.ref b] s = true := fun w h => hts w (gw_tbl w h)
  obtain ⟨A, hA, hA2, hbA, hS, hD⟩ : ∃ A : Nat → Prop, (∀ q : Nat, s.heap.size ≤ q → A q) ∧ (∀ q : Nat, A q → s.heap.size ≤ q) ∧ ¬ A b ∧ va_S A s.heap s.heap [] ∧ va_D A [] := ⟨fun q => s.heap.size ≤ q, fun _ h => h, fun _ h => h, Nat.not_le.mpr hbl, va_S.rf, ⟨fun i j p q h => by simp at h, fun k q h => by simp at h⟩⟩
  have hP : va_P D vwCl [] s.heap := fun k q h => by simp at h
  have hl := lv_entry ([.ref b]) (n := 4) (Nat.le_of_ble_eq_true rfl)
  rw [lg_entry_eq]
  generalize (lg_sl ([.ref b]) ++ List.replicate (4 - (lg_sl ([.ref b])).length) Slot.unset).toArray = ls at hl ⊢
  have hl : lv_has ls 4 [(0, .ref b)] := hl
  refine va_new (ci := 9) (fs := [.null, .null, .null, .null, .null, .null, .null, .null, .null, .int 0, .null, .null, .int 0, .int 0]) (C := RX9) (T := TX9) (N := 14) hx hb hts lay_X9 tyX9 tyX9_ok hown (hts _ cl_L_7) (hts _ ins_X9) (hts _ ini_X9) hK.1 hP hD hS hA rfl born_X9 (Nat.le_of_ble_eq_true rfl) (Nat.le_of_ble_eq_true rfl) dL_law_0 (fun q_1 H hP hD hS => ?_)
  have hP : va_P D vwCl [(q_1, .inr (9, [.null, .null, .null, .null, .null, .null, .null, .null, .null, .int 0, .null, .null, .int 0, .int 0]))] H := hP
  have hD : va_D A [(q_1, .inr (9, [.null, .null, .null, .null, .null, .null, .null, .null, .null, .int 0, .null, .null, .int 0, .int 0]))] := hD
  refine lv_dup hx hb dL_law_3 rfl ?_
  refine fw_call (wc := [(q_1, .inr (9, [.null, .null, .null, .null, .null, .null, .null, .null, .null, .int 0, .null, .null, .int 0, .int 0]))]) (wr := []) (runI (As := []) (rest := [.ref q_1]) ⟨hx, hb, hml, hown, hts⟩ (i_X9 l D cy q_1  H.size) sI_L_9 hK (PW.of hP hD [0] (by decide) rfl rfl) ⟨Nat.le_of_ble_eq_true rfl, Nat.le_of_ble_eq_true rfl⟩ rfl hl.1 rfl (Nat.le_of_ble_eq_true rfl) dL_law_4 ⟨Nat.le_of_ble_eq_true rfl, Nat.le_of_ble_eq_true rfl⟩) hP hD hS hA [0] [] rfl rfl (by decide) (by decide) (fun v u_2 H locs hv hP hD hS => ?_)
  have hP : va_P D vwCl [((u_2.1 0), .inr (9, [.ref (u_2.1 1), .ref (u_2.1 2), .ref (u_2.1 3), .ref (u_2.1 4), .ref (u_2.1 5), .ref (u_2.1 6), .ref (u_2.1 7), .ref (u_2.1 8), .ref (u_2.1 9), .int 0, .ref (u_2.1 11), .null, .int 0, .int (-1)])), ((u_2.1 1), .inl (cy 0, 1600, .inl (fun _ => 0))), ((u_2.1 2), .inr (4, [.int 0, .int (-1), .ref (u_2.1 30), .int 0, .int 0, .int 0, .int 0, .int 0, .ref (u_2.1 31), .int 0, .int 0, .int 0])), ((u_2.1 8), .inl (cy 4, 4, .inr (.inr (.inr (.inr (fun _ => none)))))), ((u_2.1 9), .inl (cy 5, 3, .inr (.inr (.inr (.inr (fun _ => none)))))), ((u_2.1 11), .inr (2, [.int 0, .int 0, .int 0, .int 0, .int 0, .int 0, .int 0, .int 0, .int 1, .int 10, .int 0, .int 0, .int 0, .int 0, .ref (u_2.1 20), .ref (u_2.1 21), .ref (u_2.1 22), .ref (u_2.1 23), .ref (u_2.1 24), .ref (u_2.1 25), .ref (u_2.1 26)]))] H := hP
  have hD : va_D A [((u_2.1 0), .inr (9, [.ref (u_2.1 1), .ref (u_2.1 2), .ref (u_2.1 3), .ref (u_2.1 4), .ref (u_2.1 5), .ref (u_2.1 6), .ref (u_2.1 7), .ref (u_2.1 8), .ref (u_2.1 9), .int 0, .ref (u_2.1 11), .null, .int 0, .int (-1)])), ((u_2.1 1), .inl (cy 0, 1600, .inl (fun _ => 0))), ((u_2.1 2), .inr (4, [.int 0, .int (-1), .ref (u_2.1 30), .int 0, .int 0, .int 0, .int 0, .int 0, .ref (u_2.1 31), .int 0, .int 0, .int 0])), ((u_2.1 8), .inl (cy 4, 4, .inr (.inr (.inr (.inr (fun _ => none)))))), ((u_2.1 9), .inl (cy 5, 3, .inr (.inr (.inr (.inr (fun _ => none)))))), ((u_2.1 11), .inr (2, [.int 0, .int 0, .int 0, .int 0, .int 0, .int 0, .int 0, .int 0, .int 1, .int 10, .int 0, .int 0, .int 0, .int 0, .ref (u_2.1 20), .ref (u_2.1 21), .ref (u_2.1 22), .ref (u_2.1 23), .ref (u_2.1 24), .ref (u_2.1 25), .ref (u_2.1 26)]))] := hD
  obtain ⟨hv, huu_2⟩ := hv
  subst hv
  refine W.eq (g2 := F0 m 7 ls [.ref q_1]) rfl ?_
  have hq := huu_2
  refine W.eq (g2 := F0 m 7 ls [.ref (u_2.1 0)]) (by rw [hq]) ?_
  refine lv_astore_n (lv' := [(1, .ref (u_2.1 0)), (0, .ref b)]) hx hb dL_law_7 rfl hl (by decide) rfl (fun ls hl => ?_)
  refine va_new (ci := 10) (fs := [.int 0, .null, .null, .null, .null, .null, .int 0, .int 0, .int 0, .int 0, .int 0, .long 0, .int 0, .int 0, .int 0, .int 0, .null, .null, .null, .null, .null, .null, .null, .null, .null, .null, .null, .null, .null, .null, .null, .null, .null, .null, .null, .null, .null, .null, .null, .null, .null, .null, .long 0]) (C := RX10) (T := TX10) (N := 43) hx hb hts lay_X10 tyX10 tyX10_ok hown (hts _ cl_L_10) (hts _ ins_X10) (hts _ ini_X10) hK.1 hP hD hS hA rfl born_X10 (Nat.le_of_ble_eq_true rfl) (Nat.le_of_ble_eq_true rfl) dL_law_8 (fun q_3 H hP hD hS => ?_)
  have hP : va_P D vwCl [((u_2.1 0), .inr (9, [.ref (u_2.1 1), .ref (u_2.1 2), .ref (u_2.1 3), .ref (u_2.1 4), .ref (u_2.1 5), .ref (u_2.1 6), .ref (u_2.1 7), .ref (u_2.1 8), .ref (u_2.1 9), .int 0, .ref (u_2.1 11), .null, .int 0, .int (-1)])), ((u_2.1 1), .inl (cy 0, 1600, .inl (fun _ => 0))), ((u_2.1 2), .inr (4, [.int 0, .int (-1), .ref (u_2.1 30), .int 0, .int 0, .int 0, .int 0, .int 0, .ref (u_2.1 31), .int 0, .int 0, .int 0])), ((u_2.1 8), .inl (cy 4, 4, .inr (.inr (.inr (.inr (fun _ => none)))))), ((u_2.1 9), .inl (cy 5, 3, .inr (.inr (.inr (.inr (fun _ => none)))))), ((u_2.1 11), .inr (2, [.int 0, .int 0, .int 0, .int 0, .int 0, .int 0, .int 0, .int 0, .int 1, .int 10, .int 0, .int 0, .int 0, .int 0, .ref (u_2.1 20), .ref (u_2.1 21), .ref (u_2.1 22), .ref (u_2.1 23), .ref (u_2.1 24), .ref (u_2.1 25), .ref (u_2.1 26)])), (q_3, .inr (10, [.int 0, .null, .null, .null, .null, .null, .int 0, .int 0, .int 0, .int 0, .int 0, .long 0, .int 0, .int 0, .int 0, .int 0, .null, .null, .null, .null, .null, .null, .null, .null, .null, .null, .null, .null, .null, .null, .null, .null, .null, .null, .null, .null, .null, .null, .null, .null, .null, .null, .long 0]))] H := hP
  have hD : va_D A [((u_2.1 0), .inr (9, [.ref (u_2.1 1), .ref (u_2.1 2), .ref (u_2.1 3), .ref (u_2.1 4), .ref (u_2.1 5), .ref (u_2.1 6), .ref (u_2.1 7), .ref (u_2.1 8), .ref (u_2.1 9), .int 0, .ref (u_2.1 11), .null, .int 0, .int (-1)])), ((u_2.1 1), .inl (cy 0, 1600, .inl (fun _ => 0))), ((u_2.1 2), .inr (4, [.int 0, .int (-1), .ref (u_2.1 30), .int 0, .int 0, .int 0, .int 0, .int 0, .ref (u_2.1 31), .int 0, .int 0, .int 0])), ((u_2.1 8), .inl (cy 4, 4, .inr (.inr (.inr (.inr (fun _ => none)))))), ((u_2.1 9), .inl (cy 5, 3, .inr (.inr (.inr (.inr (fun _ => none)))))), ((u_2.1 11), .inr (2, [.int 0, .int 0, .int 0, .int 0, .int 0, .int 0, .int 0, .int 0, .int 1, .int 10, .int 0, .int 0, .int 0, .int 0, .ref (u_2.1 20), .ref (u_2.1 21), .ref (u_2.1 22), .ref (u_2.1 23), .ref (u_2.1 24), .ref (u_2.1 25), .ref (u_2.1 26)])), (q_3, .inr (10, [.int 0, .null, .null, .null, .null, .null, .int 0, .int 0, .int 0, .int 0, .int 0, .long 0, .int 0, .int 0, .int 0, .int 0, .null, .null, .null, .null, .null, .null, .null, .null, .null, .null, .null, .null, .null, .null, .null, .null, .null, .null, .null, .null, .null, .null, .null, .null, .null, .null, .long 0]))] := hD
  refine lv_dup hx hb dL_law_11 rfl ?_
  refine fw_call (wc := [(q_3, .inr (10, [.int 0, .null, .null, .null, .null, .null, .int 0, .int 0, .int 0, .int 0, .int 0, .long 0, .int 0, .int 0, .int 0, .int 0, .null, .null, .null, .null, .null, .null, .null, .null, .null, .null, .null, .null, .null, .null, .null, .null, .null, .null, .null, .null, .null, .null, .null, .null, .null, .null, .long 0]))]) (wr := [((u_2.1 0), .inr (9, [.ref (u_2.1 1), .ref (u_2.1 2), .ref (u_2.1 3), .ref (u_2.1 4), .ref (u_2.1 5), .ref (u_2.1 6), .ref (u_2.1 7), .ref (u_2.1 8), .ref (u_2.1 9), .int 0, .ref (u_2.1 11), .null, .int 0, .int (-1)])), ((u_2.1 1), .inl (cy 0, 1600, .inl (fun _ => 0))), ((u_2.1 2), .inr (4, [.int 0, .int (-1), .ref (u_2.1 30), .int 0, .int 0, .int 0, .int 0, .int 0, .ref (u_2.1 31), .int 0, .int 0, .int 0])), ((u_2.1 8), .inl (cy 4, 4, .inr (.inr (.inr (.inr (fun _ => none)))))), ((u_2.1 9), .inl (cy 5, 3, .inr (.inr (.inr (.inr (fun _ => none)))))), ((u_2.1 11), .inr (2, [.int 0, .int 0, .int 0, .int 0, .int 0, .int 0, .int 0, .int 0, .int 1, .int 10, .int 0, .int 0, .int 0, .int 0, .ref (u_2.1 20), .ref (u_2.1 21), .ref (u_2.1 22), .ref (u_2.1 23), .ref (u_2.1 24), .ref (u_2.1 25), .ref (u_2.1 26)]))]) (runI (As := []) (rest := [.ref q_3]) ⟨hx, hb, hml, hown, hts⟩ (i_X10 l D cy q_3  H.size) sI_L_12 hK (PW.of hP hD [6] (by decide) rfl rfl) ⟨Nat.le_of_ble_eq_true rfl, Nat.le_of_ble_eq_true rfl⟩ rfl hl.1 rfl (Nat.le_of_ble_eq_true rfl) dL_law_12 ⟨Nat.le_of_ble_eq_true rfl, Nat.le_of_ble_eq_true rfl⟩) hP hD hS hA [6] [0, 1, 2, 3, 4, 5] rfl rfl (by decide) (by decide) (fun v u_4 H locs hv hP hD hS => ?_)
  have hP : va_P D vwCl [((u_2.1 0), .inr (9, [.ref (u_2.1 1), .ref (u_2.1 2), .ref (u_2.1 3), .ref (u_2.1 4), .ref (u_2.1 5), .ref (u_2.1 6), .ref (u_2.1 7), .ref (u_2.1 8), .ref (u_2.1 9), .int 0, .ref (u_2.1 11), .null, .int 0, .int (-1)])), ((u_2.1 1), .inl (cy 0, 1600, .inl (fun _ => 0))), ((u_2.1 2), .inr (4, [.int 0, .int (-1), .ref (u_2.1 30), .int 0, .int 0, .int 0, .int 0, .int 0, .ref (u_2.1 31), .int 0, .int 0, .int 0])), ((u_2.1 8), .inl (cy 4, 4, .inr (.inr (.inr (.inr (fun _ => none)))))), ((u_2.1 9), .inl (cy 5, 3, .inr (.inr (.inr (.inr (fun _ => none)))))), ((u_2.1 11), .inr (2, [.int 0, .int 0, .int 0, .int 0, .int 0, .int 0, .int 0, .int 0, .int 1, .int 10, .int 0, .int 0, .int 0, .int 0, .ref (u_2.1 20), .ref (u_2.1 21), .ref (u_2.1 22), .ref (u_2.1 23), .ref (u_2.1 24), .ref (u_2.1 25), .ref (u_2.1 26)])), ((u_4.1 0), .inr (10, [.int 0, .ref (u_4.1 1), .ref (u_4.1 2), .ref (u_4.1 3), .ref (u_4.1 4), .ref (u_4.1 5), .int 0, .int 0, .int 0, .int 0, .int 0, .long 0, .int 0, .int 0, .int 0, .int (-1), .ref (u_4.1 16), .ref (u_4.1 17), .ref (u_4.1 18), .ref (u_4.1 19), .ref (u_4.1 20), .ref (u_4.1 21), .ref (u_4.1 22), .ref (u_4.1 23), .ref (u_4.1 24), .ref (u_4.1 25), .ref (u_4.1 26), .ref (u_4.1 27), .ref (u_4.1 28), .ref (u_4.1 29), .ref (u_4.1 30), .ref (u_4.1 31), .ref (u_4.1 32), .ref (u_4.1 33), .ref (u_4.1 34), .ref (u_4.1 35), .ref (u_4.1 36), .ref (u_4.1 37), .ref (u_4.1 38), .ref (u_4.1 39), .ref (u_4.1 40), .ref (u_4.1 41), .long 0])), ((u_4.1 1), .inl (cy 1, 4, .inl (u_4.2.1 0))), ((u_4.1 2), .inl (cy 1, 4, .inl (fun _ => 0))), ((u_4.1 3), .inl (cy 2, 240, .inr (.inl (fun _ => 0)))), ((u_4.1 5), .inl (cy 0, 1600, .inl (fun _ => 0))), ((u_4.1 16), .inl (cy 1, 5, .inl (fun _ => 0))), ((u_4.1 17), .inl (cy 1, 20, .inl (fun _ => 0))), ((u_4.1 18), .inl (cy 1, 5, .inl (fun _ => 0))), ((u_4.1 19), .inl (cy 1, 45, .inl (fun _ => 0))), ((u_4.1 20), .inl (cy 1, 5, .inl (fun _ => 0))), ((u_4.1 21), .inl (cy 1, 150, .inl (fun _ => 0))), ((u_4.1 22), .inl (cy 1, 5, .inl (fun _ => 0))), ((u_4.1 23), .inl (cy 1, 120, .inl (fun _ => 0))), ((u_4.1 24), .inl (cy 1, 30, .inl (fun _ => 0))), ((u_4.1 25), .inl (cy 3, 15, .inl (fun _ => 0))), ((u_4.1 26), .inl (cy 1, 5, .inl (fun _ => 0))), ((u_4.1 27), .inl (cy 1, 30, .inl (fun _ => 0))), ((u_4.1 28), .inl (cy 3, 3, .inl (fun _ => 0)))] H := hP
  have hD : va_D A [((u_2.1 0), .inr (9, [.ref (u_2.1 1), .ref (u_2.1 2), .ref (u_2.1 3), .ref (u_2.1 4), .ref (u_2.1 5), .ref (u_2.1 6), .ref (u_2.1 7), .ref (u_2.1 8), .ref (u_2.1 9), .int 0, .ref (u_2.1 11), .null, .int 0, .int (-1)])), ((u_2.1 1), .inl (cy 0, 1600, .inl (fun _ => 0))), ((u_2.1 2), .inr (4, [.int 0, .int (-1), .ref (u_2.1 30), .int 0, .int 0, .int 0, .int 0, .int 0, .ref (u_2.1 31), .int 0, .int 0, .int 0])), ((u_2.1 8), .inl (cy 4, 4, .inr (.inr (.inr (.inr (fun _ => none)))))), ((u_2.1 9), .inl (cy 5, 3, .inr (.inr (.inr (.inr (fun _ => none)))))), ((u_2.1 11), .inr (2, [.int 0, .int 0, .int 0, .int 0, .int 0, .int 0, .int 0, .int 0, .int 1, .int 10, .int 0, .int 0, .int 0, .int 0, .ref (u_2.1 20), .ref (u_2.1 21), .ref (u_2.1 22), .ref (u_2.1 23), .ref (u_2.1 24), .ref (u_2.1 25), .ref (u_2.1 26)])), ((u_4.1 0), .inr (10, [.int 0, .ref (u_4.1 1), .ref (u_4.1 2), .ref (u_4.1 3), .ref (u_4.1 4), .ref (u_4.1 5), .int 0, .int 0, .int 0, .int 0, .int 0, .long 0, .int 0, .int 0, .int 0, .int (-1), .ref (u_4.1 16), .ref (u_4.1 17), .ref (u_4.1 18), .ref (u_4.1 19), .ref (u_4.1 20), .ref (u_4.1 21), .ref (u_4.1 22), .ref (u_4.1 23), .ref (u_4.1 24), .ref (u_4.1 25), .ref (u_4.1 26), .ref (u_4.1 27), .ref (u_4.1 28), .ref (u_4.1 29), .ref (u_4.1 30), .ref (u_4.1 31), .ref (u_4.1 32), .ref (u_4.1 33), .ref (u_4.1 34), .ref (u_4.1 35), .ref (u_4.1 36), .ref (u_4.1 37), .ref (u_4.1 38), .ref (u_4.1 39), .ref (u_4.1 40), .ref (u_4.1 41), .long 0])), ((u_4.1 1), .inl (cy 1, 4, .inl (u_4.2.1 0))), ((u_4.1 2), .inl (cy 1, 4, .inl (fun _ => 0))), ((u_4.1 3), .inl (cy 2, 240, .inr (.inl (fun _ => 0)))), ((u_4.1 5), .inl (cy 0, 1600, .inl (fun _ => 0))), ((u_4.1 16), .inl (cy 1, 5, .inl (fun _ => 0))), ((u_4.1 17), .inl (cy 1, 20, .inl (fun _ => 0))), ((u_4.1 18), .inl (cy 1, 5, .inl (fun _ => 0))), ((u_4.1 19), .inl (cy 1, 45, .inl (fun _ => 0))), ((u_4.1 20), .inl (cy 1, 5, .inl (fun _ => 0))), ((u_4.1 21), .inl (cy 1, 150, .inl (fun _ => 0))), ((u_4.1 22), .inl (cy 1, 5, .inl (fun _ => 0))), ((u_4.1 23), .inl (cy 1, 120, .inl (fun _ => 0))), ((u_4.1 24), .inl (cy 1, 30, .inl (fun _ => 0))), ((u_4.1 25), .inl (cy 3, 15, .inl (fun _ => 0))), ((u_4.1 26), .inl (cy 1, 5, .inl (fun _ => 0))), ((u_4.1 27), .inl (cy 1, 30, .inl (fun _ => 0))), ((u_4.1 28), .inl (cy 3, 3, .inl (fun _ => 0)))] := hD
  obtain ⟨hv, huu_4⟩ := hv
  subst hv
  refine W.eq (g2 := F0 m 15 ls [.ref q_3]) rfl ?_
  obtain ⟨hq, hw⟩ := huu_4
  refine W.eq (g2 := F0 m 15 ls [.ref (u_4.1 0)]) (by rw [hq]) ?_
  refine lv_astore_n (lv' := [(2, .ref (u_4.1 0)), (1, .ref (u_2.1 0)), (0, .ref b)]) hx hb dL_law_15 rfl hl (by decide) rfl (fun ls hl => ?_)
  refine lv_iconst (v := 0) hx hb dL_law_16 (by decide) ?_
  refine lv_istore_n (lv' := [(3, .int 0), (2, .ref (u_4.1 0)), (1, .ref (u_2.1 0)), (0, .ref b)]) hx hb dL_law_17 rfl hl (by decide) rfl (fun ls hl => ?_)
  exact law_head D cy u_2.1 u_4.1 (u_4.2.1 0) hw hL C0 hK hA hA2 hbA hP hD hS (lv_sub hl [0, 1, 2, 3] rfl)
