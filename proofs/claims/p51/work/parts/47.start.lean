theorem arr_kn {ty : FieldType} {args : Array Value} {s : State} (h : (Cond.arrayClass ty).before args s = true) : ∃ cA : ClassId, s.vm.findClass ("[" ++ ty.toString) = some cA ∧ ArrOfT s cA ty := by
  obtain ⟨cA, kA, comp, h1, h2, h3⟩ := Cond.arrayClass_spec h
  exact ⟨cA, h1, fun n z => ⟨fun k h => (by cases h), kA, h2, comp, h3⟩⟩
theorem arr_knO {C : String} {s : State} (h : va_AO C s) : ∃ cA : ClassId, ArrOfT s cA (.object C) ∧ va_RA s cA (.object C) := by
  obtain ⟨comp, cA, kA, h1, h2, h3, h4, h5⟩ := Cond.arrayOver_spec h
  exact ⟨cA, fun N z => ⟨(fun k h => by cases h), kA, h3, comp, h4⟩, kA, comp, h3, h4, h1, h5⟩
theorem nw_start {s : State} {b : Nat} (hts : ∀ w ∈ lw_tbl, w.before #[Value.ref b] s = true) : ∀ q ∈ nwL, va_Nw (.methodLinkNest q.1 q.2.1 q.2.2 "RoadShut") s := by
  intro q hq
  simp only [nwL, List.mem_cons, List.not_mem_nil, or_false] at hq
  rcases hq with rfl | rfl | rfl | rfl | rfl | rfl | rfl | rfl | rfl
  · exact va_Nw.of rfl (hts _ (tb_t1 (List.mem_of_getElem? (i := 30) rfl)))
  · exact va_Nw.of rfl (hts _ (tb_t1 (List.mem_of_getElem? (i := 36) rfl)))
  · exact va_Nw.of rfl (hts _ (tb_t1 (List.mem_of_getElem? (i := 197) rfl)))
  · exact va_Nw.of rfl (hts _ (tb_t1 (List.mem_of_getElem? (i := 203) rfl)))
  · exact va_Nw.of rfl (hts _ (tb_t2 (List.mem_of_getElem? (i := 9) rfl)))
  · exact va_Nw.of rfl (hts _ (tb_t2 (List.mem_of_getElem? (i := 14) rfl)))
  · exact va_Nw.of rfl (hts _ (tb_t2 (List.mem_of_getElem? (i := 48) rfl)))
  · exact va_Nw.of rfl (hts _ (tb_t2 (List.mem_of_getElem? (i := 58) rfl)))
  · exact va_Nw.of rfl (hts _ (tb_t2 (List.mem_of_getElem? (i := 71) rfl)))
theorem kk_start {p : Program} {s : State} {m : MethodId} {meth : Method} {c : Code} {b L : Nat} {xs : Nat → Int32} (C0 : lw_At p s m meth c b L xs) : ∃ (D : va_G) (cy : Nat → ClassId), KK D cy s := by
  obtain ⟨hx, hb, hr, hml, hown, hts, hX, hbl, hlocks, hgv⟩ := C0
  have hg : ∀ w ∈ GW, w.before #[Value.ref b] s = true := fun w h => hts w (gw_tbl w h)
  obtain ⟨c0, i0, k0⟩ := u_known (C := RX0) (T := TX0) (N := 1) (n := 1) hg lay_X0 (hg _ ins_X0)
  obtain ⟨c1, i1, k1⟩ := u_known (C := RX1) (T := TX1) (N := 2) (n := 2) hg lay_X1 (hg _ ins_X1)
  obtain ⟨c2, i2, k2⟩ := u_known (C := RX2) (T := TX2) (N := 21) (n := 21) hg lay_X2 (hg _ ins_X2)
  obtain ⟨c3, i3, k3⟩ := u_known (C := RX3) (T := TX3) (N := 10) (n := 10) hg lay_X3 (hg _ ins_X3)
  obtain ⟨c4, i4, k4⟩ := u_known (C := RX4) (T := TX4) (N := 12) (n := 12) hg lay_X4 (hg _ ins_X4)
  obtain ⟨c5, i5, k5⟩ := u_known (C := RX5) (T := TX5) (N := 7) (n := 7) hg lay_X5 (hg _ ins_X5)
  obtain ⟨c6, i6, k6⟩ := u_known (C := RX6) (T := TX6) (N := 2) (n := 2) hg lay_X6 (hg _ ins_X6)
  obtain ⟨c7, i7, k7⟩ := u_known (C := RX7) (T := TX7) (N := 1) (n := 1) hg lay_X7 (hg _ ins_X7)
  obtain ⟨c8, i8, k8⟩ := u_known (C := RX8) (T := TX8) (N := 5) (n := 5) hg lay_X8 (hg _ ins_X8)
  obtain ⟨c9, i9, k9⟩ := u_known (C := RX9) (T := TX9) (N := 14) (n := 14) hg lay_X9 (hg _ ins_X9)
  obtain ⟨c10, i10, k10⟩ := u_known (C := RX10) (T := TX10) (N := 43) (n := 43) hg lay_X10 (hg _ ins_X10)
  obtain ⟨a0, ha0, hb0⟩ := arr_kn (hg _ ac_byte)
  obtain ⟨a1, ha1, hb1⟩ := arr_kn (hg _ ac_int)
  obtain ⟨a2, ha2, hb2⟩ := arr_kn (hg _ ac_long)
  obtain ⟨a3, ha3, hb3⟩ := arr_kn (hg _ ac_boolean)
  have o4 : va_AO RX6 s := va_AO.of (hts _ (tb_t2 (List.mem_of_getElem? (i := 67) rfl)))
  obtain ⟨a4, ha4, hb4⟩ := arr_knO o4
  have o5 : va_AO RX1 s := va_AO.of (hts _ (tb_t2 (List.mem_of_getElem? (i := 69) rfl)))
  obtain ⟨a5, ha5, hb5⟩ := arr_knO o5
  refine ⟨((fun k => match k with | 1 => c1 | 2 => c2 | 3 => c3 | 4 => c4 | 5 => c5 | 6 => c6 | 7 => c7 | 8 => c8 | 9 => c9 | 10 => c10 | _ => c0), (fun k => match k with | 1 => i1 | 2 => i2 | 3 => i3 | 4 => i4 | 5 => i5 | 6 => i6 | 7 => i7 | 8 => i8 | 9 => i9 | 10 => i10 | _ => i0)), (fun k => match k with | 1 => a1 | 2 => a2 | 3 => a3 | 4 => a4 | 5 => a5 | _ => a0), ⟨?_, ?_⟩, nw_start hts, o4, o5⟩
  · intro k q hq
    match k, hq with
    | 0, hq => cases hq; exact k0
    | 1, hq => cases hq; exact k1
    | 2, hq => cases hq; exact k2
    | 3, hq => cases hq; exact k3
    | 4, hq => cases hq; exact k4
    | 5, hq => cases hq; exact k5
    | 6, hq => cases hq; exact k6
    | 7, hq => cases hq; exact k7
    | 8, hq => cases hq; exact k8
    | 9, hq => cases hq; exact k9
    | 10, hq => cases hq; exact k10
    | k + 11, hq => exact absurd hq (by simp [vwCl])
  · intro k q hq
    match k, hq with
    | 0, hq => cases hq; exact ⟨hb0, ha0⟩
    | 1, hq => cases hq; exact ⟨hb1, ha1⟩
    | 2, hq => cases hq; exact ⟨hb2, ha2⟩
    | 3, hq => cases hq; exact ⟨hb3, ha3⟩
    | 4, hq => cases hq; exact ⟨ha4, hb4⟩
    | 5, hq => cases hq; exact ⟨ha5, hb5⟩
    | k + 6, hq => exact absurd hq (by simp [tyL])
theorem rgi_wd {f : Nat → Int32} (hw : ∀ k : Nat, f k = if k < 4 then -1 else 0) : ∀ k, Rgi 51 k (f k) := by
  intro k
  rw [hw k]
  by_cases h : k < 4
  · rw [if_pos h]; exact ⟨by decide, by decide⟩
  · rw [if_neg h]; exact ⟨by decide, by decide⟩
noncomputable def tlX (xo : Nat) (u : (Nat → Nat) × (Nat → Nat → Int32) × (Nat → Nat → Int64) × (Nat → Int32)) : List TE := [((xo, 1, (fun k => match k with | 13 => (-1) | _ => 0), (fun _ => 0), (fun k => match k with | 0 => some (u.1 1) | 1 => some (u.1 2) | 2 => some (u.1 3) | 3 => some (u.1 4) | 4 => some (u.1 5) | 5 => some (u.1 6) | 6 => some (u.1 7) | 7 => some (u.1 8) | 8 => some (u.1 9) | 10 => some (u.1 11) | _ => none), 0) : TE), (((u.1 1), 20, (fun _ => 0), (fun _ => 0), (fun _ => none), 1600) : TE), (((u.1 2), 2, (fun k => match k with | 1 => (-1) | _ => 0), (fun _ => 0), (fun k => match k with | 2 => some (u.1 20) | 8 => some (u.1 21) | _ => none), 0) : TE), (((u.1 20), 20, (fun _ => 0), (fun _ => 0), (fun _ => none), 0) : TE), (((u.1 21), 7, (fun k => match k with | 8 => 1 | 9 => 10 | _ => 0), (fun _ => 0), (fun k => match k with | 14 => some (u.1 22) | 15 => some (u.1 23) | 16 => some (u.1 24) | 17 => some (u.1 25) | 18 => some (u.1 26) | 19 => some (u.1 27) | 20 => some (u.1 28) | _ => none), 0) : TE), (((u.1 22), 26, (fun _ => 0), (fun _ => 0), (fun _ => none), 3) : TE), (((u.1 23), 26, (fun _ => 0), (fun _ => 0), (fun _ => none), 3) : TE), (((u.1 24), 26, (fun _ => 0), (fun _ => 0), (fun _ => none), 3) : TE), (((u.1 25), 27, (fun _ => 0), (fun _ => 0), (fun _ => none), 6) : TE), (((u.1 26), 27, (fun _ => 0), (fun _ => 0), (fun _ => none), 6) : TE), (((u.1 27), 28, (fun _ => 0), (fun _ => 0), (fun _ => none), 18) : TE), (((u.1 28), 29, (fun _ => 0), (fun _ => 0), (fun _ => none), 36) : TE), (((u.1 3), 3, (fun _ => 0), (fun _ => 0), (fun k => match k with | 0 => some (u.1 30) | 1 => some (u.1 31) | 3 => some (u.1 32) | 4 => some (u.1 33) | _ => none), 0) : TE), (((u.1 30), 8, (fun _ => 0), (fun _ => 0), (fun k => match k with | 0 => some (u.1 34) | 1 => some (u.1 35) | 2 => some (u.1 36) | 3 => some (u.1 37) | 4 => some (u.1 38) | 5 => some (u.1 39) | 6 => some (u.1 40) | _ => none), 0) : TE), (((u.1 34), 32, (fun _ => 0), (fun _ => 0), (fun _ => none), 61) : TE), (((u.1 35), 33, (fun _ => 0), (fun _ => 0), (fun _ => none), 3721) : TE), (((u.1 36), 34, (fun _ => 0), (fun _ => 0), (fun _ => none), 122) : TE), (((u.1 37), 34, (fun _ => 0), (fun _ => 0), (fun _ => none), 122) : TE), (((u.1 38), 35, (fun _ => 0), (fun _ => 0), (fun _ => none), 64) : TE), (((u.1 39), 35, (fun _ => 0), (fun _ => 0), (fun _ => none), 64) : TE), (((u.1 40), 35, (fun _ => 0), (fun _ => 0), (fun _ => none), 64) : TE), (((u.1 31), 36, (fun _ => 0), (fun _ => 0), (fun _ => none), 1081) : TE), (((u.1 32), 37, (fun _ => 0), (fun _ => 0), (fun _ => none), 3000) : TE), (((u.1 33), 38, (fun _ => 0), (fun _ => 0), (fun _ => none), 3) : TE), (((u.1 4), 4, (fun k => match k with | 8 => 1 | _ => 0), (fun _ => 0), (fun k => match k with | 0 => some (u.1 50) | 1 => some (u.1 51) | 2 => some (u.1 52) | 3 => some (u.1 53) | _ => none), 0) : TE), (((u.1 50), 30, (fun _ => 0), (fun _ => 0), (fun _ => none), 601) : TE), (((u.1 51), 30, (fun _ => 0), (fun _ => 0), (fun _ => none), 601) : TE), (((u.1 52), 31, (fun _ => 0), (fun _ => 0), (fun _ => none), 601) : TE), (((u.1 53), 7, (fun k => match k with | 8 => 1 | 9 => 10 | _ => 0), (fun _ => 0), (fun k => match k with | 14 => some (u.1 54) | 15 => some (u.1 55) | 16 => some (u.1 56) | 17 => some (u.1 57) | 18 => some (u.1 58) | 19 => some (u.1 59) | 20 => some (u.1 60) | _ => none), 0) : TE), (((u.1 54), 26, (fun _ => 0), (fun _ => 0), (fun _ => none), 3) : TE), (((u.1 55), 26, (fun _ => 0), (fun _ => 0), (fun _ => none), 3) : TE), (((u.1 56), 26, (fun _ => 0), (fun _ => 0), (fun _ => none), 3) : TE), (((u.1 57), 27, (fun _ => 0), (fun _ => 0), (fun _ => none), 6) : TE), (((u.1 58), 27, (fun _ => 0), (fun _ => 0), (fun _ => none), 6) : TE), (((u.1 59), 28, (fun _ => 0), (fun _ => 0), (fun _ => none), 18) : TE), (((u.1 60), 29, (fun _ => 0), (fun _ => 0), (fun _ => none), 36) : TE), (((u.1 5), 5, (fun _ => 0), (fun _ => 0), (fun k => match k with | 0 => some (u.1 70) | _ => none), 0) : TE), (((u.1 70), 39, (fun _ => 0), (fun _ => 0), (fun _ => none), 6) : TE), (((u.1 6), 6, (fun _ => 0), (fun _ => 0), (fun _ => none), 0) : TE), (((u.1 7), 25, (fun _ => 0), (fun _ => 0), (fun _ => none), 6) : TE), (((u.1 8), 23, (fun _ => 0), (fun _ => 0), (fun _ => none), 4) : TE), (((u.1 9), 24, (fun _ => 0), (fun _ => 0), (fun _ => none), 3) : TE), (((u.1 11), 7, (fun k => match k with | 8 => 1 | 9 => 10 | _ => 0), (fun _ => 0), (fun k => match k with | 14 => some (u.1 12) | 15 => some (u.1 13) | 16 => some (u.1 14) | 17 => some (u.1 15) | 18 => some (u.1 16) | 19 => some (u.1 17) | 20 => some (u.1 18) | _ => none), 0) : TE), (((u.1 12), 26, (fun _ => 0), (fun _ => 0), (fun _ => none), 3) : TE), (((u.1 13), 26, (fun _ => 0), (fun _ => 0), (fun _ => none), 3) : TE), (((u.1 14), 26, (fun _ => 0), (fun _ => 0), (fun _ => none), 3) : TE), (((u.1 15), 27, (fun _ => 0), (fun _ => 0), (fun _ => none), 6) : TE), (((u.1 16), 27, (fun _ => 0), (fun _ => 0), (fun _ => none), 6) : TE), (((u.1 17), 28, (fun _ => 0), (fun _ => 0), (fun _ => none), 18) : TE), (((u.1 18), 29, (fun _ => 0), (fun _ => 0), (fun _ => none), 36) : TE)]
noncomputable def tlM (mo : Nat) (w : (Nat → Nat) × (Nat → Nat → Int32) × (Nat → Nat → Int64) × (Nat → Int32)) : List TE := [((mo, 11, (fun k => match k with | 15 => (-1) | _ => 0), (fun _ => 0), (fun k => match k with | 1 => some (w.1 1) | 2 => some (w.1 2) | 3 => some (w.1 3) | 4 => some (w.1 4) | 5 => some (w.1 5) | 16 => some (w.1 16) | 17 => some (w.1 17) | 18 => some (w.1 18) | 19 => some (w.1 19) | 20 => some (w.1 20) | 21 => some (w.1 21) | 22 => some (w.1 22) | 23 => some (w.1 23) | 24 => some (w.1 24) | 25 => some (w.1 25) | 26 => some (w.1 26) | 27 => some (w.1 27) | 28 => some (w.1 28) | 29 => some (w.1 29) | 30 => some (w.1 30) | 31 => some (w.1 31) | 32 => some (w.1 32) | 33 => some (w.1 33) | 34 => some (w.1 34) | 35 => some (w.1 35) | 36 => some (w.1 36) | 37 => some (w.1 37) | 38 => some (w.1 38) | 39 => some (w.1 39) | 40 => some (w.1 40) | 41 => some (w.1 41) | _ => none), 0) : TE), (((w.1 1), 51, (w.2.1 0), (fun _ => 0), (fun _ => none), 4) : TE), (((w.1 2), 52, (fun _ => 0), (fun _ => 0), (fun _ => none), 4) : TE), (((w.1 3), 53, (fun _ => 0), (fun _ => 0), (fun _ => none), 240) : TE), (((w.1 4), 54, (fun _ => 0), (fun _ => 0), (fun _ => none), 60) : TE), (((w.1 5), 55, (fun _ => 0), (fun _ => 0), (fun _ => none), 1600) : TE), (((w.1 16), 66, (fun _ => 0), (fun _ => 0), (fun _ => none), 5) : TE), (((w.1 17), 67, (fun _ => 0), (fun _ => 0), (fun _ => none), 20) : TE), (((w.1 18), 68, (fun _ => 0), (fun _ => 0), (fun _ => none), 5) : TE), (((w.1 19), 69, (fun _ => 0), (fun _ => 0), (fun _ => none), 45) : TE), (((w.1 20), 70, (fun _ => 0), (fun _ => 0), (fun _ => none), 5) : TE), (((w.1 21), 71, (fun _ => 0), (fun _ => 0), (fun _ => none), 150) : TE), (((w.1 22), 72, (fun _ => 0), (fun _ => 0), (fun _ => none), 5) : TE), (((w.1 23), 73, (fun _ => 0), (fun _ => 0), (fun _ => none), 120) : TE), (((w.1 24), 74, (fun _ => 0), (fun _ => 0), (fun _ => none), 30) : TE), (((w.1 25), 75, (fun _ => 0), (fun _ => 0), (fun _ => none), 15) : TE), (((w.1 26), 76, (fun _ => 0), (fun _ => 0), (fun _ => none), 5) : TE), (((w.1 27), 77, (fun _ => 0), (fun _ => 0), (fun _ => none), 30) : TE), (((w.1 28), 78, (fun _ => 0), (fun _ => 0), (fun _ => none), 3) : TE), (((w.1 29), 79, (fun _ => 0), (fun _ => 0), (fun _ => none), 61) : TE), (((w.1 30), 80, (fun _ => 0), (fun _ => 0), (fun _ => none), 3721) : TE), (((w.1 31), 81, (fun _ => 0), (fun _ => 0), (fun _ => none), 3721) : TE), (((w.1 32), 82, (fun _ => 0), (fun _ => 0), (fun _ => none), 3721) : TE), (((w.1 33), 83, (fun _ => 0), (fun _ => 0), (fun _ => none), 64) : TE), (((w.1 34), 84, (fun _ => 0), (fun _ => 0), (fun _ => none), 64) : TE), (((w.1 35), 85, (fun _ => 0), (fun _ => 0), (fun _ => none), 64) : TE), (((w.1 36), 86, (fun _ => 0), (fun _ => 0), (fun _ => none), 3000) : TE), (((w.1 37), 87, (fun _ => 0), (fun _ => 0), (fun _ => none), 4000) : TE), (((w.1 38), 88, (fun _ => 0), (fun _ => 0), (fun _ => none), 75000) : TE), (((w.1 39), 89, (fun _ => 0), (fun _ => 0), (fun _ => none), 1100) : TE), (((w.1 40), 90, (fun _ => 0), (fun _ => 0), (fun _ => none), 6) : TE), (((w.1 41), 91, (fun _ => 0), (fun _ => 0), (fun _ => none), 6) : TE)]
