theorem dX10_copyRow_0 : decode cX10_copyRow 0 = .ok (.iconst 0, 1) := by decide +kernel
theorem dX10_copyRow_1 : decode cX10_copyRow 1 = .ok (.istore 4, 2) := by decide +kernel
theorem dX10_copyRow_3 : decode cX10_copyRow 3 = .ok (.iload 4, 2) := by decide +kernel
theorem dX10_copyRow_5 : decode cX10_copyRow 5 = .ok (.iload_n 1, 1) := by decide +kernel
theorem dX10_copyRow_6 : decode cX10_copyRow 6 = .ok (.if_icmp .ge 25, 3) := by decide +kernel
theorem dX10_copyRow_31 : decode cX10_copyRow 31 = .ok (.return_, 1) := by decide +kernel
theorem dX10_copyRow_9 : decode cX10_copyRow 9 = .ok (.aload_n 0, 1) := by decide +kernel
theorem dX10_copyRow_10 : decode cX10_copyRow 10 = .ok (.iload_n 1, 1) := by decide +kernel
theorem dX10_copyRow_11 : decode cX10_copyRow 11 = .ok (.iload_n 3, 1) := by decide +kernel
theorem dX10_copyRow_12 : decode cX10_copyRow 12 = .ok (.imul, 1) := by decide +kernel
theorem dX10_copyRow_13 : decode cX10_copyRow 13 = .ok (.iload 4, 2) := by decide +kernel
theorem dX10_copyRow_15 : decode cX10_copyRow 15 = .ok (.iadd, 1) := by decide +kernel
theorem dX10_copyRow_16 : decode cX10_copyRow 16 = .ok (.aload_n 0, 1) := by decide +kernel
theorem dX10_copyRow_17 : decode cX10_copyRow 17 = .ok (.iload_n 1, 1) := by decide +kernel
theorem dX10_copyRow_18 : decode cX10_copyRow 18 = .ok (.iload_n 2, 1) := by decide +kernel
theorem dX10_copyRow_19 : decode cX10_copyRow 19 = .ok (.imul, 1) := by decide +kernel
theorem dX10_copyRow_20 : decode cX10_copyRow 20 = .ok (.iload 4, 2) := by decide +kernel
theorem dX10_copyRow_22 : decode cX10_copyRow 22 = .ok (.iadd, 1) := by decide +kernel
theorem dX10_copyRow_23 : decode cX10_copyRow 23 = .ok (.iaload, 1) := by decide +kernel
theorem dX10_copyRow_24 : decode cX10_copyRow 24 = .ok (.iastore, 1) := by decide +kernel
theorem dX10_copyRow_25 : decode cX10_copyRow 25 = .ok (.iinc 4 1, 3) := by decide +kernel
theorem dX10_copyRow_28 : decode cX10_copyRow 28 = .ok (.goto (-25), 3) := by decide +kernel
set_option maxHeartbeats 4000000 in
set_option maxRecDepth 100000 in
theorem copyRow_1 (l : Launch) (D : va_G) (cy : Nat → ClassId) (ar : Nat) (f : Nat → Int32) (a : Int32) (b : Int32) (ha0 : 0 ≤ a.toInt) (ha1 : a.toInt ≤ 4) (hb0 : 0 ≤ b.toInt) (hb1 : b.toInt ≤ 4) (sz : Nat) : MM l yX10_copyRow cX10_copyRow 5 none 0 0 0 D cy [.ref ar, .int 1, .int a, .int b] (PW D [(ar, .inl (cy 1, 5, .inl f))] sz) (QW D (va_A [(ar, .inl (cy 1, 5, .inl f))] sz) (S := (Nat → Nat) × (Nat → Nat → Int32) × (Nat → Nat → Int64) × (Nat → Int32)) (fun v u => v = none ∧ (∀ c : Int32, (∀ j, f j = c) → ∀ j, u.2.1 0 j = c)) (fun u => [(ar, .inl (cy 1, 5, .inl (u.2.1 0)))])) (va_A [(ar, .inl (cy 1, 5, .inl f))] sz) := by
  refine MM.of (by decide) (Nat.le_of_ble_eq_true rfl) ?_
  intro p e s m below meth c C hPW ls hl
  obtain ⟨hx, hb, hr, hml, hown, hts, hlocks, hK, hnm⟩ := C
  obtain ⟨rfl, hP, hD0⟩ := hPW
  have hD := hD0.self (sz := s.heap.size)
  have hA : ∀ q : Nat, s.heap.size ≤ q → (va_A [(ar, .inl (cy 1, 5, .inl f))] s.heap.size) q := fun q h => Or.inr h
  have hS : va_S (va_A [(ar, .inl (cy 1, 5, .inl f))] s.heap.size) s.heap s.heap [] := va_S.rf
  generalize va_A [(ar, .inl (cy 1, 5, .inl f))] s.heap.size = A at hD hA hS ⊢
  have hP : va_P D vwCl [(ar, .inl (cy 1, 5, .inl f))] s.heap := hP
  have hl : lv_has ls 5 [(0, .ref ar), (1, .int 1), (2, .int a), (3, .int b)] := hl
  refine lv_iconst (v := 0) hx hb dX10_copyRow_0 (by decide) ?_
  refine lv_istore (lv' := [(4, .int 0), (0, .ref ar), (1, .int 1), (2, .int a), (3, .int b)]) hx hb dX10_copyRow_1 hl (by decide) rfl (fun ls hl => ?_)
  have hl := lv_sub (l' := [(4, .int 0), (0, .ref ar), (1, .int 1), (2, .int a), (3, .int b)]) hl [0, 1, 2, 3, 4] rfl
  refine W.loop (σ := Int32 × (Nat → Int32)) (fun w9 H locs ls => 0 ≤ w9.1.toInt ∧ w9.1.toInt ≤ 1 ∧ (∀ c : Int32, (∀ j, f j = c) → ∀ j, w9.2 j = c) ∧ va_P D vwCl [(ar, .inl (cy 1, 5, .inl w9.2))] H ∧ va_D A [(ar, .inl (cy 1, 5, .inl w9.2))] ∧ va_S A s.heap H locs ∧ lv_has ls 5 [(4, .int w9.1), (0, .ref ar), (1, .int 1), (2, .int a), (3, .int b)]) (fun w9 => (1 - w9.1.toInt).toNat) ?_ (0, f) _ _ _ ⟨by show (0 : Int) ≤ 0; decide, by show (0 : Int) ≤ _; decide, fun _ h => h, hP, hD, hS, hl⟩
  intro w9 H locs ls hI ih
  obtain ⟨k, g⟩ := w9
  obtain ⟨hk0, hk1, hg, hP, hD, hS, hl⟩ := hI
  have hk0 : 0 ≤ k.toInt := hk0
  have hk1 : k.toInt ≤ 1 := hk1
  have hg : ∀ c : Int32, (∀ j, f j = c) → ∀ j, g j = c := hg
  have hP : va_P D vwCl [(ar, .inl (cy 1, 5, .inl g))] H := hP
  have hD : va_D A [(ar, .inl (cy 1, 5, .inl g))] := hD
  have hl : lv_has ls 5 [(4, .int k), (0, .ref ar), (1, .int 1), (2, .int a), (3, .int b)] := hl
  refine lv_iload hx hb dX10_copyRow_3 (lv_at hl 0 rfl) ?_
  refine lv_iload_n hx hb dX10_copyRow_5 rfl (lv_at hl 2 rfl) ?_
  refine lv_icmp_ge (tgt := 31) hx hb dX10_copyRow_6 (by decide) (fun c_1 => ?_) (fun c_1 => ?_)
  · skip
    have tc_1 : 1 ≤ k.toInt := (fa_le _ _).mp c_1
    exact ret_v hx hb hr hlocks ⟨⟨hS.1, hS.2.1⟩, ((fun _ => 0), (fun k => match k with | 0 => g | _ => (fun _ => 0)), (fun _ => (fun _ => 0)), (fun _ => 0)), ⟨rfl, hg⟩, hP.sub [0] rfl, hD.sub [0] (by decide) rfl⟩ hS.2.2 (Nat.le_of_ble_eq_true rfl) (Nat.le_of_ble_eq_true rfl) dX10_copyRow_31
  · skip
    have tc_1 : ¬ 1 ≤ k.toInt := fun h => c_1 ((fa_le _ _).mpr h)
    refine lv_aload_n hx hb dX10_copyRow_9 rfl (lv_at hl 1 rfl) ?_
    refine lv_iload_n hx hb dX10_copyRow_10 rfl (lv_at hl 2 rfl) ?_
    refine lv_iload_n hx hb dX10_copyRow_11 rfl (lv_at hl 4 rfl) ?_
    refine lv_imul hx hb dX10_copyRow_12 ?_
    refine lv_topi (fun z_2 ez_2 => ?_)
    have tz_2 : z_2.toInt = 1 * b.toInt := mul_t ez_2 (show -2147483648 ≤ 1 * b.toInt by omega) (show 1 * b.toInt < 2147483648 by omega)
    refine lv_iload hx hb dX10_copyRow_13 (lv_at hl 0 rfl) ?_
    refine lv_iadd hx hb dX10_copyRow_15 ?_
    refine lv_topi (fun z_3 ez_3 => ?_)
    have tz_3 : z_3.toInt = z_2.toInt + k.toInt := add_t ez_3 (show -2147483648 ≤ z_2.toInt + k.toInt by omega) (show z_2.toInt + k.toInt < 2147483648 by omega)
    refine lv_aload_n hx hb dX10_copyRow_16 rfl (lv_at hl 1 rfl) ?_
    refine lv_iload_n hx hb dX10_copyRow_17 rfl (lv_at hl 2 rfl) ?_
    refine lv_iload_n hx hb dX10_copyRow_18 rfl (lv_at hl 3 rfl) ?_
    refine lv_imul hx hb dX10_copyRow_19 ?_
    refine lv_topi (fun z_4 ez_4 => ?_)
    have tz_4 : z_4.toInt = 1 * a.toInt := mul_t ez_4 (show -2147483648 ≤ 1 * a.toInt by omega) (show 1 * a.toInt < 2147483648 by omega)
    refine lv_iload hx hb dX10_copyRow_20 (lv_at hl 0 rfl) ?_
    refine lv_iadd hx hb dX10_copyRow_22 ?_
    refine lv_topi (fun z_5 ez_5 => ?_)
    have tz_5 : z_5.toInt = z_4.toInt + k.toInt := add_t ez_5 (show -2147483648 ≤ z_4.toInt + k.toInt by omega) (show z_4.toInt + k.toInt < 2147483648 by omega)
    refine va_iald hx hb hK.1 hP 0 1 rfl rfl (i := z_5) (vp_in_iff.mpr ⟨by omega, by omega⟩) dX10_copyRow_23 ?_
    refine lv_topi (fun z_6 ez_6 => ?_)
    refine va_iast hx hb hK.1 hP hD hS 0 1 rfl rfl (i := z_3) (vp_in_iff.mpr ⟨by omega, by omega⟩) dX10_copyRow_24 (fun H locs hP hD hS => ?_)
    have hg2 : ∀ c : Int32, (∀ j, f j = c) → ∀ j, (upd g (z_3).toNatClampNeg z_6) j = c := fun c h j => by unfold upd; split; exact ez_6.trans (hg c h _); exact hg c h j
    have hP : va_P D vwCl [(ar, .inl (cy 1, 5, .inl (upd g (z_3).toNatClampNeg z_6)))] H := hP
    have hD : va_D A [(ar, .inl (cy 1, 5, .inl (upd g (z_3).toNatClampNeg z_6)))] := hD
    obtain ⟨z_8, ez_8⟩ : ∃ y : Int32, y = k + 1 := ⟨_, rfl⟩
    have tz_8 : z_8.toInt = k.toInt + 1 := add_t ez_8 (show -2147483648 ≤ k.toInt + 1 by omega) (show k.toInt + 1 < 2147483648 by omega)
    refine lv_iinc (v := z_8) (lv' := [(4, .int z_8), (0, .ref ar), (1, .int 1), (2, .int a), (3, .int b)]) hx hb dX10_copyRow_25 hl (k := 0) rfl (by rw [ez_8]; rfl) (by decide) rfl (fun ls hl => ?_)
    refine lv_goto (tgt := 3) hx hb dX10_copyRow_28 (by decide) ?_
    exact ih (z_8, (upd g (z_3).toNatClampNeg z_6)) _ _ _ (by show (1 - z_8.toInt).toNat < (1 - k.toInt).toNat; omega) ⟨by show 0 ≤ z_8.toInt; omega, by show z_8.toInt ≤ 1; omega, hg2, hP, hD, hS, lv_sub hl [0, 1, 2, 3, 4] rfl⟩
set_option maxHeartbeats 4000000 in
set_option maxRecDepth 100000 in
theorem copyRow_4 (l : Launch) (D : va_G) (cy : Nat → ClassId) (ar : Nat) (f : Nat → Int32) (a : Int32) (b : Int32) (ha0 : 0 ≤ a.toInt) (ha1 : a.toInt ≤ 4) (hb0 : 0 ≤ b.toInt) (hb1 : b.toInt ≤ 4) (sz : Nat) : MM l yX10_copyRow cX10_copyRow 5 none 0 0 0 D cy [.ref ar, .int 4, .int a, .int b] (PW D [(ar, .inl (cy 1, 20, .inl f))] sz) (QW D (va_A [(ar, .inl (cy 1, 20, .inl f))] sz) (S := (Nat → Nat) × (Nat → Nat → Int32) × (Nat → Nat → Int64) × (Nat → Int32)) (fun v u => v = none ∧ (∀ c : Int32, (∀ j, f j = c) → ∀ j, u.2.1 0 j = c)) (fun u => [(ar, .inl (cy 1, 20, .inl (u.2.1 0)))])) (va_A [(ar, .inl (cy 1, 20, .inl f))] sz) := by
  refine MM.of (by decide) (Nat.le_of_ble_eq_true rfl) ?_
  intro p e s m below meth c C hPW ls hl
  obtain ⟨hx, hb, hr, hml, hown, hts, hlocks, hK, hnm⟩ := C
  obtain ⟨rfl, hP, hD0⟩ := hPW
  have hD := hD0.self (sz := s.heap.size)
  have hA : ∀ q : Nat, s.heap.size ≤ q → (va_A [(ar, .inl (cy 1, 20, .inl f))] s.heap.size) q := fun q h => Or.inr h
  have hS : va_S (va_A [(ar, .inl (cy 1, 20, .inl f))] s.heap.size) s.heap s.heap [] := va_S.rf
  generalize va_A [(ar, .inl (cy 1, 20, .inl f))] s.heap.size = A at hD hA hS ⊢
  have hP : va_P D vwCl [(ar, .inl (cy 1, 20, .inl f))] s.heap := hP
  have hl : lv_has ls 5 [(0, .ref ar), (1, .int 4), (2, .int a), (3, .int b)] := hl
  refine lv_iconst (v := 0) hx hb dX10_copyRow_0 (by decide) ?_
  refine lv_istore (lv' := [(4, .int 0), (0, .ref ar), (1, .int 4), (2, .int a), (3, .int b)]) hx hb dX10_copyRow_1 hl (by decide) rfl (fun ls hl => ?_)
  have hl := lv_sub (l' := [(4, .int 0), (0, .ref ar), (1, .int 4), (2, .int a), (3, .int b)]) hl [0, 1, 2, 3, 4] rfl
  refine W.loop (σ := Int32 × (Nat → Int32)) (fun w9 H locs ls => 0 ≤ w9.1.toInt ∧ w9.1.toInt ≤ 4 ∧ (∀ c : Int32, (∀ j, f j = c) → ∀ j, w9.2 j = c) ∧ va_P D vwCl [(ar, .inl (cy 1, 20, .inl w9.2))] H ∧ va_D A [(ar, .inl (cy 1, 20, .inl w9.2))] ∧ va_S A s.heap H locs ∧ lv_has ls 5 [(4, .int w9.1), (0, .ref ar), (1, .int 4), (2, .int a), (3, .int b)]) (fun w9 => (4 - w9.1.toInt).toNat) ?_ (0, f) _ _ _ ⟨by show (0 : Int) ≤ 0; decide, by show (0 : Int) ≤ _; decide, fun _ h => h, hP, hD, hS, hl⟩
  intro w9 H locs ls hI ih
  obtain ⟨k, g⟩ := w9
  obtain ⟨hk0, hk1, hg, hP, hD, hS, hl⟩ := hI
  have hk0 : 0 ≤ k.toInt := hk0
  have hk1 : k.toInt ≤ 4 := hk1
  have hg : ∀ c : Int32, (∀ j, f j = c) → ∀ j, g j = c := hg
  have hP : va_P D vwCl [(ar, .inl (cy 1, 20, .inl g))] H := hP
  have hD : va_D A [(ar, .inl (cy 1, 20, .inl g))] := hD
  have hl : lv_has ls 5 [(4, .int k), (0, .ref ar), (1, .int 4), (2, .int a), (3, .int b)] := hl
  refine lv_iload hx hb dX10_copyRow_3 (lv_at hl 0 rfl) ?_
  refine lv_iload_n hx hb dX10_copyRow_5 rfl (lv_at hl 2 rfl) ?_
  refine lv_icmp_ge (tgt := 31) hx hb dX10_copyRow_6 (by decide) (fun c_1 => ?_) (fun c_1 => ?_)
  · skip
    have tc_1 : 4 ≤ k.toInt := (fa_le _ _).mp c_1
    exact ret_v hx hb hr hlocks ⟨⟨hS.1, hS.2.1⟩, ((fun _ => 0), (fun k => match k with | 0 => g | _ => (fun _ => 0)), (fun _ => (fun _ => 0)), (fun _ => 0)), ⟨rfl, hg⟩, hP.sub [0] rfl, hD.sub [0] (by decide) rfl⟩ hS.2.2 (Nat.le_of_ble_eq_true rfl) (Nat.le_of_ble_eq_true rfl) dX10_copyRow_31
  · skip
    have tc_1 : ¬ 4 ≤ k.toInt := fun h => c_1 ((fa_le _ _).mpr h)
    refine lv_aload_n hx hb dX10_copyRow_9 rfl (lv_at hl 1 rfl) ?_
    refine lv_iload_n hx hb dX10_copyRow_10 rfl (lv_at hl 2 rfl) ?_
    refine lv_iload_n hx hb dX10_copyRow_11 rfl (lv_at hl 4 rfl) ?_
    refine lv_imul hx hb dX10_copyRow_12 ?_
    refine lv_topi (fun z_2 ez_2 => ?_)
    have tz_2 : z_2.toInt = 4 * b.toInt := mul_t ez_2 (show -2147483648 ≤ 4 * b.toInt by omega) (show 4 * b.toInt < 2147483648 by omega)
    refine lv_iload hx hb dX10_copyRow_13 (lv_at hl 0 rfl) ?_
    refine lv_iadd hx hb dX10_copyRow_15 ?_
    refine lv_topi (fun z_3 ez_3 => ?_)
    have tz_3 : z_3.toInt = z_2.toInt + k.toInt := add_t ez_3 (show -2147483648 ≤ z_2.toInt + k.toInt by omega) (show z_2.toInt + k.toInt < 2147483648 by omega)
    refine lv_aload_n hx hb dX10_copyRow_16 rfl (lv_at hl 1 rfl) ?_
    refine lv_iload_n hx hb dX10_copyRow_17 rfl (lv_at hl 2 rfl) ?_
    refine lv_iload_n hx hb dX10_copyRow_18 rfl (lv_at hl 3 rfl) ?_
    refine lv_imul hx hb dX10_copyRow_19 ?_
    refine lv_topi (fun z_4 ez_4 => ?_)
    have tz_4 : z_4.toInt = 4 * a.toInt := mul_t ez_4 (show -2147483648 ≤ 4 * a.toInt by omega) (show 4 * a.toInt < 2147483648 by omega)
    refine lv_iload hx hb dX10_copyRow_20 (lv_at hl 0 rfl) ?_
    refine lv_iadd hx hb dX10_copyRow_22 ?_
    refine lv_topi (fun z_5 ez_5 => ?_)
    have tz_5 : z_5.toInt = z_4.toInt + k.toInt := add_t ez_5 (show -2147483648 ≤ z_4.toInt + k.toInt by omega) (show z_4.toInt + k.toInt < 2147483648 by omega)
    refine va_iald hx hb hK.1 hP 0 1 rfl rfl (i := z_5) (vp_in_iff.mpr ⟨by omega, by omega⟩) dX10_copyRow_23 ?_
    refine lv_topi (fun z_6 ez_6 => ?_)
    refine va_iast hx hb hK.1 hP hD hS 0 1 rfl rfl (i := z_3) (vp_in_iff.mpr ⟨by omega, by omega⟩) dX10_copyRow_24 (fun H locs hP hD hS => ?_)
    have hg2 : ∀ c : Int32, (∀ j, f j = c) → ∀ j, (upd g (z_3).toNatClampNeg z_6) j = c := fun c h j => by unfold upd; split; exact ez_6.trans (hg c h _); exact hg c h j
    have hP : va_P D vwCl [(ar, .inl (cy 1, 20, .inl (upd g (z_3).toNatClampNeg z_6)))] H := hP
    have hD : va_D A [(ar, .inl (cy 1, 20, .inl (upd g (z_3).toNatClampNeg z_6)))] := hD
    obtain ⟨z_8, ez_8⟩ : ∃ y : Int32, y = k + 1 := ⟨_, rfl⟩
    have tz_8 : z_8.toInt = k.toInt + 1 := add_t ez_8 (show -2147483648 ≤ k.toInt + 1 by omega) (show k.toInt + 1 < 2147483648 by omega)
    refine lv_iinc (v := z_8) (lv' := [(4, .int z_8), (0, .ref ar), (1, .int 4), (2, .int a), (3, .int b)]) hx hb dX10_copyRow_25 hl (k := 0) rfl (by rw [ez_8]; rfl) (by decide) rfl (fun ls hl => ?_)
    refine lv_goto (tgt := 3) hx hb dX10_copyRow_28 (by decide) ?_
    exact ih (z_8, (upd g (z_3).toNatClampNeg z_6)) _ _ _ (by show (4 - z_8.toInt).toNat < (4 - k.toInt).toNat; omega) ⟨by show 0 ≤ z_8.toInt; omega, by show z_8.toInt ≤ 4; omega, hg2, hP, hD, hS, lv_sub hl [0, 1, 2, 3, 4] rfl⟩
set_option maxHeartbeats 4000000 in
set_option maxRecDepth 100000 in
theorem copyRow_9 (l : Launch) (D : va_G) (cy : Nat → ClassId) (ar : Nat) (f : Nat → Int32) (a : Int32) (b : Int32) (ha0 : 0 ≤ a.toInt) (ha1 : a.toInt ≤ 4) (hb0 : 0 ≤ b.toInt) (hb1 : b.toInt ≤ 4) (sz : Nat) : MM l yX10_copyRow cX10_copyRow 5 none 0 0 0 D cy [.ref ar, .int 9, .int a, .int b] (PW D [(ar, .inl (cy 1, 45, .inl f))] sz) (QW D (va_A [(ar, .inl (cy 1, 45, .inl f))] sz) (S := (Nat → Nat) × (Nat → Nat → Int32) × (Nat → Nat → Int64) × (Nat → Int32)) (fun v u => v = none ∧ (∀ c : Int32, (∀ j, f j = c) → ∀ j, u.2.1 0 j = c)) (fun u => [(ar, .inl (cy 1, 45, .inl (u.2.1 0)))])) (va_A [(ar, .inl (cy 1, 45, .inl f))] sz) := by
  refine MM.of (by decide) (Nat.le_of_ble_eq_true rfl) ?_
  intro p e s m below meth c C hPW ls hl
  obtain ⟨hx, hb, hr, hml, hown, hts, hlocks, hK, hnm⟩ := C
  obtain ⟨rfl, hP, hD0⟩ := hPW
  have hD := hD0.self (sz := s.heap.size)
  have hA : ∀ q : Nat, s.heap.size ≤ q → (va_A [(ar, .inl (cy 1, 45, .inl f))] s.heap.size) q := fun q h => Or.inr h
  have hS : va_S (va_A [(ar, .inl (cy 1, 45, .inl f))] s.heap.size) s.heap s.heap [] := va_S.rf
  generalize va_A [(ar, .inl (cy 1, 45, .inl f))] s.heap.size = A at hD hA hS ⊢
  have hP : va_P D vwCl [(ar, .inl (cy 1, 45, .inl f))] s.heap := hP
  have hl : lv_has ls 5 [(0, .ref ar), (1, .int 9), (2, .int a), (3, .int b)] := hl
  refine lv_iconst (v := 0) hx hb dX10_copyRow_0 (by decide) ?_
  refine lv_istore (lv' := [(4, .int 0), (0, .ref ar), (1, .int 9), (2, .int a), (3, .int b)]) hx hb dX10_copyRow_1 hl (by decide) rfl (fun ls hl => ?_)
  have hl := lv_sub (l' := [(4, .int 0), (0, .ref ar), (1, .int 9), (2, .int a), (3, .int b)]) hl [0, 1, 2, 3, 4] rfl
  refine W.loop (σ := Int32 × (Nat → Int32)) (fun w9 H locs ls => 0 ≤ w9.1.toInt ∧ w9.1.toInt ≤ 9 ∧ (∀ c : Int32, (∀ j, f j = c) → ∀ j, w9.2 j = c) ∧ va_P D vwCl [(ar, .inl (cy 1, 45, .inl w9.2))] H ∧ va_D A [(ar, .inl (cy 1, 45, .inl w9.2))] ∧ va_S A s.heap H locs ∧ lv_has ls 5 [(4, .int w9.1), (0, .ref ar), (1, .int 9), (2, .int a), (3, .int b)]) (fun w9 => (9 - w9.1.toInt).toNat) ?_ (0, f) _ _ _ ⟨by show (0 : Int) ≤ 0; decide, by show (0 : Int) ≤ _; decide, fun _ h => h, hP, hD, hS, hl⟩
  intro w9 H locs ls hI ih
  obtain ⟨k, g⟩ := w9
  obtain ⟨hk0, hk1, hg, hP, hD, hS, hl⟩ := hI
  have hk0 : 0 ≤ k.toInt := hk0
  have hk1 : k.toInt ≤ 9 := hk1
  have hg : ∀ c : Int32, (∀ j, f j = c) → ∀ j, g j = c := hg
  have hP : va_P D vwCl [(ar, .inl (cy 1, 45, .inl g))] H := hP
  have hD : va_D A [(ar, .inl (cy 1, 45, .inl g))] := hD
  have hl : lv_has ls 5 [(4, .int k), (0, .ref ar), (1, .int 9), (2, .int a), (3, .int b)] := hl
  refine lv_iload hx hb dX10_copyRow_3 (lv_at hl 0 rfl) ?_
  refine lv_iload_n hx hb dX10_copyRow_5 rfl (lv_at hl 2 rfl) ?_
  refine lv_icmp_ge (tgt := 31) hx hb dX10_copyRow_6 (by decide) (fun c_1 => ?_) (fun c_1 => ?_)
  · skip
    have tc_1 : 9 ≤ k.toInt := (fa_le _ _).mp c_1
    exact ret_v hx hb hr hlocks ⟨⟨hS.1, hS.2.1⟩, ((fun _ => 0), (fun k => match k with | 0 => g | _ => (fun _ => 0)), (fun _ => (fun _ => 0)), (fun _ => 0)), ⟨rfl, hg⟩, hP.sub [0] rfl, hD.sub [0] (by decide) rfl⟩ hS.2.2 (Nat.le_of_ble_eq_true rfl) (Nat.le_of_ble_eq_true rfl) dX10_copyRow_31
  · skip
    have tc_1 : ¬ 9 ≤ k.toInt := fun h => c_1 ((fa_le _ _).mpr h)
    refine lv_aload_n hx hb dX10_copyRow_9 rfl (lv_at hl 1 rfl) ?_
    refine lv_iload_n hx hb dX10_copyRow_10 rfl (lv_at hl 2 rfl) ?_
    refine lv_iload_n hx hb dX10_copyRow_11 rfl (lv_at hl 4 rfl) ?_
    refine lv_imul hx hb dX10_copyRow_12 ?_
    refine lv_topi (fun z_2 ez_2 => ?_)
    have tz_2 : z_2.toInt = 9 * b.toInt := mul_t ez_2 (show -2147483648 ≤ 9 * b.toInt by omega) (show 9 * b.toInt < 2147483648 by omega)
    refine lv_iload hx hb dX10_copyRow_13 (lv_at hl 0 rfl) ?_
    refine lv_iadd hx hb dX10_copyRow_15 ?_
    refine lv_topi (fun z_3 ez_3 => ?_)
    have tz_3 : z_3.toInt = z_2.toInt + k.toInt := add_t ez_3 (show -2147483648 ≤ z_2.toInt + k.toInt by omega) (show z_2.toInt + k.toInt < 2147483648 by omega)
    refine lv_aload_n hx hb dX10_copyRow_16 rfl (lv_at hl 1 rfl) ?_
    refine lv_iload_n hx hb dX10_copyRow_17 rfl (lv_at hl 2 rfl) ?_
    refine lv_iload_n hx hb dX10_copyRow_18 rfl (lv_at hl 3 rfl) ?_
    refine lv_imul hx hb dX10_copyRow_19 ?_
    refine lv_topi (fun z_4 ez_4 => ?_)
    have tz_4 : z_4.toInt = 9 * a.toInt := mul_t ez_4 (show -2147483648 ≤ 9 * a.toInt by omega) (show 9 * a.toInt < 2147483648 by omega)
    refine lv_iload hx hb dX10_copyRow_20 (lv_at hl 0 rfl) ?_
    refine lv_iadd hx hb dX10_copyRow_22 ?_
    refine lv_topi (fun z_5 ez_5 => ?_)
    have tz_5 : z_5.toInt = z_4.toInt + k.toInt := add_t ez_5 (show -2147483648 ≤ z_4.toInt + k.toInt by omega) (show z_4.toInt + k.toInt < 2147483648 by omega)
    refine va_iald hx hb hK.1 hP 0 1 rfl rfl (i := z_5) (vp_in_iff.mpr ⟨by omega, by omega⟩) dX10_copyRow_23 ?_
    refine lv_topi (fun z_6 ez_6 => ?_)
    refine va_iast hx hb hK.1 hP hD hS 0 1 rfl rfl (i := z_3) (vp_in_iff.mpr ⟨by omega, by omega⟩) dX10_copyRow_24 (fun H locs hP hD hS => ?_)
    have hg2 : ∀ c : Int32, (∀ j, f j = c) → ∀ j, (upd g (z_3).toNatClampNeg z_6) j = c := fun c h j => by unfold upd; split; exact ez_6.trans (hg c h _); exact hg c h j
    have hP : va_P D vwCl [(ar, .inl (cy 1, 45, .inl (upd g (z_3).toNatClampNeg z_6)))] H := hP
    have hD : va_D A [(ar, .inl (cy 1, 45, .inl (upd g (z_3).toNatClampNeg z_6)))] := hD
    obtain ⟨z_8, ez_8⟩ : ∃ y : Int32, y = k + 1 := ⟨_, rfl⟩
    have tz_8 : z_8.toInt = k.toInt + 1 := add_t ez_8 (show -2147483648 ≤ k.toInt + 1 by omega) (show k.toInt + 1 < 2147483648 by omega)
    refine lv_iinc (v := z_8) (lv' := [(4, .int z_8), (0, .ref ar), (1, .int 9), (2, .int a), (3, .int b)]) hx hb dX10_copyRow_25 hl (k := 0) rfl (by rw [ez_8]; rfl) (by decide) rfl (fun ls hl => ?_)
    refine lv_goto (tgt := 3) hx hb dX10_copyRow_28 (by decide) ?_
    exact ih (z_8, (upd g (z_3).toNatClampNeg z_6)) _ _ _ (by show (9 - z_8.toInt).toNat < (9 - k.toInt).toNat; omega) ⟨by show 0 ≤ z_8.toInt; omega, by show z_8.toInt ≤ 9; omega, hg2, hP, hD, hS, lv_sub hl [0, 1, 2, 3, 4] rfl⟩
set_option maxHeartbeats 4000000 in
set_option maxRecDepth 100000 in
theorem copyRow_30 (l : Launch) (D : va_G) (cy : Nat → ClassId) (ar : Nat) (f : Nat → Int32) (a : Int32) (b : Int32) (ha0 : 0 ≤ a.toInt) (ha1 : a.toInt ≤ 4) (hb0 : 0 ≤ b.toInt) (hb1 : b.toInt ≤ 4) (sz : Nat) : MM l yX10_copyRow cX10_copyRow 5 none 0 0 0 D cy [.ref ar, .int 30, .int a, .int b] (PW D [(ar, .inl (cy 1, 150, .inl f))] sz) (QW D (va_A [(ar, .inl (cy 1, 150, .inl f))] sz) (S := (Nat → Nat) × (Nat → Nat → Int32) × (Nat → Nat → Int64) × (Nat → Int32)) (fun v u => v = none ∧ (∀ c : Int32, (∀ j, f j = c) → ∀ j, u.2.1 0 j = c)) (fun u => [(ar, .inl (cy 1, 150, .inl (u.2.1 0)))])) (va_A [(ar, .inl (cy 1, 150, .inl f))] sz) := by
  refine MM.of (by decide) (Nat.le_of_ble_eq_true rfl) ?_
  intro p e s m below meth c C hPW ls hl
  obtain ⟨hx, hb, hr, hml, hown, hts, hlocks, hK, hnm⟩ := C
  obtain ⟨rfl, hP, hD0⟩ := hPW
  have hD := hD0.self (sz := s.heap.size)
  have hA : ∀ q : Nat, s.heap.size ≤ q → (va_A [(ar, .inl (cy 1, 150, .inl f))] s.heap.size) q := fun q h => Or.inr h
  have hS : va_S (va_A [(ar, .inl (cy 1, 150, .inl f))] s.heap.size) s.heap s.heap [] := va_S.rf
  generalize va_A [(ar, .inl (cy 1, 150, .inl f))] s.heap.size = A at hD hA hS ⊢
  have hP : va_P D vwCl [(ar, .inl (cy 1, 150, .inl f))] s.heap := hP
  have hl : lv_has ls 5 [(0, .ref ar), (1, .int 30), (2, .int a), (3, .int b)] := hl
  refine lv_iconst (v := 0) hx hb dX10_copyRow_0 (by decide) ?_
  refine lv_istore (lv' := [(4, .int 0), (0, .ref ar), (1, .int 30), (2, .int a), (3, .int b)]) hx hb dX10_copyRow_1 hl (by decide) rfl (fun ls hl => ?_)
  have hl := lv_sub (l' := [(4, .int 0), (0, .ref ar), (1, .int 30), (2, .int a), (3, .int b)]) hl [0, 1, 2, 3, 4] rfl
  refine W.loop (σ := Int32 × (Nat → Int32)) (fun w9 H locs ls => 0 ≤ w9.1.toInt ∧ w9.1.toInt ≤ 30 ∧ (∀ c : Int32, (∀ j, f j = c) → ∀ j, w9.2 j = c) ∧ va_P D vwCl [(ar, .inl (cy 1, 150, .inl w9.2))] H ∧ va_D A [(ar, .inl (cy 1, 150, .inl w9.2))] ∧ va_S A s.heap H locs ∧ lv_has ls 5 [(4, .int w9.1), (0, .ref ar), (1, .int 30), (2, .int a), (3, .int b)]) (fun w9 => (30 - w9.1.toInt).toNat) ?_ (0, f) _ _ _ ⟨by show (0 : Int) ≤ 0; decide, by show (0 : Int) ≤ _; decide, fun _ h => h, hP, hD, hS, hl⟩
  intro w9 H locs ls hI ih
  obtain ⟨k, g⟩ := w9
  obtain ⟨hk0, hk1, hg, hP, hD, hS, hl⟩ := hI
  have hk0 : 0 ≤ k.toInt := hk0
  have hk1 : k.toInt ≤ 30 := hk1
  have hg : ∀ c : Int32, (∀ j, f j = c) → ∀ j, g j = c := hg
  have hP : va_P D vwCl [(ar, .inl (cy 1, 150, .inl g))] H := hP
  have hD : va_D A [(ar, .inl (cy 1, 150, .inl g))] := hD
  have hl : lv_has ls 5 [(4, .int k), (0, .ref ar), (1, .int 30), (2, .int a), (3, .int b)] := hl
  refine lv_iload hx hb dX10_copyRow_3 (lv_at hl 0 rfl) ?_
  refine lv_iload_n hx hb dX10_copyRow_5 rfl (lv_at hl 2 rfl) ?_
  refine lv_icmp_ge (tgt := 31) hx hb dX10_copyRow_6 (by decide) (fun c_1 => ?_) (fun c_1 => ?_)
  · skip
    have tc_1 : 30 ≤ k.toInt := (fa_le _ _).mp c_1
    exact ret_v hx hb hr hlocks ⟨⟨hS.1, hS.2.1⟩, ((fun _ => 0), (fun k => match k with | 0 => g | _ => (fun _ => 0)), (fun _ => (fun _ => 0)), (fun _ => 0)), ⟨rfl, hg⟩, hP.sub [0] rfl, hD.sub [0] (by decide) rfl⟩ hS.2.2 (Nat.le_of_ble_eq_true rfl) (Nat.le_of_ble_eq_true rfl) dX10_copyRow_31
  · skip
    have tc_1 : ¬ 30 ≤ k.toInt := fun h => c_1 ((fa_le _ _).mpr h)
    refine lv_aload_n hx hb dX10_copyRow_9 rfl (lv_at hl 1 rfl) ?_
    refine lv_iload_n hx hb dX10_copyRow_10 rfl (lv_at hl 2 rfl) ?_
    refine lv_iload_n hx hb dX10_copyRow_11 rfl (lv_at hl 4 rfl) ?_
    refine lv_imul hx hb dX10_copyRow_12 ?_
    refine lv_topi (fun z_2 ez_2 => ?_)
    have tz_2 : z_2.toInt = 30 * b.toInt := mul_t ez_2 (show -2147483648 ≤ 30 * b.toInt by omega) (show 30 * b.toInt < 2147483648 by omega)
    refine lv_iload hx hb dX10_copyRow_13 (lv_at hl 0 rfl) ?_
    refine lv_iadd hx hb dX10_copyRow_15 ?_
    refine lv_topi (fun z_3 ez_3 => ?_)
    have tz_3 : z_3.toInt = z_2.toInt + k.toInt := add_t ez_3 (show -2147483648 ≤ z_2.toInt + k.toInt by omega) (show z_2.toInt + k.toInt < 2147483648 by omega)
    refine lv_aload_n hx hb dX10_copyRow_16 rfl (lv_at hl 1 rfl) ?_
    refine lv_iload_n hx hb dX10_copyRow_17 rfl (lv_at hl 2 rfl) ?_
    refine lv_iload_n hx hb dX10_copyRow_18 rfl (lv_at hl 3 rfl) ?_
    refine lv_imul hx hb dX10_copyRow_19 ?_
    refine lv_topi (fun z_4 ez_4 => ?_)
    have tz_4 : z_4.toInt = 30 * a.toInt := mul_t ez_4 (show -2147483648 ≤ 30 * a.toInt by omega) (show 30 * a.toInt < 2147483648 by omega)
    refine lv_iload hx hb dX10_copyRow_20 (lv_at hl 0 rfl) ?_
    refine lv_iadd hx hb dX10_copyRow_22 ?_
    refine lv_topi (fun z_5 ez_5 => ?_)
    have tz_5 : z_5.toInt = z_4.toInt + k.toInt := add_t ez_5 (show -2147483648 ≤ z_4.toInt + k.toInt by omega) (show z_4.toInt + k.toInt < 2147483648 by omega)
    refine va_iald hx hb hK.1 hP 0 1 rfl rfl (i := z_5) (vp_in_iff.mpr ⟨by omega, by omega⟩) dX10_copyRow_23 ?_
    refine lv_topi (fun z_6 ez_6 => ?_)
    refine va_iast hx hb hK.1 hP hD hS 0 1 rfl rfl (i := z_3) (vp_in_iff.mpr ⟨by omega, by omega⟩) dX10_copyRow_24 (fun H locs hP hD hS => ?_)
    have hg2 : ∀ c : Int32, (∀ j, f j = c) → ∀ j, (upd g (z_3).toNatClampNeg z_6) j = c := fun c h j => by unfold upd; split; exact ez_6.trans (hg c h _); exact hg c h j
    have hP : va_P D vwCl [(ar, .inl (cy 1, 150, .inl (upd g (z_3).toNatClampNeg z_6)))] H := hP
    have hD : va_D A [(ar, .inl (cy 1, 150, .inl (upd g (z_3).toNatClampNeg z_6)))] := hD
    obtain ⟨z_8, ez_8⟩ : ∃ y : Int32, y = k + 1 := ⟨_, rfl⟩
    have tz_8 : z_8.toInt = k.toInt + 1 := add_t ez_8 (show -2147483648 ≤ k.toInt + 1 by omega) (show k.toInt + 1 < 2147483648 by omega)
    refine lv_iinc (v := z_8) (lv' := [(4, .int z_8), (0, .ref ar), (1, .int 30), (2, .int a), (3, .int b)]) hx hb dX10_copyRow_25 hl (k := 0) rfl (by rw [ez_8]; rfl) (by decide) rfl (fun ls hl => ?_)
    refine lv_goto (tgt := 3) hx hb dX10_copyRow_28 (by decide) ?_
    exact ih (z_8, (upd g (z_3).toNatClampNeg z_6)) _ _ _ (by show (30 - z_8.toInt).toNat < (30 - k.toInt).toNat; omega) ⟨by show 0 ≤ z_8.toInt; omega, by show z_8.toInt ≤ 30; omega, hg2, hP, hD, hS, lv_sub hl [0, 1, 2, 3, 4] rfl⟩
set_option maxHeartbeats 4000000 in
set_option maxRecDepth 100000 in
theorem copyRow_24 (l : Launch) (D : va_G) (cy : Nat → ClassId) (ar : Nat) (f : Nat → Int32) (a : Int32) (b : Int32) (ha0 : 0 ≤ a.toInt) (ha1 : a.toInt ≤ 4) (hb0 : 0 ≤ b.toInt) (hb1 : b.toInt ≤ 4) (sz : Nat) : MM l yX10_copyRow cX10_copyRow 5 none 0 0 0 D cy [.ref ar, .int 24, .int a, .int b] (PW D [(ar, .inl (cy 1, 120, .inl f))] sz) (QW D (va_A [(ar, .inl (cy 1, 120, .inl f))] sz) (S := (Nat → Nat) × (Nat → Nat → Int32) × (Nat → Nat → Int64) × (Nat → Int32)) (fun v u => v = none ∧ (∀ c : Int32, (∀ j, f j = c) → ∀ j, u.2.1 0 j = c)) (fun u => [(ar, .inl (cy 1, 120, .inl (u.2.1 0)))])) (va_A [(ar, .inl (cy 1, 120, .inl f))] sz) := by
  refine MM.of (by decide) (Nat.le_of_ble_eq_true rfl) ?_
  intro p e s m below meth c C hPW ls hl
  obtain ⟨hx, hb, hr, hml, hown, hts, hlocks, hK, hnm⟩ := C
  obtain ⟨rfl, hP, hD0⟩ := hPW
  have hD := hD0.self (sz := s.heap.size)
  have hA : ∀ q : Nat, s.heap.size ≤ q → (va_A [(ar, .inl (cy 1, 120, .inl f))] s.heap.size) q := fun q h => Or.inr h
  have hS : va_S (va_A [(ar, .inl (cy 1, 120, .inl f))] s.heap.size) s.heap s.heap [] := va_S.rf
  generalize va_A [(ar, .inl (cy 1, 120, .inl f))] s.heap.size = A at hD hA hS ⊢
  have hP : va_P D vwCl [(ar, .inl (cy 1, 120, .inl f))] s.heap := hP
  have hl : lv_has ls 5 [(0, .ref ar), (1, .int 24), (2, .int a), (3, .int b)] := hl
  refine lv_iconst (v := 0) hx hb dX10_copyRow_0 (by decide) ?_
  refine lv_istore (lv' := [(4, .int 0), (0, .ref ar), (1, .int 24), (2, .int a), (3, .int b)]) hx hb dX10_copyRow_1 hl (by decide) rfl (fun ls hl => ?_)
  have hl := lv_sub (l' := [(4, .int 0), (0, .ref ar), (1, .int 24), (2, .int a), (3, .int b)]) hl [0, 1, 2, 3, 4] rfl
  refine W.loop (σ := Int32 × (Nat → Int32)) (fun w9 H locs ls => 0 ≤ w9.1.toInt ∧ w9.1.toInt ≤ 24 ∧ (∀ c : Int32, (∀ j, f j = c) → ∀ j, w9.2 j = c) ∧ va_P D vwCl [(ar, .inl (cy 1, 120, .inl w9.2))] H ∧ va_D A [(ar, .inl (cy 1, 120, .inl w9.2))] ∧ va_S A s.heap H locs ∧ lv_has ls 5 [(4, .int w9.1), (0, .ref ar), (1, .int 24), (2, .int a), (3, .int b)]) (fun w9 => (24 - w9.1.toInt).toNat) ?_ (0, f) _ _ _ ⟨by show (0 : Int) ≤ 0; decide, by show (0 : Int) ≤ _; decide, fun _ h => h, hP, hD, hS, hl⟩
  intro w9 H locs ls hI ih
  obtain ⟨k, g⟩ := w9
  obtain ⟨hk0, hk1, hg, hP, hD, hS, hl⟩ := hI
  have hk0 : 0 ≤ k.toInt := hk0
  have hk1 : k.toInt ≤ 24 := hk1
  have hg : ∀ c : Int32, (∀ j, f j = c) → ∀ j, g j = c := hg
  have hP : va_P D vwCl [(ar, .inl (cy 1, 120, .inl g))] H := hP
  have hD : va_D A [(ar, .inl (cy 1, 120, .inl g))] := hD
  have hl : lv_has ls 5 [(4, .int k), (0, .ref ar), (1, .int 24), (2, .int a), (3, .int b)] := hl
  refine lv_iload hx hb dX10_copyRow_3 (lv_at hl 0 rfl) ?_
  refine lv_iload_n hx hb dX10_copyRow_5 rfl (lv_at hl 2 rfl) ?_
  refine lv_icmp_ge (tgt := 31) hx hb dX10_copyRow_6 (by decide) (fun c_1 => ?_) (fun c_1 => ?_)
  · skip
    have tc_1 : 24 ≤ k.toInt := (fa_le _ _).mp c_1
    exact ret_v hx hb hr hlocks ⟨⟨hS.1, hS.2.1⟩, ((fun _ => 0), (fun k => match k with | 0 => g | _ => (fun _ => 0)), (fun _ => (fun _ => 0)), (fun _ => 0)), ⟨rfl, hg⟩, hP.sub [0] rfl, hD.sub [0] (by decide) rfl⟩ hS.2.2 (Nat.le_of_ble_eq_true rfl) (Nat.le_of_ble_eq_true rfl) dX10_copyRow_31
  · skip
    have tc_1 : ¬ 24 ≤ k.toInt := fun h => c_1 ((fa_le _ _).mpr h)
    refine lv_aload_n hx hb dX10_copyRow_9 rfl (lv_at hl 1 rfl) ?_
    refine lv_iload_n hx hb dX10_copyRow_10 rfl (lv_at hl 2 rfl) ?_
    refine lv_iload_n hx hb dX10_copyRow_11 rfl (lv_at hl 4 rfl) ?_
    refine lv_imul hx hb dX10_copyRow_12 ?_
    refine lv_topi (fun z_2 ez_2 => ?_)
    have tz_2 : z_2.toInt = 24 * b.toInt := mul_t ez_2 (show -2147483648 ≤ 24 * b.toInt by omega) (show 24 * b.toInt < 2147483648 by omega)
    refine lv_iload hx hb dX10_copyRow_13 (lv_at hl 0 rfl) ?_
    refine lv_iadd hx hb dX10_copyRow_15 ?_
    refine lv_topi (fun z_3 ez_3 => ?_)
    have tz_3 : z_3.toInt = z_2.toInt + k.toInt := add_t ez_3 (show -2147483648 ≤ z_2.toInt + k.toInt by omega) (show z_2.toInt + k.toInt < 2147483648 by omega)
    refine lv_aload_n hx hb dX10_copyRow_16 rfl (lv_at hl 1 rfl) ?_
    refine lv_iload_n hx hb dX10_copyRow_17 rfl (lv_at hl 2 rfl) ?_
    refine lv_iload_n hx hb dX10_copyRow_18 rfl (lv_at hl 3 rfl) ?_
    refine lv_imul hx hb dX10_copyRow_19 ?_
    refine lv_topi (fun z_4 ez_4 => ?_)
    have tz_4 : z_4.toInt = 24 * a.toInt := mul_t ez_4 (show -2147483648 ≤ 24 * a.toInt by omega) (show 24 * a.toInt < 2147483648 by omega)
    refine lv_iload hx hb dX10_copyRow_20 (lv_at hl 0 rfl) ?_
    refine lv_iadd hx hb dX10_copyRow_22 ?_
    refine lv_topi (fun z_5 ez_5 => ?_)
    have tz_5 : z_5.toInt = z_4.toInt + k.toInt := add_t ez_5 (show -2147483648 ≤ z_4.toInt + k.toInt by omega) (show z_4.toInt + k.toInt < 2147483648 by omega)
    refine va_iald hx hb hK.1 hP 0 1 rfl rfl (i := z_5) (vp_in_iff.mpr ⟨by omega, by omega⟩) dX10_copyRow_23 ?_
    refine lv_topi (fun z_6 ez_6 => ?_)
    refine va_iast hx hb hK.1 hP hD hS 0 1 rfl rfl (i := z_3) (vp_in_iff.mpr ⟨by omega, by omega⟩) dX10_copyRow_24 (fun H locs hP hD hS => ?_)
    have hg2 : ∀ c : Int32, (∀ j, f j = c) → ∀ j, (upd g (z_3).toNatClampNeg z_6) j = c := fun c h j => by unfold upd; split; exact ez_6.trans (hg c h _); exact hg c h j
    have hP : va_P D vwCl [(ar, .inl (cy 1, 120, .inl (upd g (z_3).toNatClampNeg z_6)))] H := hP
    have hD : va_D A [(ar, .inl (cy 1, 120, .inl (upd g (z_3).toNatClampNeg z_6)))] := hD
    obtain ⟨z_8, ez_8⟩ : ∃ y : Int32, y = k + 1 := ⟨_, rfl⟩
    have tz_8 : z_8.toInt = k.toInt + 1 := add_t ez_8 (show -2147483648 ≤ k.toInt + 1 by omega) (show k.toInt + 1 < 2147483648 by omega)
    refine lv_iinc (v := z_8) (lv' := [(4, .int z_8), (0, .ref ar), (1, .int 24), (2, .int a), (3, .int b)]) hx hb dX10_copyRow_25 hl (k := 0) rfl (by rw [ez_8]; rfl) (by decide) rfl (fun ls hl => ?_)
    refine lv_goto (tgt := 3) hx hb dX10_copyRow_28 (by decide) ?_
    exact ih (z_8, (upd g (z_3).toNatClampNeg z_6)) _ _ _ (by show (24 - z_8.toInt).toNat < (24 - k.toInt).toNat; omega) ⟨by show 0 ≤ z_8.toInt; omega, by show z_8.toInt ≤ 24; omega, hg2, hP, hD, hS, lv_sub hl [0, 1, 2, 3, 4] rfl⟩
set_option maxHeartbeats 4000000 in
set_option maxRecDepth 100000 in
theorem copyRow_6 (l : Launch) (D : va_G) (cy : Nat → ClassId) (ar : Nat) (f : Nat → Int32) (a : Int32) (b : Int32) (ha0 : 0 ≤ a.toInt) (ha1 : a.toInt ≤ 4) (hb0 : 0 ≤ b.toInt) (hb1 : b.toInt ≤ 4) (sz : Nat) : MM l yX10_copyRow cX10_copyRow 5 none 0 0 0 D cy [.ref ar, .int 6, .int a, .int b] (PW D [(ar, .inl (cy 1, 30, .inl f))] sz) (QW D (va_A [(ar, .inl (cy 1, 30, .inl f))] sz) (S := (Nat → Nat) × (Nat → Nat → Int32) × (Nat → Nat → Int64) × (Nat → Int32)) (fun v u => v = none ∧ (∀ c : Int32, (∀ j, f j = c) → ∀ j, u.2.1 0 j = c)) (fun u => [(ar, .inl (cy 1, 30, .inl (u.2.1 0)))])) (va_A [(ar, .inl (cy 1, 30, .inl f))] sz) := by
  refine MM.of (by decide) (Nat.le_of_ble_eq_true rfl) ?_
  intro p e s m below meth c C hPW ls hl
  obtain ⟨hx, hb, hr, hml, hown, hts, hlocks, hK, hnm⟩ := C
  obtain ⟨rfl, hP, hD0⟩ := hPW
  have hD := hD0.self (sz := s.heap.size)
  have hA : ∀ q : Nat, s.heap.size ≤ q → (va_A [(ar, .inl (cy 1, 30, .inl f))] s.heap.size) q := fun q h => Or.inr h
  have hS : va_S (va_A [(ar, .inl (cy 1, 30, .inl f))] s.heap.size) s.heap s.heap [] := va_S.rf
  generalize va_A [(ar, .inl (cy 1, 30, .inl f))] s.heap.size = A at hD hA hS ⊢
  have hP : va_P D vwCl [(ar, .inl (cy 1, 30, .inl f))] s.heap := hP
  have hl : lv_has ls 5 [(0, .ref ar), (1, .int 6), (2, .int a), (3, .int b)] := hl
  refine lv_iconst (v := 0) hx hb dX10_copyRow_0 (by decide) ?_
  refine lv_istore (lv' := [(4, .int 0), (0, .ref ar), (1, .int 6), (2, .int a), (3, .int b)]) hx hb dX10_copyRow_1 hl (by decide) rfl (fun ls hl => ?_)
  have hl := lv_sub (l' := [(4, .int 0), (0, .ref ar), (1, .int 6), (2, .int a), (3, .int b)]) hl [0, 1, 2, 3, 4] rfl
  refine W.loop (σ := Int32 × (Nat → Int32)) (fun w9 H locs ls => 0 ≤ w9.1.toInt ∧ w9.1.toInt ≤ 6 ∧ (∀ c : Int32, (∀ j, f j = c) → ∀ j, w9.2 j = c) ∧ va_P D vwCl [(ar, .inl (cy 1, 30, .inl w9.2))] H ∧ va_D A [(ar, .inl (cy 1, 30, .inl w9.2))] ∧ va_S A s.heap H locs ∧ lv_has ls 5 [(4, .int w9.1), (0, .ref ar), (1, .int 6), (2, .int a), (3, .int b)]) (fun w9 => (6 - w9.1.toInt).toNat) ?_ (0, f) _ _ _ ⟨by show (0 : Int) ≤ 0; decide, by show (0 : Int) ≤ _; decide, fun _ h => h, hP, hD, hS, hl⟩
  intro w9 H locs ls hI ih
  obtain ⟨k, g⟩ := w9
  obtain ⟨hk0, hk1, hg, hP, hD, hS, hl⟩ := hI
  have hk0 : 0 ≤ k.toInt := hk0
  have hk1 : k.toInt ≤ 6 := hk1
  have hg : ∀ c : Int32, (∀ j, f j = c) → ∀ j, g j = c := hg
  have hP : va_P D vwCl [(ar, .inl (cy 1, 30, .inl g))] H := hP
  have hD : va_D A [(ar, .inl (cy 1, 30, .inl g))] := hD
  have hl : lv_has ls 5 [(4, .int k), (0, .ref ar), (1, .int 6), (2, .int a), (3, .int b)] := hl
  refine lv_iload hx hb dX10_copyRow_3 (lv_at hl 0 rfl) ?_
  refine lv_iload_n hx hb dX10_copyRow_5 rfl (lv_at hl 2 rfl) ?_
  refine lv_icmp_ge (tgt := 31) hx hb dX10_copyRow_6 (by decide) (fun c_1 => ?_) (fun c_1 => ?_)
  · skip
    have tc_1 : 6 ≤ k.toInt := (fa_le _ _).mp c_1
    exact ret_v hx hb hr hlocks ⟨⟨hS.1, hS.2.1⟩, ((fun _ => 0), (fun k => match k with | 0 => g | _ => (fun _ => 0)), (fun _ => (fun _ => 0)), (fun _ => 0)), ⟨rfl, hg⟩, hP.sub [0] rfl, hD.sub [0] (by decide) rfl⟩ hS.2.2 (Nat.le_of_ble_eq_true rfl) (Nat.le_of_ble_eq_true rfl) dX10_copyRow_31
  · skip
    have tc_1 : ¬ 6 ≤ k.toInt := fun h => c_1 ((fa_le _ _).mpr h)
    refine lv_aload_n hx hb dX10_copyRow_9 rfl (lv_at hl 1 rfl) ?_
    refine lv_iload_n hx hb dX10_copyRow_10 rfl (lv_at hl 2 rfl) ?_
    refine lv_iload_n hx hb dX10_copyRow_11 rfl (lv_at hl 4 rfl) ?_
    refine lv_imul hx hb dX10_copyRow_12 ?_
    refine lv_topi (fun z_2 ez_2 => ?_)
    have tz_2 : z_2.toInt = 6 * b.toInt := mul_t ez_2 (show -2147483648 ≤ 6 * b.toInt by omega) (show 6 * b.toInt < 2147483648 by omega)
    refine lv_iload hx hb dX10_copyRow_13 (lv_at hl 0 rfl) ?_
    refine lv_iadd hx hb dX10_copyRow_15 ?_
    refine lv_topi (fun z_3 ez_3 => ?_)
    have tz_3 : z_3.toInt = z_2.toInt + k.toInt := add_t ez_3 (show -2147483648 ≤ z_2.toInt + k.toInt by omega) (show z_2.toInt + k.toInt < 2147483648 by omega)
    refine lv_aload_n hx hb dX10_copyRow_16 rfl (lv_at hl 1 rfl) ?_
    refine lv_iload_n hx hb dX10_copyRow_17 rfl (lv_at hl 2 rfl) ?_
    refine lv_iload_n hx hb dX10_copyRow_18 rfl (lv_at hl 3 rfl) ?_
    refine lv_imul hx hb dX10_copyRow_19 ?_
    refine lv_topi (fun z_4 ez_4 => ?_)
    have tz_4 : z_4.toInt = 6 * a.toInt := mul_t ez_4 (show -2147483648 ≤ 6 * a.toInt by omega) (show 6 * a.toInt < 2147483648 by omega)
    refine lv_iload hx hb dX10_copyRow_20 (lv_at hl 0 rfl) ?_
    refine lv_iadd hx hb dX10_copyRow_22 ?_
    refine lv_topi (fun z_5 ez_5 => ?_)
    have tz_5 : z_5.toInt = z_4.toInt + k.toInt := add_t ez_5 (show -2147483648 ≤ z_4.toInt + k.toInt by omega) (show z_4.toInt + k.toInt < 2147483648 by omega)
    refine va_iald hx hb hK.1 hP 0 1 rfl rfl (i := z_5) (vp_in_iff.mpr ⟨by omega, by omega⟩) dX10_copyRow_23 ?_
    refine lv_topi (fun z_6 ez_6 => ?_)
    refine va_iast hx hb hK.1 hP hD hS 0 1 rfl rfl (i := z_3) (vp_in_iff.mpr ⟨by omega, by omega⟩) dX10_copyRow_24 (fun H locs hP hD hS => ?_)
    have hg2 : ∀ c : Int32, (∀ j, f j = c) → ∀ j, (upd g (z_3).toNatClampNeg z_6) j = c := fun c h j => by unfold upd; split; exact ez_6.trans (hg c h _); exact hg c h j
    have hP : va_P D vwCl [(ar, .inl (cy 1, 30, .inl (upd g (z_3).toNatClampNeg z_6)))] H := hP
    have hD : va_D A [(ar, .inl (cy 1, 30, .inl (upd g (z_3).toNatClampNeg z_6)))] := hD
    obtain ⟨z_8, ez_8⟩ : ∃ y : Int32, y = k + 1 := ⟨_, rfl⟩
    have tz_8 : z_8.toInt = k.toInt + 1 := add_t ez_8 (show -2147483648 ≤ k.toInt + 1 by omega) (show k.toInt + 1 < 2147483648 by omega)
    refine lv_iinc (v := z_8) (lv' := [(4, .int z_8), (0, .ref ar), (1, .int 6), (2, .int a), (3, .int b)]) hx hb dX10_copyRow_25 hl (k := 0) rfl (by rw [ez_8]; rfl) (by decide) rfl (fun ls hl => ?_)
    refine lv_goto (tgt := 3) hx hb dX10_copyRow_28 (by decide) ?_
    exact ih (z_8, (upd g (z_3).toNatClampNeg z_6)) _ _ _ (by show (6 - z_8.toInt).toNat < (6 - k.toInt).toNat; omega) ⟨by show 0 ≤ z_8.toInt; omega, by show z_8.toInt ≤ 6; omega, hg2, hP, hD, hS, lv_sub hl [0, 1, 2, 3, 4] rfl⟩
