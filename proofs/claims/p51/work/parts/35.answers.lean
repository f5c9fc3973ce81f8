set_option maxHeartbeats 4000000 in
set_option maxRecDepth 100000 in
theorem t_X9_back2 (l : Launch) (D : va_G) (cy : Nat → ClassId) (base : Nat) (τ : Nat → Nat) (G : Gh) (a : Nat) (h_a : τ a = 1) (v0 : Int32) (im : Nat) (h_im : τ im = 24) (e_im : G.2.2.1 a 8 = some im) : MM l yX9_back cX9_back 3 (some .int) 0 0 0 D cy [.ref a, .int v0] (PT D cy base τ G) (QT D cy base τ G [1001] (fun v g => ∃ r : Int32, v = some (.int r) ∧ (((r = -2 ∧ (v0.toInt < 0 ∨ 2 < v0.toInt)) ∨ (r = -6 ∧ 0 ≤ v0.toInt ∧ v0.toInt ≤ 2 ∧ G.2.2.1 im v0.toNatClampNeg = none) ∨ (r = 0 ∧ 0 ≤ v0.toInt ∧ v0.toInt ≤ 2 ∧ ∃ q : Nat, G.2.2.1 im v0.toNatClampNeg = some q))))) (RA base) := by
  refine MM.of (by decide) (Nat.le_of_ble_eq_true rfl) ?_
  intro p e s m below meth c C hPT ls hl
  obtain ⟨hx, hb, hr, hml, hown, hts, hlocks, hK, hnm⟩ := C
  obtain ⟨hZ, hT⟩ := hPT
  have hS : va_S (RA base) s.heap s.heap [] := va_S.rf
  have hF : Fr τ [1001] G G := Fr.rf
  have hl : lv_has ls 3 [(0, .ref a), (1, .int v0)] := hl
  refine lv_iload_n hx hb dX9_back_0 rfl (lv_at hl 1 rfl) ?_
  refine lv_if_lt (tgt := 9) hx hb dX9_back_1 (by decide) (fun c_1 => ?_) (fun c_1 => ?_)
  · skip
    have tc_1 : v0.toInt < 0 := (fa_lt _ _).mp c_1
    refine lv_bipush (v := (-2)) hx hb dX9_back_9 (by decide) ?_
    exact ret_i hx hb hr hlocks ⟨⟨hS.1, hS.2.1⟩, G, hF, ⟨_, rfl, (Or.inl ⟨rfl, by omega⟩)⟩, hT⟩ hS.2.2 (Nat.le_of_ble_eq_true rfl) (Nat.le_of_ble_eq_true rfl) dX9_back_11
  · skip
    have tc_1 : ¬ v0.toInt < 0 := fun h => c_1 ((fa_lt _ _).mpr h)
    refine lv_iload_n hx hb dX9_back_4 rfl (lv_at hl 1 rfl) ?_
    refine lv_iconst (v := 3) hx hb dX9_back_5 (by decide) ?_
    refine lv_icmp_lt (tgt := 12) hx hb dX9_back_6 (by decide) (fun c_2 => ?_) (fun c_2 => ?_)
    · skip
      have tc_2 : v0.toInt < 3 := (fa_lt _ _).mp c_2
      refine lv_aload_n hx hb dX9_back_12 rfl (lv_at hl 0 rfl) ?_
      refine t_getr cf_1 hx hb hts hown hK hT h_a (k := 8) (P := fun q => τ q = 24) rfl (fun _ h9 => h9) fl_X9_60 (fun _ h9 => h9) dX9_back_13 (fun q_3 eq_3 hq_3 => ?_)
      have w_4 : im = q_3 := Option.some.inj (e_im.symm.trans eq_3)
      subst w_4
      refine lv_iload_n hx hb dX9_back_16 rfl (lv_at hl 1 rfl) ?_
      refine t_aald5 (n := 3) (i := v0) (P := fun q => τ q = 10) rfl (by decide) hx hb hK hT h_im (hT.len h_im (by decide)) ⟨by omega, by omega⟩ (fun _ _ h9 => h9) dX9_back_17 (fun eq_5 => ?_) (fun q_5 eq_5 hq_5 => ?_)
      · skip
        refine lv_astore_nN (lv' := [(2, .null), (0, .ref a), (1, .int v0)]) hx hb dX9_back_18 rfl hl (by decide) rfl (fun ls hl => ?_)
        refine lv_aload_nN hx hb dX9_back_19 rfl (lv_at hl 0 rfl) ?_
        refine lv_ifnonnullN hx hb dX9_back_20 ?_
        refine lv_bipush (v := (-6)) hx hb dX9_back_23 (by decide) ?_
        exact ret_i hx hb hr hlocks ⟨⟨hS.1, hS.2.1⟩, G, hF, ⟨_, rfl, (Or.inr (Or.inl ⟨rfl, by omega, by omega, eq_5⟩))⟩, hT⟩ hS.2.2 (Nat.le_of_ble_eq_true rfl) (Nat.le_of_ble_eq_true rfl) dX9_back_25
      · skip
        refine lv_astore_n (lv' := [(2, .ref q_5), (0, .ref a), (1, .int v0)]) hx hb dX9_back_18 rfl hl (by decide) rfl (fun ls hl => ?_)
        refine lv_aload_n hx hb dX9_back_19 rfl (lv_at hl 0 rfl) ?_
        refine lv_ifnonnull (tgt := 26) hx hb dX9_back_20 (by decide) ?_
        refine lv_aload_n hx hb dX9_back_26 rfl (lv_at hl 1 rfl) ?_
        refine lv_aload_n hx hb dX9_back_27 rfl (lv_at hl 0 rfl) ?_
        refine t_getr cf_10 hx hb hts hown hK hT hq_5 (k := 0) (P := fun q => τ q = 7) rfl (fun _ h9 => h9) fl_X9_362 (fun _ h9 => h9) dX9_back_28 (fun q_6 eq_6 hq_6 => ?_)
        refine t_putr cf_1 hx hb hts hown hK hT hS h_a (k := 10) rfl ⟨_, rfl, hq_6⟩ fl_X9_67 (fun _ h9 => h9) rfl rfl rfl dX9_back_31 (fun H locs G_7 eG_7 hT hS => ?_)
        have hF := hF.wR eG_7 h_a rfl
        refine lv_aload_n hx hb dX9_back_34 rfl (lv_at hl 1 rfl) ?_
        refine lv_aload_n hx hb dX9_back_35 rfl (lv_at hl 0 rfl) ?_
        refine t_getn cf_10 hx hb hts hown hK hT hq_5 (k := 1) (P := fun q => τ q = 25) rfl (fun _ h9 => h9) fl_X9_363 (fun _ h9 => h9) dX9_back_36 (fun eq_8 => ?_) (fun q_8 eq_8 hq_8 => ?_)
        · skip
          have eq_8 := (hF.r hq_5 (by decide) rfl _).symm.trans eq_8
          refine t_putn cf_1 hx hb hts hown hK hT hS h_a (k := 11) rfl (Or.inl rfl) fl_X9_93 (fun _ h9 => h9) rfl rfl rfl dX9_back_39 (fun H locs G_9 eG_9 hT hS => ?_)
          have hF := hF.wR eG_9 h_a rfl
          refine lv_iconst (v := 0) hx hb dX9_back_42 (by decide) ?_
          exact ret_i hx hb hr hlocks ⟨⟨hS.1, hS.2.1⟩, G_9, hF, ⟨_, rfl, (Or.inr (Or.inr ⟨rfl, by omega, by omega, _, eq_5⟩))⟩, hT⟩ hS.2.2 (Nat.le_of_ble_eq_true rfl) (Nat.le_of_ble_eq_true rfl) dX9_back_43
        · skip
          have eq_8 := (hF.r hq_5 (by decide) rfl _).symm.trans eq_8
          refine t_putr cf_1 hx hb hts hown hK hT hS h_a (k := 11) rfl (Or.inr ⟨_, rfl, hq_8⟩) fl_X9_93 (fun _ h9 => h9) rfl rfl rfl dX9_back_39 (fun H locs G_10 eG_10 hT hS => ?_)
          have hF := hF.wR eG_10 h_a rfl
          refine lv_iconst (v := 0) hx hb dX9_back_42 (by decide) ?_
          exact ret_i hx hb hr hlocks ⟨⟨hS.1, hS.2.1⟩, G_10, hF, ⟨_, rfl, (Or.inr (Or.inr ⟨rfl, by omega, by omega, _, eq_5⟩))⟩, hT⟩ hS.2.2 (Nat.le_of_ble_eq_true rfl) (Nat.le_of_ble_eq_true rfl) dX9_back_43
    · skip
      have tc_2 : ¬ v0.toInt < 3 := fun h => c_2 ((fa_lt _ _).mpr h)
      refine lv_bipush (v := (-2)) hx hb dX9_back_9 (by decide) ?_
      exact ret_i hx hb hr hlocks ⟨⟨hS.1, hS.2.1⟩, G, hF, ⟨_, rfl, (Or.inl ⟨rfl, by omega⟩)⟩, hT⟩ hS.2.2 (Nat.le_of_ble_eq_true rfl) (Nat.le_of_ble_eq_true rfl) dX9_back_11
set_option maxHeartbeats 4000000 in
set_option maxRecDepth 100000 in
theorem t_X9_write2 (l : Launch) (D : va_G) (cy : Nat → ClassId) (base : Nat) (τ : Nat → Nat) (G : Gh) (a : Nat) (h_a : τ a = 1) (v0 : Int32) (v1 : Int32) (v2 : Int64) (sl : Nat) (h_sl : τ sl = 23) (e_sl : G.2.2.1 a 7 = some sl) : MM l yX9_write cX9_write 6 (some .int) 1 0 0 D cy [.ref a, .int v0, .int v1, .long v2] (PT D cy base τ G) (QT D cy base τ G [40] (fun v g => ∃ r : Int32, v = some (.int r) ∧ (((r = -2 ∧ (v0.toInt < 0 ∨ 3 < v0.toInt)) ∨ (r = -6 ∧ 0 ≤ v0.toInt ∧ v0.toInt ≤ 3 ∧ G.2.2.1 sl v0.toNatClampNeg = none) ∨ (0 ≤ v0.toInt ∧ v0.toInt ≤ 3 ∧ ∃ q y : Nat, G.2.2.1 sl v0.toNatClampNeg = some q ∧ G.2.2.1 q 1 = some y ∧ ((r = -7 ∧ (v1.toInt < 0 ∨ (G.2.2.2 y : Int) ≤ v1.toInt)) ∨ (r = 0 ∧ 0 ≤ v1.toInt ∧ v1.toInt < G.2.2.2 y))))))) (RA base) := by
  refine MM.of (by decide) (Nat.le_of_ble_eq_true rfl) ?_
  intro p e s m below meth c C hPT ls hl
  obtain ⟨hx, hb, hr, hml, hown, hts, hlocks, hK, hnm⟩ := C
  obtain ⟨hZ, hT⟩ := hPT
  have hS : va_S (RA base) s.heap s.heap [] := va_S.rf
  have hF : Fr τ [40] G G := Fr.rf
  have hl : lv_has ls 6 [(0, .ref a), (1, .int v0), (2, .int v1), (3, .long v2)] := hl
  refine lv_iload_n hx hb dX9_write_0 rfl (lv_at hl 1 rfl) ?_
  refine pu_calli (runS (As := [.int v0]) (rest := []) ⟨hx, hb, hml, hown, hts⟩ (t_X9_isSlot2 l D cy base τ G v0) sS_X9_312 hK ⟨Nat.le_trans hZ hS.1, hT⟩ ⟨Nat.le_of_ble_eq_true rfl, Nat.le_of_ble_eq_true rfl⟩ rfl hl.1 rfl (Nat.le_of_ble_eq_true rfl) dX9_write_1 ⟨Nat.le_of_ble_eq_true rfl, Nat.le_of_ble_eq_true rfl⟩) (fun r_1 hr_1 => ?_)
  have hr_1_c := hr_1
  rcases hr_1_c with hr_1_0 | hr_1_1
  · skip
    obtain ⟨er_1, hr_1_0_f0, hr_1_0_f1⟩ := hr_1_0
    have hr_1_0_f0 : 0 ≤ v0.toInt := hr_1_0_f0
    have hr_1_0_f1 : v0.toInt ≤ 3 := hr_1_0_f1
    subst er_1
    refine W.eq (g2 := F0 m 4 ls [.int 1]) rfl ?_
    refine lv_if_ne (tgt := 10) hx hb dX9_write_4 (by decide) (fun _ => ?_) (fun c_2 => absurd c_2 (by decide))
    refine lv_aload_n hx hb dX9_write_10 rfl (lv_at hl 0 rfl) ?_
    refine t_getr cf_1 hx hb hts hown hK hT h_a (k := 7) (P := fun q => τ q = 23) rfl (fun _ h9 => h9) fl_X9_54 (fun _ h9 => h9) dX9_write_11 (fun q_3 eq_3 hq_3 => ?_)
    have w_4 : sl = q_3 := Option.some.inj (e_sl.symm.trans eq_3)
    subst w_4
    refine lv_iload_n hx hb dX9_write_14 rfl (lv_at hl 1 rfl) ?_
    refine t_aald4 (n := 4) (i := v0) (P := fun q => τ q = 9) rfl (by decide) hx hb hK hT h_sl (hT.len h_sl (by decide)) ⟨by omega, by omega⟩ (fun _ _ h9 => h9) dX9_write_15 (fun eq_5 => ?_) (fun q_5 eq_5 hq_5 => ?_)
    · skip
      refine lv_astoreN (lv' := [(5, .null), (0, .ref a), (1, .int v0), (2, .int v1), (3, .long v2)]) hx hb dX9_write_16 hl (by decide) rfl (fun ls hl => ?_)
      refine lv_aloadN hx hb dX9_write_18 (lv_at hl 0 rfl) ?_
      refine lv_ifnonnullN hx hb dX9_write_20 ?_
      refine lv_bipush (v := (-6)) hx hb dX9_write_23 (by decide) ?_
      exact ret_i hx hb hr hlocks ⟨⟨hS.1, hS.2.1⟩, G, hF, ⟨_, rfl, (Or.inr (Or.inl ⟨rfl, by omega, by omega, eq_5⟩))⟩, hT⟩ hS.2.2 (Nat.le_of_ble_eq_true rfl) (Nat.le_of_ble_eq_true rfl) dX9_write_25
    · skip
      refine lv_astore (lv' := [(5, .ref q_5), (0, .ref a), (1, .int v0), (2, .int v1), (3, .long v2)]) hx hb dX9_write_16 hl (by decide) rfl (fun ls hl => ?_)
      refine lv_aload hx hb dX9_write_18 (lv_at hl 0 rfl) ?_
      refine lv_ifnonnull (tgt := 26) hx hb dX9_write_20 (by decide) ?_
      refine lv_iload_n hx hb dX9_write_26 rfl (lv_at hl 3 rfl) ?_
      refine lv_if_lt (tgt := 40) hx hb dX9_write_27 (by decide) (fun c_6 => ?_) (fun c_6 => ?_)
      · skip
        have tc_6 : v1.toInt < 0 := (fa_lt _ _).mp c_6
        refine lv_bipush (v := (-7)) hx hb dX9_write_40 (by decide) ?_
        obtain ⟨q_7, eq_7, hq_7⟩ := (show ∃ q, G.2.2.1 q_5 1 = some q ∧ τ q = 40 from hT.rgr hq_5 (by decide) 1)
        obtain ⟨n_8, en_8⟩ : ∃ y : Nat, y = G.2.2.2 q_7 := ⟨_, rfl⟩
        have rn_8 : n_8 ≤ 60 := by rw [en_8]; exact hT.len hq_7 (by decide)
        exact ret_i hx hb hr hlocks ⟨⟨hS.1, hS.2.1⟩, G, hF, ⟨_, rfl, (Or.inr (Or.inr ⟨by omega, by omega, q_5, q_7, eq_5, eq_7, (Or.inl ⟨rfl, by omega⟩)⟩))⟩, hT⟩ hS.2.2 (Nat.le_of_ble_eq_true rfl) (Nat.le_of_ble_eq_true rfl) dX9_write_42
      · skip
        have tc_6 : ¬ v1.toInt < 0 := fun h => c_6 ((fa_lt _ _).mpr h)
        refine lv_iload_n hx hb dX9_write_30 rfl (lv_at hl 3 rfl) ?_
        refine lv_aload hx hb dX9_write_31 (lv_at hl 0 rfl) ?_
        refine t_getr cf_9 hx hb hts hown hK hT hq_5 (k := 1) (P := fun q => τ q = 40) rfl (fun _ h9 => h9) fl_X9_315 (fun _ h9 => h9) dX9_write_33 (fun q_9 eq_9 hq_9 => ?_)
        obtain ⟨n_10, en_10⟩ : ∃ y : Nat, y = G.2.2.2 q_9 := ⟨_, rfl⟩
        have rn_10 : n_10 ≤ 60 := by rw [en_10]; exact hT.len hq_9 (by decide)
        refine t_alen (v := Int32.ofNat n_10) rfl (by decide) hx hb hK hT hq_9 rfl (by rw [show _ = n_10 from (en_10.symm)]) dX9_write_36 ?_
        refine lv_topi (fun z_11 ez_11 => ?_)
        have tz_11 : z_11.toInt = n_10 := len_t ez_11 (by omega)
        refine lv_icmp_lt (tgt := 43) hx hb dX9_write_37 (by decide) (fun c_12 => ?_) (fun c_12 => ?_)
        · skip
          have tc_12 : v1.toInt < z_11.toInt := (fa_lt _ _).mp c_12
          refine lv_aload hx hb dX9_write_43 (lv_at hl 0 rfl) ?_
          refine t_getr cf_9 hx hb hts hown hK hT hq_5 (k := 1) (P := fun q => τ q = 40) rfl (fun _ h9 => h9) fl_X9_315 (fun _ h9 => h9) dX9_write_45 (fun q_13 eq_13 hq_13 => ?_)
          have w_14 : q_9 = q_13 := Option.some.inj (eq_9.symm.trans eq_13)
          subst w_14
          refine lv_iload_n hx hb dX9_write_48 rfl (lv_at hl 3 rfl) ?_
          refine lv_aload hx hb dX9_write_49 (lv_at hl 0 rfl) ?_
          refine lv_lload_n hx hb dX9_write_51 rfl (lv_at hl 4 rfl) ?_
          refine pu_calll (runV (As := [.long v2]) (rest := [.int v1, .ref q_9]) ⟨hx, hb, hml, hown, hts⟩ (t_X6_narrowed l D cy base τ G q_5 hq_5 v2) sV_X9_367 hK (t_recv cf_9 hK hT hq_5) ⟨Nat.le_trans hZ hS.1, hT⟩ ⟨Nat.le_of_ble_eq_true rfl, Nat.le_of_ble_eq_true rfl⟩ rfl hl.1 rfl (Nat.le_of_ble_eq_true rfl) dX9_write_52 ⟨Nat.le_of_ble_eq_true rfl, Nat.le_of_ble_eq_true rfl⟩) (fun r_15 hr_15 => ?_)
          refine t_last (n := n_10) (i := v1) (x := r_15) rfl (by decide) hx hb hK hT hS hq_9 (en_10.symm) ⟨by omega, by omega⟩ dX9_write_55 (fun H locs G_16 eG_16 hT hS => ?_)
          have hF := hF.wL eG_16 hq_9 rfl
          refine lv_iconst (v := 0) hx hb dX9_write_56 (by decide) ?_
          exact ret_i hx hb hr hlocks ⟨⟨hS.1, hS.2.1⟩, G_16, hF, ⟨_, rfl, (Or.inr (Or.inr ⟨by omega, by omega, q_5, q_9, eq_5, eq_9, (Or.inr ⟨rfl, by omega, by omega⟩)⟩))⟩, hT⟩ hS.2.2 (Nat.le_of_ble_eq_true rfl) (Nat.le_of_ble_eq_true rfl) dX9_write_57
        · skip
          have tc_12 : ¬ v1.toInt < z_11.toInt := fun h => c_12 ((fa_lt _ _).mpr h)
          refine lv_bipush (v := (-7)) hx hb dX9_write_40 (by decide) ?_
          exact ret_i hx hb hr hlocks ⟨⟨hS.1, hS.2.1⟩, G, hF, ⟨_, rfl, (Or.inr (Or.inr ⟨by omega, by omega, q_5, q_9, eq_5, eq_9, (Or.inl ⟨rfl, by omega⟩)⟩))⟩, hT⟩ hS.2.2 (Nat.le_of_ble_eq_true rfl) (Nat.le_of_ble_eq_true rfl) dX9_write_42
  · skip
    obtain ⟨er_1, hr_1_1_f0⟩ := hr_1_1
    have hr_1_1_f0 : (v0.toInt < 0 ∨ 3 < v0.toInt) := hr_1_1_f0
    subst er_1
    refine W.eq (g2 := F0 m 4 ls [.int 0]) rfl ?_
    refine lv_if_ne (tgt := 10) hx hb dX9_write_4 (by decide) (fun c_17 => absurd rfl c_17) (fun _ => ?_)
    refine lv_bipush (v := (-2)) hx hb dX9_write_7 (by decide) ?_
    exact ret_i hx hb hr hlocks ⟨⟨hS.1, hS.2.1⟩, G, hF, ⟨_, rfl, (Or.inl ⟨rfl, by omega⟩)⟩, hT⟩ hS.2.2 (Nat.le_of_ble_eq_true rfl) (Nat.le_of_ble_eq_true rfl) dX9_write_9
set_option maxHeartbeats 4000000 in
set_option maxRecDepth 100000 in
theorem t_X6_has2 (l : Launch) (D : va_G) (cy : Nat → ClassId) (base : Nat) (τ : Nat → Nat) (G : Gh) (a : Nat) (h_a : τ a = 9) (v : Int32) (w : Int32) : MM l yX6_has cX6_has 3 (some .boolean) 0 0 0 D cy [.ref a, .int v, .int w] (PT D cy base τ G) (PuI (fun r => ((r = 1 ∧ 0 ≤ v.toInt ∧ 0 ≤ w.toInt ∧ ∀ q : Nat, G.2.2.1 a 1 = some q → v.toInt + w.toInt ≤ G.2.2.2 q) ∨ (r = 0 ∧ ∀ q : Nat, G.2.2.1 a 1 = some q → v.toInt < 0 ∨ w.toInt < 0 ∨ (G.2.2.2 q : Int) < v.toInt + w.toInt)))) noF := by
  refine MM.of (by decide) (Nat.le_of_ble_eq_true rfl) ?_
  intro p e s m below meth c C hPT ls hl
  obtain ⟨hx, hb, hr, hml, hown, hts, hlocks, hK, hnm⟩ := C
  obtain ⟨hZ, hT⟩ := hPT
  have hS : va_S (RA base) s.heap s.heap [] := va_S.rf
  have hl : lv_has ls 3 [(0, .ref a), (1, .int v), (2, .int w)] := hl
  obtain ⟨q0, eq0, hq0⟩ := (show ∃ q, G.2.2.1 a 1 = some q ∧ τ q = 40 from hT.rgr h_a (by decide) 1)
  obtain ⟨n_1, en_1⟩ : ∃ y : Nat, y = G.2.2.2 q0 := ⟨_, rfl⟩
  have rn_1 : n_1 ≤ 60 := by rw [en_1]; exact hT.len hq0 (by decide)
  refine lv_iload_n hx hb dX6_has_0 rfl (lv_at hl 1 rfl) ?_
  refine lv_if_lt (tgt := 32) hx hb dX6_has_1 (by decide) (fun c_2 => ?_) (fun c_2 => ?_)
  · skip
    have tc_2 : v.toInt < 0 := (fa_lt _ _).mp c_2
    refine lv_iconst (v := 0) hx hb dX6_has_32 (by decide) ?_
    exact ret_z (ty := .boolean) hx hb hr rfl hlocks ⟨rfl, _, rfl, (Or.inr ⟨rfl, fun q hq => by have e9 : q = q0 := Option.some.inj (hq.symm.trans eq0); subst e9; omega⟩)⟩ (fun _ h => absurd h List.not_mem_nil) (Nat.le_refl _) (Nat.le_refl _) dX6_has_33
  · skip
    have tc_2 : ¬ v.toInt < 0 := fun h => c_2 ((fa_lt _ _).mpr h)
    refine lv_iload_n hx hb dX6_has_4 rfl (lv_at hl 2 rfl) ?_
    refine lv_if_lt (tgt := 32) hx hb dX6_has_5 (by decide) (fun c_3 => ?_) (fun c_3 => ?_)
    · skip
      have tc_3 : w.toInt < 0 := (fa_lt _ _).mp c_3
      refine lv_iconst (v := 0) hx hb dX6_has_32 (by decide) ?_
      exact ret_z (ty := .boolean) hx hb hr rfl hlocks ⟨rfl, _, rfl, (Or.inr ⟨rfl, fun q hq => by have e9 : q = q0 := Option.some.inj (hq.symm.trans eq0); subst e9; omega⟩)⟩ (fun _ h => absurd h List.not_mem_nil) (Nat.le_refl _) (Nat.le_refl _) dX6_has_33
    · skip
      have tc_3 : ¬ w.toInt < 0 := fun h => c_3 ((fa_lt _ _).mpr h)
      refine lv_iload_n hx hb dX6_has_8 rfl (lv_at hl 1 rfl) ?_
      refine lv_aload_n hx hb dX6_has_9 rfl (lv_at hl 0 rfl) ?_
      refine t_getr cf_9 hx hb hts hown hK hT h_a (k := 1) (P := fun q => τ q = 40) rfl (fun _ h9 => h9) fl_X6_19 (fun _ h9 => h9) dX6_has_10 (fun q_4 eq_4 hq_4 => ?_)
      have w_5 : q0 = q_4 := Option.some.inj (eq0.symm.trans eq_4)
      subst w_5
      refine t_alen (v := Int32.ofNat n_1) rfl (by decide) hx hb hK hT hq0 rfl (by rw [show _ = n_1 from (en_1.symm)]) dX6_has_13 ?_
      refine lv_topi (fun z_6 ez_6 => ?_)
      have tz_6 : z_6.toInt = n_1 := len_t ez_6 (by omega)
      refine lv_icmp_gt (tgt := 32) hx hb dX6_has_14 (by decide) (fun c_7 => ?_) (fun c_7 => ?_)
      · skip
        have tc_7 : z_6.toInt < v.toInt := (fa_lt _ _).mp c_7
        have mc_7 : v.toInt ≤ 2147483647 := max_t v
        refine lv_iconst (v := 0) hx hb dX6_has_32 (by decide) ?_
        exact ret_z (ty := .boolean) hx hb hr rfl hlocks ⟨rfl, _, rfl, (Or.inr ⟨rfl, fun q hq => by have e9 : q = q0 := Option.some.inj (hq.symm.trans eq0); subst e9; omega⟩)⟩ (fun _ h => absurd h List.not_mem_nil) (Nat.le_refl _) (Nat.le_refl _) dX6_has_33
      · skip
        have tc_7 : ¬ z_6.toInt < v.toInt := fun h => c_7 ((fa_lt _ _).mpr h)
        refine lv_iload_n hx hb dX6_has_17 rfl (lv_at hl 2 rfl) ?_
        refine lv_aload_n hx hb dX6_has_18 rfl (lv_at hl 0 rfl) ?_
        refine t_getr cf_9 hx hb hts hown hK hT h_a (k := 1) (P := fun q => τ q = 40) rfl (fun _ h9 => h9) fl_X6_19 (fun _ h9 => h9) dX6_has_19 (fun q_8 eq_8 hq_8 => ?_)
        have w_9 : q0 = q_8 := Option.some.inj (eq0.symm.trans eq_8)
        subst w_9
        refine t_alen (v := Int32.ofNat n_1) rfl (by decide) hx hb hK hT hq0 rfl (by rw [show _ = n_1 from (en_1.symm)]) dX6_has_22 ?_
        refine lv_topi (fun z_10 ez_10 => ?_)
        have tz_10 : z_10.toInt = n_1 := len_t ez_10 (by omega)
        refine lv_iload_n hx hb dX6_has_23 rfl (lv_at hl 1 rfl) ?_
        refine lv_isub hx hb dX6_has_24 ?_
        refine lv_topi (fun z_11 ez_11 => ?_)
        have tz_11 : z_11.toInt = z_10.toInt - v.toInt := sub_t ez_11 (show -2147483648 ≤ z_10.toInt - v.toInt by omega) (show z_10.toInt - v.toInt < 2147483648 by omega)
        refine lv_icmp_gt (tgt := 32) hx hb dX6_has_25 (by decide) (fun c_12 => ?_) (fun c_12 => ?_)
        · skip
          have tc_12 : z_11.toInt < w.toInt := (fa_lt _ _).mp c_12
          have mc_12 : w.toInt ≤ 2147483647 := max_t w
          refine lv_iconst (v := 0) hx hb dX6_has_32 (by decide) ?_
          exact ret_z (ty := .boolean) hx hb hr rfl hlocks ⟨rfl, _, rfl, (Or.inr ⟨rfl, fun q hq => by have e9 : q = q0 := Option.some.inj (hq.symm.trans eq0); subst e9; omega⟩)⟩ (fun _ h => absurd h List.not_mem_nil) (Nat.le_refl _) (Nat.le_refl _) dX6_has_33
        · skip
          have tc_12 : ¬ z_11.toInt < w.toInt := fun h => c_12 ((fa_lt _ _).mpr h)
          refine lv_iconst (v := 1) hx hb dX6_has_28 (by decide) ?_
          refine lv_goto (tgt := 33) hx hb dX6_has_29 (by decide) ?_
          exact ret_z (ty := .boolean) hx hb hr rfl hlocks ⟨rfl, _, rfl, (Or.inl ⟨rfl, (by omega), (by omega), fun q hq => by have e9 : q = q0 := Option.some.inj (hq.symm.trans eq0); subst e9; omega⟩)⟩ (fun _ h => absurd h List.not_mem_nil) (Nat.le_refl _) (Nat.le_refl _) dX6_has_33
set_option maxHeartbeats 4000000 in
set_option maxRecDepth 100000 in
theorem t_X9_paste2 (l : Launch) (D : va_G) (cy : Nat → ClassId) (base : Nat) (τ : Nat → Nat) (G : Gh) (a : Nat) (h_a : τ a = 1) (v0 : Int32) (v1 : Int32) (v2 : Int32) (v3 : Int32) (v4 : Int32) (sl : Nat) (h_sl : τ sl = 23) (e_sl : G.2.2.1 a 7 = some sl) : MM l yX9_paste cX9_paste 8 (some .int) 1 0 0 D cy [.ref a, .int v0, .int v1, .int v2, .int v3, .int v4] (PT D cy base τ G) (QT D cy base τ G [40] (fun v g => ∃ r : Int32, v = some (.int r) ∧ (((r = -2 ∧ ((v0.toInt < 0 ∨ 3 < v0.toInt) ∨ (v2.toInt < 0 ∨ 3 < v2.toInt))) ∨ (r = -6 ∧ 0 ≤ v0.toInt ∧ v0.toInt ≤ 3 ∧ 0 ≤ v2.toInt ∧ v2.toInt ≤ 3 ∧ (G.2.2.1 sl v0.toNatClampNeg = none ∨ G.2.2.1 sl v2.toNatClampNeg = none)) ∨ (0 ≤ v0.toInt ∧ v0.toInt ≤ 3 ∧ 0 ≤ v2.toInt ∧ v2.toInt ≤ 3 ∧ ∃ q1 q2 y1 y2 : Nat, G.2.2.1 sl v0.toNatClampNeg = some q1 ∧ G.2.2.1 sl v2.toNatClampNeg = some q2 ∧ G.2.2.1 q1 1 = some y1 ∧ G.2.2.1 q2 1 = some y2 ∧ ((r = -8 ∧ G.1 q1 0 ≠ G.1 q2 0) ∨ (r = -7 ∧ G.1 q1 0 = G.1 q2 0 ∧ ¬ (0 ≤ v1.toInt ∧ 0 ≤ v3.toInt ∧ 0 ≤ v4.toInt ∧ v1.toInt + v4.toInt ≤ G.2.2.2 y1 ∧ v3.toInt + v4.toInt ≤ G.2.2.2 y2)) ∨ (r = 0 ∧ G.1 q1 0 = G.1 q2 0 ∧ (0 ≤ v1.toInt ∧ 0 ≤ v3.toInt ∧ 0 ≤ v4.toInt ∧ v1.toInt + v4.toInt ≤ G.2.2.2 y1 ∧ v3.toInt + v4.toInt ≤ G.2.2.2 y2)))))))) (RA base) := by
  refine MM.of (by decide) (Nat.le_of_ble_eq_true rfl) ?_
  intro p e s m below meth c C hPT ls hl
  obtain ⟨hx, hb, hr, hml, hown, hts, hlocks, hK, hnm⟩ := C
  obtain ⟨hZ, hT⟩ := hPT
  have hS : va_S (RA base) s.heap s.heap [] := va_S.rf
  have hF : Fr τ [40] G G := Fr.rf
  have hl : lv_has ls 8 [(0, .ref a), (1, .int v0), (2, .int v1), (3, .int v2), (4, .int v3), (5, .int v4)] := hl
  refine lv_iload_n hx hb dX9_paste_0 rfl (lv_at hl 1 rfl) ?_
  refine pu_calli (runS (As := [.int v0]) (rest := []) ⟨hx, hb, hml, hown, hts⟩ (t_X9_isSlot2 l D cy base τ G v0) sS_X9_312 hK ⟨Nat.le_trans hZ hS.1, hT⟩ ⟨Nat.le_of_ble_eq_true rfl, Nat.le_of_ble_eq_true rfl⟩ rfl hl.1 rfl (Nat.le_of_ble_eq_true rfl) dX9_paste_1 ⟨Nat.le_of_ble_eq_true rfl, Nat.le_of_ble_eq_true rfl⟩) (fun r_1 hr_1 => ?_)
  have hr_1_c := hr_1
  rcases hr_1_c with hr_1_0 | hr_1_1
  · skip
    obtain ⟨er_1, hr_1_0_f0, hr_1_0_f1⟩ := hr_1_0
    have hr_1_0_f0 : 0 ≤ v0.toInt := hr_1_0_f0
    have hr_1_0_f1 : v0.toInt ≤ 3 := hr_1_0_f1
    subst er_1
    refine W.eq (g2 := F0 m 4 ls [.int 1]) rfl ?_
    refine lv_if_eq (tgt := 14) hx hb dX9_paste_4 (by decide) (fun c_2 => absurd c_2 (by decide)) (fun _ => ?_)
    refine lv_iload_n hx hb dX9_paste_7 rfl (lv_at hl 3 rfl) ?_
    refine pu_calli (runS (As := [.int v2]) (rest := []) ⟨hx, hb, hml, hown, hts⟩ (t_X9_isSlot2 l D cy base τ G v2) sS_X9_312 hK ⟨Nat.le_trans hZ hS.1, hT⟩ ⟨Nat.le_of_ble_eq_true rfl, Nat.le_of_ble_eq_true rfl⟩ rfl hl.1 rfl (Nat.le_of_ble_eq_true rfl) dX9_paste_8 ⟨Nat.le_of_ble_eq_true rfl, Nat.le_of_ble_eq_true rfl⟩) (fun r_3 hr_3 => ?_)
    have hr_3_c := hr_3
    rcases hr_3_c with hr_3_0 | hr_3_1
    · skip
      obtain ⟨er_3, hr_3_0_f0, hr_3_0_f1⟩ := hr_3_0
      have hr_3_0_f0 : 0 ≤ v2.toInt := hr_3_0_f0
      have hr_3_0_f1 : v2.toInt ≤ 3 := hr_3_0_f1
      subst er_3
      refine W.eq (g2 := F0 m 11 ls [.int 1]) rfl ?_
      refine lv_if_ne (tgt := 17) hx hb dX9_paste_11 (by decide) (fun _ => ?_) (fun c_4 => absurd c_4 (by decide))
      refine lv_aload_n hx hb dX9_paste_17 rfl (lv_at hl 0 rfl) ?_
      refine t_getr cf_1 hx hb hts hown hK hT h_a (k := 7) (P := fun q => τ q = 23) rfl (fun _ h9 => h9) fl_X9_54 (fun _ h9 => h9) dX9_paste_18 (fun q_5 eq_5 hq_5 => ?_)
      have w_6 : sl = q_5 := Option.some.inj (e_sl.symm.trans eq_5)
      subst w_6
      refine lv_iload_n hx hb dX9_paste_21 rfl (lv_at hl 1 rfl) ?_
      refine t_aald4 (n := 4) (i := v0) (P := fun q => τ q = 9) rfl (by decide) hx hb hK hT h_sl (hT.len h_sl (by decide)) ⟨by omega, by omega⟩ (fun _ _ h9 => h9) dX9_paste_22 (fun eq_7 => ?_) (fun q_7 eq_7 hq_7 => ?_)
      · skip
        refine lv_astoreN (lv' := [(6, .null), (0, .ref a), (1, .int v0), (2, .int v1), (3, .int v2), (4, .int v3), (5, .int v4)]) hx hb dX9_paste_23 hl (by decide) rfl (fun ls hl => ?_)
        refine lv_aload_n hx hb dX9_paste_25 rfl (lv_at hl 1 rfl) ?_
        refine t_getr cf_1 hx hb hts hown hK hT h_a (k := 7) (P := fun q => τ q = 23) rfl (fun _ h9 => h9) fl_X9_54 (fun _ h9 => h9) dX9_paste_26 (fun q_8 eq_8 hq_8 => ?_)
        have w_9 : sl = q_8 := Option.some.inj (e_sl.symm.trans eq_8)
        subst w_9
        refine lv_iload_n hx hb dX9_paste_29 rfl (lv_at hl 4 rfl) ?_
        refine t_aald4 (n := 4) (i := v2) (P := fun q => τ q = 9) rfl (by decide) hx hb hK hT h_sl (hT.len h_sl (by decide)) ⟨by omega, by omega⟩ (fun _ _ h9 => h9) dX9_paste_30 (fun eq_10 => ?_) (fun q_10 eq_10 hq_10 => ?_)
        · skip
          refine lv_astoreN (lv' := [(7, .null), (6, .null), (0, .ref a), (1, .int v0), (2, .int v1), (3, .int v2), (4, .int v3), (5, .int v4)]) hx hb dX9_paste_31 hl (by decide) rfl (fun ls hl => ?_)
          refine lv_aloadN hx hb dX9_paste_33 (lv_at hl 1 rfl) ?_
          refine lv_ifnullN (tgt := 43) hx hb dX9_paste_35 (by decide) ?_
          refine lv_bipush (v := (-6)) hx hb dX9_paste_43 (by decide) ?_
          exact ret_i hx hb hr hlocks ⟨⟨hS.1, hS.2.1⟩, G, hF, ⟨_, rfl, (Or.inr (Or.inl ⟨rfl, by omega, by omega, by omega, by omega, (Or.inl eq_7)⟩))⟩, hT⟩ hS.2.2 (Nat.le_of_ble_eq_true rfl) (Nat.le_of_ble_eq_true rfl) dX9_paste_45
        · skip
          refine lv_astore (lv' := [(7, .ref q_10), (6, .null), (0, .ref a), (1, .int v0), (2, .int v1), (3, .int v2), (4, .int v3), (5, .int v4)]) hx hb dX9_paste_31 hl (by decide) rfl (fun ls hl => ?_)
          refine lv_aloadN hx hb dX9_paste_33 (lv_at hl 1 rfl) ?_
          refine lv_ifnullN (tgt := 43) hx hb dX9_paste_35 (by decide) ?_
          refine lv_bipush (v := (-6)) hx hb dX9_paste_43 (by decide) ?_
          exact ret_i hx hb hr hlocks ⟨⟨hS.1, hS.2.1⟩, G, hF, ⟨_, rfl, (Or.inr (Or.inl ⟨rfl, by omega, by omega, by omega, by omega, (Or.inl eq_7)⟩))⟩, hT⟩ hS.2.2 (Nat.le_of_ble_eq_true rfl) (Nat.le_of_ble_eq_true rfl) dX9_paste_45
      · skip
        refine lv_astore (lv' := [(6, .ref q_7), (0, .ref a), (1, .int v0), (2, .int v1), (3, .int v2), (4, .int v3), (5, .int v4)]) hx hb dX9_paste_23 hl (by decide) rfl (fun ls hl => ?_)
        refine lv_aload_n hx hb dX9_paste_25 rfl (lv_at hl 1 rfl) ?_
        refine t_getr cf_1 hx hb hts hown hK hT h_a (k := 7) (P := fun q => τ q = 23) rfl (fun _ h9 => h9) fl_X9_54 (fun _ h9 => h9) dX9_paste_26 (fun q_11 eq_11 hq_11 => ?_)
        have w_12 : sl = q_11 := Option.some.inj (e_sl.symm.trans eq_11)
        subst w_12
        refine lv_iload_n hx hb dX9_paste_29 rfl (lv_at hl 4 rfl) ?_
        refine t_aald4 (n := 4) (i := v2) (P := fun q => τ q = 9) rfl (by decide) hx hb hK hT h_sl (hT.len h_sl (by decide)) ⟨by omega, by omega⟩ (fun _ _ h9 => h9) dX9_paste_30 (fun eq_13 => ?_) (fun q_13 eq_13 hq_13 => ?_)
        · skip
          refine lv_astoreN (lv' := [(7, .null), (6, .ref q_7), (0, .ref a), (1, .int v0), (2, .int v1), (3, .int v2), (4, .int v3), (5, .int v4)]) hx hb dX9_paste_31 hl (by decide) rfl (fun ls hl => ?_)
          refine lv_aload hx hb dX9_paste_33 (lv_at hl 1 rfl) ?_
          refine lv_ifnull hx hb dX9_paste_35 ?_
          refine lv_aloadN hx hb dX9_paste_38 (lv_at hl 0 rfl) ?_
          refine lv_ifnonnullN hx hb dX9_paste_40 ?_
          refine lv_bipush (v := (-6)) hx hb dX9_paste_43 (by decide) ?_
          exact ret_i hx hb hr hlocks ⟨⟨hS.1, hS.2.1⟩, G, hF, ⟨_, rfl, (Or.inr (Or.inl ⟨rfl, by omega, by omega, by omega, by omega, (Or.inr eq_13)⟩))⟩, hT⟩ hS.2.2 (Nat.le_of_ble_eq_true rfl) (Nat.le_of_ble_eq_true rfl) dX9_paste_45
        · skip
          refine lv_astore (lv' := [(7, .ref q_13), (6, .ref q_7), (0, .ref a), (1, .int v0), (2, .int v1), (3, .int v2), (4, .int v3), (5, .int v4)]) hx hb dX9_paste_31 hl (by decide) rfl (fun ls hl => ?_)
          refine lv_aload hx hb dX9_paste_33 (lv_at hl 1 rfl) ?_
          refine lv_ifnull hx hb dX9_paste_35 ?_
          refine lv_aload hx hb dX9_paste_38 (lv_at hl 0 rfl) ?_
          refine lv_ifnonnull (tgt := 46) hx hb dX9_paste_40 (by decide) ?_
          refine lv_aload hx hb dX9_paste_46 (lv_at hl 1 rfl) ?_
          refine t_geti cf_9 hx hb hts hown hK hT hq_7 (k := 0) rfl fl_X9_371 (fun _ h9 => h9) dX9_paste_48 (fun z_14 ez_14 rz_14 => ?_)
          have ez_14 : z_14 = G.1 q_7 0 := ez_14
          refine lv_aload hx hb dX9_paste_51 (lv_at hl 0 rfl) ?_
          refine t_geti cf_9 hx hb hts hown hK hT hq_13 (k := 0) rfl fl_X9_371 (fun _ h9 => h9) dX9_paste_53 (fun z_15 ez_15 rz_15 => ?_)
          have ez_15 : z_15 = G.1 q_13 0 := ez_15
          refine lv_icmp_eq (tgt := 62) hx hb dX9_paste_56 (by decide) (fun c_16 => ?_) (fun c_16 => ?_)
          · skip
            have tc_16 : z_14.toInt = z_15.toInt := (fa_eq _ _).mp c_16
            refine lv_aload hx hb dX9_paste_62 (lv_at hl 1 rfl) ?_
            refine lv_iload_n hx hb dX9_paste_64 rfl (lv_at hl 4 rfl) ?_
            refine lv_iload hx hb dX9_paste_65 (lv_at hl 7 rfl) ?_
            refine pu_calli (runV (As := [.int v1, .int v4]) (rest := []) ⟨hx, hb, hml, hown, hts⟩ (t_X6_has2 l D cy base τ G q_7 hq_7 v1 v4) sV_X9_374 hK (t_recv cf_9 hK hT hq_7) ⟨Nat.le_trans hZ hS.1, hT⟩ ⟨Nat.le_of_ble_eq_true rfl, Nat.le_of_ble_eq_true rfl⟩ rfl hl.1 rfl (Nat.le_of_ble_eq_true rfl) dX9_paste_67 ⟨Nat.le_of_ble_eq_true rfl, Nat.le_of_ble_eq_true rfl⟩) (fun r_17 hr_17 => ?_)
            have hr_17_c := hr_17
            rcases hr_17_c with hr_17_0 | hr_17_1
            · skip
              obtain ⟨er_17, hr_17_0_f0, hr_17_0_f1, hr_17_0_f2⟩ := hr_17_0
              have hr_17_0_f0 : 0 ≤ v1.toInt := hr_17_0_f0
              have hr_17_0_f1 : 0 ≤ v4.toInt := hr_17_0_f1
              have hr_17_0_f2 : ∀ q : Nat, G.2.2.1 q_7 1 = some q → v1.toInt + v4.toInt ≤ G.2.2.2 q := hr_17_0_f2
              subst er_17
              refine W.eq (g2 := F0 m 70 ls [.int 1]) rfl ?_
              refine lv_if_eq (tgt := 85) hx hb dX9_paste_70 (by decide) (fun c_18 => absurd c_18 (by decide)) (fun _ => ?_)
              refine lv_aload hx hb dX9_paste_73 (lv_at hl 0 rfl) ?_
              refine lv_iload hx hb dX9_paste_75 (lv_at hl 6 rfl) ?_
              refine lv_iload hx hb dX9_paste_77 (lv_at hl 7 rfl) ?_
              refine pu_calli (runV (As := [.int v3, .int v4]) (rest := []) ⟨hx, hb, hml, hown, hts⟩ (t_X6_has2 l D cy base τ G q_13 hq_13 v3 v4) sV_X9_374 hK (t_recv cf_9 hK hT hq_13) ⟨Nat.le_trans hZ hS.1, hT⟩ ⟨Nat.le_of_ble_eq_true rfl, Nat.le_of_ble_eq_true rfl⟩ rfl hl.1 rfl (Nat.le_of_ble_eq_true rfl) dX9_paste_79 ⟨Nat.le_of_ble_eq_true rfl, Nat.le_of_ble_eq_true rfl⟩) (fun r_19 hr_19 => ?_)
              have hr_19_c := hr_19
              rcases hr_19_c with hr_19_0 | hr_19_1
              · skip
                obtain ⟨er_19, hr_19_0_f0, hr_19_0_f1, hr_19_0_f2⟩ := hr_19_0
                have hr_19_0_f0 : 0 ≤ v3.toInt := hr_19_0_f0
                have hr_19_0_f1 : 0 ≤ v4.toInt := hr_19_0_f1
                have hr_19_0_f2 : ∀ q : Nat, G.2.2.1 q_13 1 = some q → v3.toInt + v4.toInt ≤ G.2.2.2 q := hr_19_0_f2
                subst er_19
                refine W.eq (g2 := F0 m 82 ls [.int 1]) rfl ?_
                refine lv_if_ne (tgt := 88) hx hb dX9_paste_82 (by decide) (fun _ => ?_) (fun c_20 => absurd c_20 (by decide))
                refine lv_aload hx hb dX9_paste_88 (lv_at hl 1 rfl) ?_
                refine t_getr cf_9 hx hb hts hown hK hT hq_7 (k := 1) (P := fun q => τ q = 40) rfl (fun _ h9 => h9) fl_X9_315 (fun _ h9 => h9) dX9_paste_90 (fun q_21 eq_21 hq_21 => ?_)
                refine lv_iload_n hx hb dX9_paste_93 rfl (lv_at hl 4 rfl) ?_
                refine lv_aload hx hb dX9_paste_94 (lv_at hl 0 rfl) ?_
                refine t_getr cf_9 hx hb hts hown hK hT hq_13 (k := 1) (P := fun q => τ q = 40) rfl (fun _ h9 => h9) fl_X9_315 (fun _ h9 => h9) dX9_paste_96 (fun q_22 eq_22 hq_22 => ?_)
                refine lv_iload hx hb dX9_paste_99 (lv_at hl 6 rfl) ?_
                refine lv_iload hx hb dX9_paste_101 (lv_at hl 7 rfl) ?_
                obtain ⟨n_23, en_23⟩ : ∃ y : Nat, y = G.2.2.2 q_21 := ⟨_, rfl⟩
                have rn_23 : n_23 ≤ 60 := by rw [en_23]; exact hT.len hq_21 (by decide)
                obtain ⟨n_24, en_24⟩ : ∃ y : Nat, y = G.2.2.2 q_22 := ⟨_, rfl⟩
                have rn_24 : n_24 ≤ 60 := by rw [en_24]; exact hT.len hq_22 (by decide)
                have u_25 := hr_17_0_f2 q_21 eq_21
                have u_26 := hr_19_0_f2 q_22 eq_22
                refine t_copyl (n0 := n_23) (n1 := n_24) (sp := v1) (dp := v3) (n := v4) rfl (by decide) rfl (by decide) hx hb (by rw [hml]; exact hl.1.symm) hown (hts _ ml_X9_377) hts hK hT hS hq_21 hq_22 (en_23.symm) (en_24.symm) (by omega) (by omega) (by omega) (by omega) (by omega) (Nat.le_of_ble_eq_true rfl) (Nat.le_of_ble_eq_true rfl) dX9_paste_103 (fun H locs G_27 f_28 eG_27 hT hS => ?_)
                have hF := hF.wLA eG_27 hq_22 rfl
                refine lv_iconst (v := 0) hx hb dX9_paste_106 (by decide) ?_
                have wq1 : (G.1 q_7 0).toInt = z_14.toInt := by rw [ez_14]
                have wq2 : (G.1 q_13 0).toInt = z_15.toInt := by rw [ez_15]
                have u_29 := hr_17_0_f2 q_21 eq_21
                have u_30 := hr_19_0_f2 q_22 eq_22
                exact ret_i hx hb hr hlocks ⟨⟨hS.1, hS.2.1⟩, G_27, hF, ⟨_, rfl, (Or.inr (Or.inr ⟨by omega, by omega, by omega, by omega, q_7, q_13, q_21, q_22, eq_7, eq_13, eq_21, eq_22, Or.inr (Or.inr ⟨rfl, ((fa_eq _ _).mpr (by omega)), by omega, by omega, by omega, by omega, by omega⟩)⟩))⟩, hT⟩ hS.2.2 (Nat.le_of_ble_eq_true rfl) (Nat.le_of_ble_eq_true rfl) dX9_paste_107
              · skip
                obtain ⟨er_19, hr_19_1_f0⟩ := hr_19_1
                have hr_19_1_f0 : ∀ q : Nat, G.2.2.1 q_13 1 = some q → v3.toInt < 0 ∨ v4.toInt < 0 ∨ (G.2.2.2 q : Int) < v3.toInt + v4.toInt := hr_19_1_f0
                subst er_19
                refine W.eq (g2 := F0 m 82 ls [.int 0]) rfl ?_
                refine lv_if_ne (tgt := 88) hx hb dX9_paste_82 (by decide) (fun c_31 => absurd rfl c_31) (fun _ => ?_)
                refine lv_bipush (v := (-7)) hx hb dX9_paste_85 (by decide) ?_
                obtain ⟨q_32, eq_32, hq_32⟩ := (show ∃ q, G.2.2.1 q_7 1 = some q ∧ τ q = 40 from hT.rgr hq_7 (by decide) 1)
                obtain ⟨n_33, en_33⟩ : ∃ y : Nat, y = G.2.2.2 q_32 := ⟨_, rfl⟩
                have rn_33 : n_33 ≤ 60 := by rw [en_33]; exact hT.len hq_32 (by decide)
                obtain ⟨q_34, eq_34, hq_34⟩ := (show ∃ q, G.2.2.1 q_13 1 = some q ∧ τ q = 40 from hT.rgr hq_13 (by decide) 1)
                obtain ⟨n_35, en_35⟩ : ∃ y : Nat, y = G.2.2.2 q_34 := ⟨_, rfl⟩
                have rn_35 : n_35 ≤ 60 := by rw [en_35]; exact hT.len hq_34 (by decide)
                have wq1 : (G.1 q_7 0).toInt = z_14.toInt := by rw [ez_14]
                have wq2 : (G.1 q_13 0).toInt = z_15.toInt := by rw [ez_15]
                have u_36 := hr_17_0_f2 q_32 eq_32
                have u_37 := hr_19_1_f0 q_34 eq_34
                exact ret_i hx hb hr hlocks ⟨⟨hS.1, hS.2.1⟩, G, hF, ⟨_, rfl, (Or.inr (Or.inr ⟨by omega, by omega, by omega, by omega, q_7, q_13, q_32, q_34, eq_7, eq_13, eq_32, eq_34, Or.inr (Or.inl ⟨rfl, ((fa_eq _ _).mpr (by omega)), fun h9 => by omega⟩)⟩))⟩, hT⟩ hS.2.2 (Nat.le_of_ble_eq_true rfl) (Nat.le_of_ble_eq_true rfl) dX9_paste_87
            · skip
              obtain ⟨er_17, hr_17_1_f0⟩ := hr_17_1
              have hr_17_1_f0 : ∀ q : Nat, G.2.2.1 q_7 1 = some q → v1.toInt < 0 ∨ v4.toInt < 0 ∨ (G.2.2.2 q : Int) < v1.toInt + v4.toInt := hr_17_1_f0
              subst er_17
              refine W.eq (g2 := F0 m 70 ls [.int 0]) rfl ?_
              refine lv_if_eq (tgt := 85) hx hb dX9_paste_70 (by decide) (fun _ => ?_) (fun c_38 => absurd (by decide) c_38)
              refine lv_bipush (v := (-7)) hx hb dX9_paste_85 (by decide) ?_
              obtain ⟨q_39, eq_39, hq_39⟩ := (show ∃ q, G.2.2.1 q_7 1 = some q ∧ τ q = 40 from hT.rgr hq_7 (by decide) 1)
              obtain ⟨n_40, en_40⟩ : ∃ y : Nat, y = G.2.2.2 q_39 := ⟨_, rfl⟩
              have rn_40 : n_40 ≤ 60 := by rw [en_40]; exact hT.len hq_39 (by decide)
              obtain ⟨q_41, eq_41, hq_41⟩ := (show ∃ q, G.2.2.1 q_13 1 = some q ∧ τ q = 40 from hT.rgr hq_13 (by decide) 1)
              obtain ⟨n_42, en_42⟩ : ∃ y : Nat, y = G.2.2.2 q_41 := ⟨_, rfl⟩
              have rn_42 : n_42 ≤ 60 := by rw [en_42]; exact hT.len hq_41 (by decide)
              have wq1 : (G.1 q_7 0).toInt = z_14.toInt := by rw [ez_14]
              have wq2 : (G.1 q_13 0).toInt = z_15.toInt := by rw [ez_15]
              have u_43 := hr_17_1_f0 q_39 eq_39
              exact ret_i hx hb hr hlocks ⟨⟨hS.1, hS.2.1⟩, G, hF, ⟨_, rfl, (Or.inr (Or.inr ⟨by omega, by omega, by omega, by omega, q_7, q_13, q_39, q_41, eq_7, eq_13, eq_39, eq_41, Or.inr (Or.inl ⟨rfl, ((fa_eq _ _).mpr (by omega)), fun h9 => by omega⟩)⟩))⟩, hT⟩ hS.2.2 (Nat.le_of_ble_eq_true rfl) (Nat.le_of_ble_eq_true rfl) dX9_paste_87
          · skip
            have tc_16 : ¬ z_14.toInt = z_15.toInt := fun h => c_16 ((fa_eq _ _).mpr h)
            refine lv_bipush (v := (-8)) hx hb dX9_paste_59 (by decide) ?_
            obtain ⟨q_44, eq_44, hq_44⟩ := (show ∃ q, G.2.2.1 q_7 1 = some q ∧ τ q = 40 from hT.rgr hq_7 (by decide) 1)
            obtain ⟨n_45, en_45⟩ : ∃ y : Nat, y = G.2.2.2 q_44 := ⟨_, rfl⟩
            have rn_45 : n_45 ≤ 60 := by rw [en_45]; exact hT.len hq_44 (by decide)
            obtain ⟨q_46, eq_46, hq_46⟩ := (show ∃ q, G.2.2.1 q_13 1 = some q ∧ τ q = 40 from hT.rgr hq_13 (by decide) 1)
            obtain ⟨n_47, en_47⟩ : ∃ y : Nat, y = G.2.2.2 q_46 := ⟨_, rfl⟩
            have rn_47 : n_47 ≤ 60 := by rw [en_47]; exact hT.len hq_46 (by decide)
            have wq1 : (G.1 q_7 0).toInt = z_14.toInt := by rw [ez_14]
            have wq2 : (G.1 q_13 0).toInt = z_15.toInt := by rw [ez_15]
            exact ret_i hx hb hr hlocks ⟨⟨hS.1, hS.2.1⟩, G, hF, ⟨_, rfl, (Or.inr (Or.inr ⟨by omega, by omega, by omega, by omega, q_7, q_13, q_44, q_46, eq_7, eq_13, eq_44, eq_46, Or.inl ⟨rfl, fun h9 => by have h8 := congrArg Int32.toInt h9; omega⟩⟩))⟩, hT⟩ hS.2.2 (Nat.le_of_ble_eq_true rfl) (Nat.le_of_ble_eq_true rfl) dX9_paste_61
    · skip
      obtain ⟨er_3, hr_3_1_f0⟩ := hr_3_1
      have hr_3_1_f0 : (v2.toInt < 0 ∨ 3 < v2.toInt) := hr_3_1_f0
      subst er_3
      refine W.eq (g2 := F0 m 11 ls [.int 0]) rfl ?_
      refine lv_if_ne (tgt := 17) hx hb dX9_paste_11 (by decide) (fun c_48 => absurd rfl c_48) (fun _ => ?_)
      refine lv_bipush (v := (-2)) hx hb dX9_paste_14 (by decide) ?_
      exact ret_i hx hb hr hlocks ⟨⟨hS.1, hS.2.1⟩, G, hF, ⟨_, rfl, (Or.inl ⟨rfl, by omega⟩)⟩, hT⟩ hS.2.2 (Nat.le_of_ble_eq_true rfl) (Nat.le_of_ble_eq_true rfl) dX9_paste_16
  · skip
    obtain ⟨er_1, hr_1_1_f0⟩ := hr_1_1
    have hr_1_1_f0 : (v0.toInt < 0 ∨ 3 < v0.toInt) := hr_1_1_f0
    subst er_1
    refine W.eq (g2 := F0 m 4 ls [.int 0]) rfl ?_
    refine lv_if_eq (tgt := 14) hx hb dX9_paste_4 (by decide) (fun _ => ?_) (fun c_49 => absurd (by decide) c_49)
    refine lv_bipush (v := (-2)) hx hb dX9_paste_14 (by decide) ?_
    exact ret_i hx hb hr hlocks ⟨⟨hS.1, hS.2.1⟩, G, hF, ⟨_, rfl, (Or.inl ⟨rfl, by omega⟩)⟩, hT⟩ hS.2.2 (Nat.le_of_ble_eq_true rfl) (Nat.le_of_ble_eq_true rfl) dX9_paste_16
set_option maxHeartbeats 4000000 in
set_option maxRecDepth 100000 in
theorem t_X10_row2 (l : Launch) (D : va_G) (cy : Nat → ClassId) (base : Nat) (τ : Nat → Nat) (G : Gh) (a : Nat) (h_a : τ a = 11) (v0 : Int32) (v1 : Int32) (v2 : Int32) (wd : Nat) (h_wd : τ wd = 51) (e_wd : G.2.2.1 a 1 = some wd) (mn : Nat) (h_mn : τ mn = 52) (e_mn : G.2.2.1 a 2 = some mn) : MM l yX10_row cX10_row 5 (some .int) 2 0 0 D cy [.ref a, .int v0, .int v1, .int v2] (PT D cy base τ G) (QT D cy base τ G [11, 51, 52, 53] (fun v g => ∃ r : Int32, v = some (.int r) ∧ (((r = -2 ∧ (v0.toInt < 0 ∨ 3 < v0.toInt ∨ v1.toInt < 0 ∨ 3 < v1.toInt ∨ 60 < v2.toInt) ∧ (∀ j : Nat, g.1 wd j = G.1 wd j ∧ g.1 mn j = G.1 mn j)) ∨ (r = -3 ∧ 0 ≤ v0.toInt ∧ v0.toInt ≤ 3 ∧ 0 ≤ v1.toInt ∧ v1.toInt ≤ 3 ∧ v2.toInt < 0 ∧ (∀ j : Nat, g.1 wd j = G.1 wd j ∧ g.1 mn j = G.1 mn j)) ∨ (r = 0 ∧ 0 ≤ v0.toInt ∧ v0.toInt ≤ 3 ∧ 0 ≤ v1.toInt ∧ v1.toInt ≤ 3 ∧ 0 ≤ v2.toInt ∧ v2.toInt ≤ 60 ∧ g.1 wd v0.toNatClampNeg = v1 ∧ g.1 mn v0.toNatClampNeg = v2 ∧ ∀ j : Nat, j ≠ v0.toNatClampNeg → g.1 wd j = G.1 wd j ∧ g.1 mn j = G.1 mn j))))) (RA base) := by
  refine MM.of (by decide) (Nat.le_of_ble_eq_true rfl) ?_
  intro p e s m below meth c C hPT ls hl
  obtain ⟨hx, hb, hr, hml, hown, hts, hlocks, hK, hnm⟩ := C
  obtain ⟨hZ, hT⟩ := hPT
  have hS : va_S (RA base) s.heap s.heap [] := va_S.rf
  have hF : Fr τ [11, 51, 52, 53] G G := Fr.rf
  have hl : lv_has ls 5 [(0, .ref a), (1, .int v0), (2, .int v1), (3, .int v2)] := hl
  refine lv_aload_n hx hb dX10_row_0 rfl (lv_at hl 0 rfl) ?_
  refine lv_iconst (v := 0) hx hb dX10_row_1 (by decide) ?_
  refine t_puti (x := 0) cf_11 hx hb hts hown hK hT hS h_a (k := 0) rfl trivial fl_X10_111 (fun _ h9 => h9) rfl rfl rfl dX10_row_2 (fun H locs G_1 eG_1 hT hS => ?_)
  have hF := hF.wI eG_1 h_a rfl
  refine lv_iload_n hx hb dX10_row_5 rfl (lv_at hl 1 rfl) ?_
  refine pu_calli (runS (As := [.int v0]) (rest := []) ⟨hx, hb, hml, hown, hts⟩ (t_X10_isSlot2 l D cy base τ G_1 v0) sS_X10_120 hK ⟨Nat.le_trans hZ hS.1, hT⟩ ⟨Nat.le_of_ble_eq_true rfl, Nat.le_of_ble_eq_true rfl⟩ rfl hl.1 rfl (Nat.le_of_ble_eq_true rfl) dX10_row_6 ⟨Nat.le_of_ble_eq_true rfl, Nat.le_of_ble_eq_true rfl⟩) (fun r_2 hr_2 => ?_)
  have hr_2_c := hr_2
  rcases hr_2_c with hr_2_0 | hr_2_1
  · skip
    obtain ⟨er_2, hr_2_0_f0, hr_2_0_f1⟩ := hr_2_0
    have hr_2_0_f0 : 0 ≤ v0.toInt := hr_2_0_f0
    have hr_2_0_f1 : v0.toInt ≤ 3 := hr_2_0_f1
    subst er_2
    refine W.eq (g2 := F0 m 9 ls [.int 1]) rfl ?_
    refine lv_if_eq (tgt := 30) hx hb dX10_row_9 (by decide) (fun c_3 => absurd c_3 (by decide)) (fun _ => ?_)
    refine lv_iload_n hx hb dX10_row_12 rfl (lv_at hl 2 rfl) ?_
    refine lv_i2l hx hb dX10_row_13 rfl ?_
    refine lv_topl (fun z_4 ez_4 => ?_)
    have tz_4 : z_4.toInt = v1.toInt := by rw [ez_4]; exact wide_t v1
    have az_4 := min_t v1
    have bz_4 := max_t v1
    refine lv_lconst (v := 0) hx hb dX10_row_14 (by decide) ?_
    refine lv_ldc2 (v := 3) hx hb hown (hts _ kl_X10_114) dX10_row_15 ?_
    refine pu_calli (runS (As := [.long z_4, .long 0, .long 3]) (rest := []) ⟨hx, hb, hml, hown, hts⟩ (t_X10_in2 l D cy base τ G_1 z_4 0 3) sS_X10_116 hK ⟨Nat.le_trans hZ hS.1, hT⟩ ⟨Nat.le_of_ble_eq_true rfl, Nat.le_of_ble_eq_true rfl⟩ rfl hl.1 rfl (Nat.le_of_ble_eq_true rfl) dX10_row_18 ⟨Nat.le_of_ble_eq_true rfl, Nat.le_of_ble_eq_true rfl⟩) (fun r_5 hr_5 => ?_)
    have hr_5_c := hr_5
    rcases hr_5_c with hr_5_0 | hr_5_1
    · skip
      obtain ⟨er_5, hr_5_0_f0, hr_5_0_f1⟩ := hr_5_0
      have hr_5_0_f0 : 0 ≤ z_4.toInt := hr_5_0_f0
      have hr_5_0_f1 : z_4.toInt ≤ 3 := hr_5_0_f1
      subst er_5
      refine W.eq (g2 := F0 m 21 ls [.int 1]) rfl ?_
      refine lv_if_eq (tgt := 30) hx hb dX10_row_21 (by decide) (fun c_6 => absurd c_6 (by decide)) (fun _ => ?_)
      refine lv_iload_n hx hb dX10_row_24 rfl (lv_at hl 3 rfl) ?_
      refine lv_bipush (v := 60) hx hb dX10_row_25 (by decide) ?_
      refine lv_icmp_le (tgt := 33) hx hb dX10_row_27 (by decide) (fun c_7 => ?_) (fun c_7 => ?_)
      · skip
        have tc_7 : v2.toInt ≤ 60 := (fa_le _ _).mp c_7
        refine lv_iload_n hx hb dX10_row_33 rfl (lv_at hl 3 rfl) ?_
        refine lv_if_ge (tgt := 40) hx hb dX10_row_34 (by decide) (fun c_8 => ?_) (fun c_8 => ?_)
        · skip
          have tc_8 : 0 ≤ v2.toInt := (fa_le _ _).mp c_8
          refine lv_aload_n hx hb dX10_row_40 rfl (lv_at hl 0 rfl) ?_
          refine t_getr cf_11 hx hb hts hown hK hT h_a (k := 1) (P := fun q => τ q = 51) rfl (fun _ h9 => h9) fl_X10_7 (fun _ h9 => h9) dX10_row_41 (fun q_9 eq_9 hq_9 => ?_)
          have w_10 : wd = q_9 := Option.some.inj (e_wd.symm.trans ((hF.r h_a (by decide) rfl _).symm.trans eq_9))
          subst w_10
          refine lv_iload_n hx hb dX10_row_44 rfl (lv_at hl 1 rfl) ?_
          refine lv_iload_n hx hb dX10_row_45 rfl (lv_at hl 2 rfl) ?_
          refine t_iast (n := 4) (i := v0) (x := v1) rfl (by decide) hx hb hK hT hS h_wd (hT.len h_wd (by decide)) ⟨by omega, by omega⟩ (show -1 ≤ v1.toInt ∧ v1.toInt ≤ 3 from ⟨by omega, by omega⟩) dX10_row_46 (fun H locs G_11 eG_11 hT hS => ?_)
          have hF := hF.wI eG_11 h_wd rfl
          refine lv_aload_n hx hb dX10_row_47 rfl (lv_at hl 0 rfl) ?_
          refine t_getr cf_11 hx hb hts hown hK hT h_a (k := 2) (P := fun q => τ q = 52) rfl (fun _ h9 => h9) fl_X10_13 (fun _ h9 => h9) dX10_row_48 (fun q_12 eq_12 hq_12 => ?_)
          have w_13 : mn = q_12 := Option.some.inj (e_mn.symm.trans ((hF.r h_a (by decide) rfl _).symm.trans eq_12))
          subst w_13
          refine lv_iload_n hx hb dX10_row_51 rfl (lv_at hl 1 rfl) ?_
          refine lv_iload_n hx hb dX10_row_52 rfl (lv_at hl 3 rfl) ?_
          refine t_iast (n := 4) (i := v0) (x := v2) rfl (by decide) hx hb hK hT hS h_mn (hT.len h_mn (by decide)) ⟨by omega, by omega⟩ (show 0 ≤ v2.toInt ∧ v2.toInt ≤ 60 from ⟨by omega, by omega⟩) dX10_row_53 (fun H locs G_14 eG_14 hT hS => ?_)
          have hF := hF.wI eG_14 h_mn rfl
          refine lv_iconst (v := 0) hx hb dX10_row_54 (by decide) ?_
          refine lv_istore (lv' := [(4, .int 0), (0, .ref a), (1, .int v0), (2, .int v1), (3, .int v2)]) hx hb dX10_row_55 hl (by decide) rfl (fun ls hl => ?_)
          refine W.loop (σ := Int32 × Gh) (fun w15 H locs ls => 0 ≤ w15.1.toInt ∧ w15.1.toInt ≤ 60 ∧ (w15.2.1 wd v0.toNatClampNeg = v1 ∧ w15.2.1 mn v0.toNatClampNeg = v2 ∧ ∀ j : Nat, j ≠ v0.toNatClampNeg → w15.2.1 wd j = G.1 wd j ∧ w15.2.1 mn j = G.1 mn j) ∧ Fr τ [11, 51, 52, 53] G w15.2 ∧ TY D cy base τ w15.2 H ∧ va_S (RA base) s.heap H locs ∧ lv_has ls 5 [(4, .int w15.1), (0, .ref a), (1, .int v0), (2, .int v1), (3, .int v2)]) (fun w15 => (60 - w15.1.toInt).toNat) ?_ ((0 : Int32), G_14) _ _ _ ⟨(by show 0 ≤ (0 : Int32).toInt; decide), (by show (0 : Int32).toInt ≤ 60; decide), (by show G_14.1 wd v0.toNatClampNeg = v1 ∧ G_14.1 mn v0.toNatClampNeg = v2 ∧ ∀ j : Nat, j ≠ v0.toNatClampNeg → G_14.1 wd j = G.1 wd j ∧ G_14.1 mn j = G.1 mn j; exact ⟨(by rw [eG_14, wI_ne (Or.inl (tag_ne h_mn h_wd (by decide))), eG_11, wI_at]), (by rw [eG_14, wI_at]), fun j hj => ⟨(by rw [eG_14, wI_ne (Or.inl (tag_ne h_mn h_wd (by decide))), eG_11, wI_ne (Or.inr hj)]; exact (show G_1.1 wd j = G.1 wd j from (by rw [eG_1]; exact wI_ne (Or.inl (tag_ne h_a h_wd (by decide)))))), (by rw [eG_14, wI_ne (Or.inr hj), eG_11, wI_ne (Or.inl (tag_ne h_wd h_mn (by decide)))]; exact (show G_1.1 mn j = G.1 mn j from (by rw [eG_1]; exact wI_ne (Or.inl (tag_ne h_a h_mn (by decide))))))⟩⟩), hF, hT, hS, lv_sub hl [0, 1, 2, 3, 4] rfl⟩
          intro w15 H locs ls hI ih15
          obtain ⟨x15_4, G_15⟩ := w15
          obtain ⟨i15_0, i15_1, i15_2, hF, hT, hS, hl⟩ := hI
          have i15_0 : 0 ≤ x15_4.toInt := i15_0
          have i15_1 : x15_4.toInt ≤ 60 := i15_1
          have i15_2 : (G_15.1 wd v0.toNatClampNeg = v1 ∧ G_15.1 mn v0.toNatClampNeg = v2 ∧ ∀ j : Nat, j ≠ v0.toNatClampNeg → G_15.1 wd j = G.1 wd j ∧ G_15.1 mn j = G.1 mn j) := i15_2
          have hF : Fr τ [11, 51, 52, 53] G G_15 := hF
          have hT : TY D cy base τ G_15 H := hT
          have hS : va_S (RA base) s.heap H locs := hS
          have hl : lv_has ls 5 [(4, .int x15_4), (0, .ref a), (1, .int v0), (2, .int v1), (3, .int v2)] := hl
          refine lv_iload hx hb dX10_row_57 (lv_at hl 0 rfl) ?_
          refine lv_iload_n hx hb dX10_row_59 rfl (lv_at hl 4 rfl) ?_
          refine lv_icmp_ge (tgt := 82) hx hb dX10_row_60 (by decide) (fun c_16 => ?_) (fun c_16 => ?_)
          · skip
            have tc_16 : v2.toInt ≤ x15_4.toInt := (fa_le _ _).mp c_16
            refine lv_iconst (v := 0) hx hb dX10_row_82 (by decide) ?_
            exact ret_i hx hb hr hlocks ⟨⟨hS.1, hS.2.1⟩, G_15, hF, ⟨_, rfl, (Or.inr (Or.inr ⟨rfl, by omega, by omega, by omega, by omega, by omega, by omega, i15_2⟩))⟩, hT⟩ hS.2.2 (Nat.le_of_ble_eq_true rfl) (Nat.le_of_ble_eq_true rfl) dX10_row_83
          · skip
            have tc_16 : ¬ v2.toInt ≤ x15_4.toInt := fun h => c_16 ((fa_le _ _).mpr h)
            refine lv_aload_n hx hb dX10_row_63 rfl (lv_at hl 1 rfl) ?_
            refine t_getr cf_11 hx hb hts hown hK hT h_a (k := 3) (P := fun q => τ q = 53) rfl (fun _ h9 => h9) fl_X10_16 (fun _ h9 => h9) dX10_row_64 (fun q_17 eq_17 hq_17 => ?_)
            have eq_17 := (hF.r h_a (by decide) rfl _).symm.trans eq_17
            refine lv_bipush (v := 60) hx hb dX10_row_67 (by decide) ?_
            refine lv_iload_n hx hb dX10_row_69 rfl (lv_at hl 2 rfl) ?_
            refine lv_imul hx hb dX10_row_70 ?_
            refine lv_topi (fun z_18 ez_18 => ?_)
            have tz_18 : z_18.toInt = 60 * v0.toInt := mul_t ez_18 (show -2147483648 ≤ 60 * v0.toInt by omega) (show 60 * v0.toInt < 2147483648 by omega)
            refine lv_iload hx hb dX10_row_71 (lv_at hl 0 rfl) ?_
            refine lv_iadd hx hb dX10_row_73 ?_
            refine lv_topi (fun z_19 ez_19 => ?_)
            have tz_19 : z_19.toInt = z_18.toInt + x15_4.toInt := add_t ez_19 (show -2147483648 ≤ z_18.toInt + x15_4.toInt by omega) (show z_18.toInt + x15_4.toInt < 2147483648 by omega)
            refine lv_lconst (v := 0) hx hb dX10_row_74 (by decide) ?_
            refine t_last (n := 240) (i := z_19) (x := 0) rfl (by decide) hx hb hK hT hS hq_17 (hT.len hq_17 (by decide)) ⟨by omega, by omega⟩ dX10_row_75 (fun H locs G_20 eG_20 hT hS => ?_)
            have hF := hF.wL eG_20 hq_17 rfl
            obtain ⟨z_21, ez_21⟩ : ∃ y : Int32, y = x15_4 + 1 := ⟨_, rfl⟩
            have tz_21 : z_21.toInt = x15_4.toInt + 1 := add_t ez_21 (show -2147483648 ≤ x15_4.toInt + 1 by omega) (show x15_4.toInt + 1 < 2147483648 by omega)
            refine lv_iinc (v := z_21) (lv' := [(4, .int z_21), (0, .ref a), (1, .int v0), (2, .int v1), (3, .int v2)]) hx hb dX10_row_76 hl (k := 0) rfl (by rw [ez_21]; rfl) (by decide) rfl (fun ls hl => ?_)
            refine lv_goto (tgt := 57) hx hb dX10_row_79 (by decide) ?_
            exact ih15 (z_21, G_20) _ _ _ (by show (60 - z_21.toInt).toNat < (60 - x15_4.toInt).toNat; omega) ⟨(by show 0 ≤ z_21.toInt; omega), (by show z_21.toInt ≤ 60; omega), by show G_20.1 wd v0.toNatClampNeg = v1 ∧ G_20.1 mn v0.toNatClampNeg = v2 ∧ ∀ j : Nat, j ≠ v0.toNatClampNeg → G_20.1 wd j = G.1 wd j ∧ G_20.1 mn j = G.1 mn j; rw [eG_20]; exact i15_2, hF, hT, hS, lv_sub hl [0, 1, 2, 3, 4] rfl⟩
        · skip
          have tc_8 : ¬ 0 ≤ v2.toInt := fun h => c_8 ((fa_le _ _).mpr h)
          refine lv_bipush (v := (-3)) hx hb dX10_row_37 (by decide) ?_
          exact ret_i hx hb hr hlocks ⟨⟨hS.1, hS.2.1⟩, G_1, hF, ⟨_, rfl, (Or.inr (Or.inl ⟨rfl, by omega, by omega, by omega, by omega, by omega, (fun j => ⟨(show G_1.1 wd j = G.1 wd j from (by rw [eG_1]; exact wI_ne (Or.inl (tag_ne h_a h_wd (by decide))))), (show G_1.1 mn j = G.1 mn j from (by rw [eG_1]; exact wI_ne (Or.inl (tag_ne h_a h_mn (by decide)))))⟩)⟩))⟩, hT⟩ hS.2.2 (Nat.le_of_ble_eq_true rfl) (Nat.le_of_ble_eq_true rfl) dX10_row_39
      · skip
        have tc_7 : ¬ v2.toInt ≤ 60 := fun h => c_7 ((fa_le _ _).mpr h)
        have mc_7 : v2.toInt ≤ 2147483647 := max_t v2
        refine lv_bipush (v := (-2)) hx hb dX10_row_30 (by decide) ?_
        exact ret_i hx hb hr hlocks ⟨⟨hS.1, hS.2.1⟩, G_1, hF, ⟨_, rfl, (Or.inl ⟨rfl, by omega, (fun j => ⟨(show G_1.1 wd j = G.1 wd j from (by rw [eG_1]; exact wI_ne (Or.inl (tag_ne h_a h_wd (by decide))))), (show G_1.1 mn j = G.1 mn j from (by rw [eG_1]; exact wI_ne (Or.inl (tag_ne h_a h_mn (by decide)))))⟩)⟩)⟩, hT⟩ hS.2.2 (Nat.le_of_ble_eq_true rfl) (Nat.le_of_ble_eq_true rfl) dX10_row_32
    · skip
      obtain ⟨er_5, hr_5_1_f0⟩ := hr_5_1
      have hr_5_1_f0 : (z_4.toInt < 0 ∨ 3 < z_4.toInt) := hr_5_1_f0
      subst er_5
      refine W.eq (g2 := F0 m 21 ls [.int 0]) rfl ?_
      refine lv_if_eq (tgt := 30) hx hb dX10_row_21 (by decide) (fun _ => ?_) (fun c_22 => absurd (by decide) c_22)
      refine lv_bipush (v := (-2)) hx hb dX10_row_30 (by decide) ?_
      exact ret_i hx hb hr hlocks ⟨⟨hS.1, hS.2.1⟩, G_1, hF, ⟨_, rfl, (Or.inl ⟨rfl, by omega, (fun j => ⟨(show G_1.1 wd j = G.1 wd j from (by rw [eG_1]; exact wI_ne (Or.inl (tag_ne h_a h_wd (by decide))))), (show G_1.1 mn j = G.1 mn j from (by rw [eG_1]; exact wI_ne (Or.inl (tag_ne h_a h_mn (by decide)))))⟩)⟩)⟩, hT⟩ hS.2.2 (Nat.le_of_ble_eq_true rfl) (Nat.le_of_ble_eq_true rfl) dX10_row_32
  · skip
    obtain ⟨er_2, hr_2_1_f0⟩ := hr_2_1
    have hr_2_1_f0 : (v0.toInt < 0 ∨ 3 < v0.toInt) := hr_2_1_f0
    subst er_2
    refine W.eq (g2 := F0 m 9 ls [.int 0]) rfl ?_
    refine lv_if_eq (tgt := 30) hx hb dX10_row_9 (by decide) (fun _ => ?_) (fun c_23 => absurd (by decide) c_23)
    refine lv_bipush (v := (-2)) hx hb dX10_row_30 (by decide) ?_
    exact ret_i hx hb hr hlocks ⟨⟨hS.1, hS.2.1⟩, G_1, hF, ⟨_, rfl, (Or.inl ⟨rfl, by omega, (fun j => ⟨(show G_1.1 wd j = G.1 wd j from (by rw [eG_1]; exact wI_ne (Or.inl (tag_ne h_a h_wd (by decide))))), (show G_1.1 mn j = G.1 mn j from (by rw [eG_1]; exact wI_ne (Or.inl (tag_ne h_a h_mn (by decide)))))⟩)⟩)⟩, hT⟩ hS.2.2 (Nat.le_of_ble_eq_true rfl) (Nat.le_of_ble_eq_true rfl) dX10_row_32
set_option maxHeartbeats 4000000 in
set_option maxRecDepth 100000 in
theorem t_X10_write2 (l : Launch) (D : va_G) (cy : Nat → ClassId) (base : Nat) (τ : Nat → Nat) (G : Gh) (a : Nat) (h_a : τ a = 11) (v0 : Int32) (v1 : Int32) (v2 : Int64) (wd : Nat) (h_wd : τ wd = 51) (e_wd : G.2.2.1 a 1 = some wd) (mn : Nat) (h_mn : τ mn = 52) (e_mn : G.2.2.1 a 2 = some mn) : MM l yX10_write cX10_write 5 (some .int) 2 0 0 D cy [.ref a, .int v0, .int v1, .long v2] (PT D cy base τ G) (QT D cy base τ G [11, 53] (fun v g => ∃ r : Int32, v = some (.int r) ∧ (((r = -2 ∧ (v0.toInt < 0 ∨ 3 < v0.toInt)) ∨ (r = -6 ∧ 0 ≤ v0.toInt ∧ v0.toInt ≤ 3 ∧ G.1 wd v0.toNatClampNeg = -1) ∨ (0 ≤ v0.toInt ∧ v0.toInt ≤ 3 ∧ G.1 wd v0.toNatClampNeg ≠ -1 ∧ ((r = -7 ∧ (v1.toInt < 0 ∨ (G.1 mn v0.toNatClampNeg).toInt ≤ v1.toInt)) ∨ (r = 0 ∧ 0 ≤ v1.toInt ∧ v1.toInt < (G.1 mn v0.toNatClampNeg).toInt))))))) (RA base) := by
  refine MM.of (by decide) (Nat.le_of_ble_eq_true rfl) ?_
  intro p e s m below meth c C hPT ls hl
  obtain ⟨hx, hb, hr, hml, hown, hts, hlocks, hK, hnm⟩ := C
  obtain ⟨hZ, hT⟩ := hPT
  have hS : va_S (RA base) s.heap s.heap [] := va_S.rf
  have hF : Fr τ [11, 53] G G := Fr.rf
  have hl : lv_has ls 5 [(0, .ref a), (1, .int v0), (2, .int v1), (3, .long v2)] := hl
  refine lv_aload_n hx hb dX10_write_0 rfl (lv_at hl 0 rfl) ?_
  refine lv_iconst (v := 0) hx hb dX10_write_1 (by decide) ?_
  refine t_puti (x := 0) cf_11 hx hb hts hown hK hT hS h_a (k := 0) rfl trivial fl_X10_111 (fun _ h9 => h9) rfl rfl rfl dX10_write_2 (fun H locs G_1 eG_1 hT hS => ?_)
  have hF := hF.wI eG_1 h_a rfl
  refine lv_iload_n hx hb dX10_write_5 rfl (lv_at hl 1 rfl) ?_
  refine pu_calli (runS (As := [.int v0]) (rest := []) ⟨hx, hb, hml, hown, hts⟩ (t_X10_isSlot2 l D cy base τ G_1 v0) sS_X10_120 hK ⟨Nat.le_trans hZ hS.1, hT⟩ ⟨Nat.le_of_ble_eq_true rfl, Nat.le_of_ble_eq_true rfl⟩ rfl hl.1 rfl (Nat.le_of_ble_eq_true rfl) dX10_write_6 ⟨Nat.le_of_ble_eq_true rfl, Nat.le_of_ble_eq_true rfl⟩) (fun r_2 hr_2 => ?_)
  have hr_2_c := hr_2
  rcases hr_2_c with hr_2_0 | hr_2_1
  · skip
    obtain ⟨er_2, hr_2_0_f0, hr_2_0_f1⟩ := hr_2_0
    have hr_2_0_f0 : 0 ≤ v0.toInt := hr_2_0_f0
    have hr_2_0_f1 : v0.toInt ≤ 3 := hr_2_0_f1
    subst er_2
    refine W.eq (g2 := F0 m 9 ls [.int 1]) rfl ?_
    refine lv_if_ne (tgt := 15) hx hb dX10_write_9 (by decide) (fun _ => ?_) (fun c_3 => absurd c_3 (by decide))
    refine lv_aload_n hx hb dX10_write_15 rfl (lv_at hl 0 rfl) ?_
    refine t_getr cf_11 hx hb hts hown hK hT h_a (k := 1) (P := fun q => τ q = 51) rfl (fun _ h9 => h9) fl_X10_7 (fun _ h9 => h9) dX10_write_16 (fun q_4 eq_4 hq_4 => ?_)
    have w_5 : wd = q_4 := Option.some.inj (e_wd.symm.trans ((hF.r h_a (by decide) rfl _).symm.trans eq_4))
    subst w_5
    refine lv_iload_n hx hb dX10_write_19 rfl (lv_at hl 1 rfl) ?_
    refine t_iald (n := 4) (i := v0) rfl (by decide) hx hb hK hT h_wd (hT.len h_wd (by decide)) ⟨by omega, by omega⟩ dX10_write_20 (fun z_6 ez_6 rz_6 => ?_)
    have rz_6 : -1 ≤ z_6.toInt ∧ z_6.toInt ≤ 3 := rz_6
    have ez_6 : z_6 = G.1 wd v0.toNatClampNeg := ez_6.trans (hF.i h_wd (by decide) rfl _)
    refine lv_iconst (v := (-1)) hx hb dX10_write_21 (by decide) ?_
    refine lv_icmp_ne (tgt := 28) hx hb dX10_write_22 (by decide) (fun c_7 => ?_) (fun c_7 => ?_)
    · skip
      have tc_7 : ¬ z_6.toInt = -1 := fun h => c_7 ((fa_eq _ _).mpr h)
      refine lv_iload_n hx hb dX10_write_28 rfl (lv_at hl 2 rfl) ?_
      refine lv_i2l hx hb dX10_write_29 rfl ?_
      refine lv_topl (fun z_8 ez_8 => ?_)
      have tz_8 : z_8.toInt = v1.toInt := by rw [ez_8]; exact wide_t v1
      have az_8 := min_t v1
      have bz_8 := max_t v1
      refine lv_lconst (v := 0) hx hb dX10_write_30 (by decide) ?_
      refine lv_aload_n hx hb dX10_write_31 rfl (lv_at hl 0 rfl) ?_
      refine t_getr cf_11 hx hb hts hown hK hT h_a (k := 2) (P := fun q => τ q = 52) rfl (fun _ h9 => h9) fl_X10_13 (fun _ h9 => h9) dX10_write_32 (fun q_9 eq_9 hq_9 => ?_)
      have w_10 : mn = q_9 := Option.some.inj (e_mn.symm.trans ((hF.r h_a (by decide) rfl _).symm.trans eq_9))
      subst w_10
      refine lv_iload_n hx hb dX10_write_35 rfl (lv_at hl 1 rfl) ?_
      refine t_iald (n := 4) (i := v0) rfl (by decide) hx hb hK hT h_mn (hT.len h_mn (by decide)) ⟨by omega, by omega⟩ dX10_write_36 (fun z_11 ez_11 rz_11 => ?_)
      have rz_11 : 0 ≤ z_11.toInt ∧ z_11.toInt ≤ 60 := rz_11
      have ez_11 : z_11 = G.1 mn v0.toNatClampNeg := ez_11.trans (hF.i h_mn (by decide) rfl _)
      refine lv_iconst (v := 1) hx hb dX10_write_37 (by decide) ?_
      refine lv_isub hx hb dX10_write_38 ?_
      refine lv_topi (fun z_12 ez_12 => ?_)
      have tz_12 : z_12.toInt = z_11.toInt - 1 := sub_t ez_12 (show -2147483648 ≤ z_11.toInt - 1 by omega) (show z_11.toInt - 1 < 2147483648 by omega)
      refine lv_i2l hx hb dX10_write_39 rfl ?_
      refine lv_topl (fun z_13 ez_13 => ?_)
      have tz_13 : z_13.toInt = z_12.toInt := by rw [ez_13]; exact wide_t z_12
      refine pu_calli (runS (As := [.long z_8, .long 0, .long z_13]) (rest := []) ⟨hx, hb, hml, hown, hts⟩ (t_X10_in2 l D cy base τ G_1 z_8 0 z_13) sS_X10_116 hK ⟨Nat.le_trans hZ hS.1, hT⟩ ⟨Nat.le_of_ble_eq_true rfl, Nat.le_of_ble_eq_true rfl⟩ rfl hl.1 rfl (Nat.le_of_ble_eq_true rfl) dX10_write_40 ⟨Nat.le_of_ble_eq_true rfl, Nat.le_of_ble_eq_true rfl⟩) (fun r_14 hr_14 => ?_)
      have hr_14_c := hr_14
      rcases hr_14_c with hr_14_0 | hr_14_1
      · skip
        obtain ⟨er_14, hr_14_0_f0, hr_14_0_f1⟩ := hr_14_0
        have hr_14_0_f0 : 0 ≤ z_8.toInt := hr_14_0_f0
        have hr_14_0_f1 : z_8.toInt ≤ z_13.toInt := hr_14_0_f1
        subst er_14
        refine W.eq (g2 := F0 m 43 ls [.int 1]) rfl ?_
        refine lv_if_ne (tgt := 49) hx hb dX10_write_43 (by decide) (fun _ => ?_) (fun c_15 => absurd c_15 (by decide))
        refine lv_aload_n hx hb dX10_write_49 rfl (lv_at hl 0 rfl) ?_
        refine t_getr cf_11 hx hb hts hown hK hT h_a (k := 3) (P := fun q => τ q = 53) rfl (fun _ h9 => h9) fl_X10_16 (fun _ h9 => h9) dX10_write_50 (fun q_16 eq_16 hq_16 => ?_)
        have eq_16 := (hF.r h_a (by decide) rfl _).symm.trans eq_16
        refine lv_bipush (v := 60) hx hb dX10_write_53 (by decide) ?_
        refine lv_iload_n hx hb dX10_write_55 rfl (lv_at hl 1 rfl) ?_
        refine lv_imul hx hb dX10_write_56 ?_
        refine lv_topi (fun z_17 ez_17 => ?_)
        have tz_17 : z_17.toInt = 60 * v0.toInt := mul_t ez_17 (show -2147483648 ≤ 60 * v0.toInt by omega) (show 60 * v0.toInt < 2147483648 by omega)
        refine lv_iload_n hx hb dX10_write_57 rfl (lv_at hl 2 rfl) ?_
        refine lv_iadd hx hb dX10_write_58 ?_
        refine lv_topi (fun z_18 ez_18 => ?_)
        have tz_18 : z_18.toInt = z_17.toInt + v1.toInt := add_t ez_18 (show -2147483648 ≤ z_17.toInt + v1.toInt by omega) (show z_17.toInt + v1.toInt < 2147483648 by omega)
        refine lv_lload_n hx hb dX10_write_59 rfl (lv_at hl 3 rfl) ?_
        refine lv_aload_n hx hb dX10_write_60 rfl (lv_at hl 0 rfl) ?_
        refine t_getr cf_11 hx hb hts hown hK hT h_a (k := 1) (P := fun q => τ q = 51) rfl (fun _ h9 => h9) fl_X10_7 (fun _ h9 => h9) dX10_write_61 (fun q_19 eq_19 hq_19 => ?_)
        have w_20 : wd = q_19 := Option.some.inj (e_wd.symm.trans ((hF.r h_a (by decide) rfl _).symm.trans eq_19))
        subst w_20
        refine lv_iload_n hx hb dX10_write_64 rfl (lv_at hl 1 rfl) ?_
        refine t_iald (n := 4) (i := v0) rfl (by decide) hx hb hK hT h_wd (hT.len h_wd (by decide)) ⟨by omega, by omega⟩ dX10_write_65 (fun z_21 ez_21 rz_21 => ?_)
        have w_22 : z_6 = z_21 := ez_6.trans (ez_21.trans (hF.i h_wd (by decide) rfl _)).symm
        subst w_22
        refine pu_calll (runS (As := [.long v2, .int z_6]) (rest := [.int z_18, .ref q_16]) ⟨hx, hb, hml, hown, hts⟩ (t_X10_cut l D cy base τ G_1 v2 z_6) sS_X10_124 hK ⟨Nat.le_trans hZ hS.1, hT⟩ ⟨Nat.le_of_ble_eq_true rfl, Nat.le_of_ble_eq_true rfl⟩ rfl hl.1 rfl (Nat.le_of_ble_eq_true rfl) dX10_write_66 ⟨Nat.le_of_ble_eq_true rfl, Nat.le_of_ble_eq_true rfl⟩) (fun r_23 hr_23 => ?_)
        refine t_last (n := 240) (i := z_18) (x := r_23) rfl (by decide) hx hb hK hT hS hq_16 (hT.len hq_16 (by decide)) ⟨by omega, by omega⟩ dX10_write_69 (fun H locs G_24 eG_24 hT hS => ?_)
        have hF := hF.wL eG_24 hq_16 rfl
        refine lv_iconst (v := 0) hx hb dX10_write_70 (by decide) ?_
        have w_25 : (G.1 wd v0.toNatClampNeg).toInt = z_6.toInt := by rw [ez_6]
        have w_26 : (G.1 mn v0.toNatClampNeg).toInt = z_11.toInt := by rw [ez_11]
        exact ret_i hx hb hr hlocks ⟨⟨hS.1, hS.2.1⟩, G_24, hF, ⟨_, rfl, (Or.inr (Or.inr ⟨by omega, by omega, (fun h9 => by have h8 : _ = (-1 : Int) := congrArg Int32.toInt h9; omega), (Or.inr ⟨rfl, by omega, by omega⟩)⟩))⟩, hT⟩ hS.2.2 (Nat.le_of_ble_eq_true rfl) (Nat.le_of_ble_eq_true rfl) dX10_write_71
      · skip
        obtain ⟨er_14, hr_14_1_f0⟩ := hr_14_1
        have hr_14_1_f0 : (z_8.toInt < 0 ∨ z_13.toInt < z_8.toInt) := hr_14_1_f0
        subst er_14
        refine W.eq (g2 := F0 m 43 ls [.int 0]) rfl ?_
        refine lv_if_ne (tgt := 49) hx hb dX10_write_43 (by decide) (fun c_27 => absurd rfl c_27) (fun _ => ?_)
        refine lv_bipush (v := (-7)) hx hb dX10_write_46 (by decide) ?_
        have w_28 : (G.1 wd v0.toNatClampNeg).toInt = z_6.toInt := by rw [ez_6]
        have w_29 : (G.1 mn v0.toNatClampNeg).toInt = z_11.toInt := by rw [ez_11]
        exact ret_i hx hb hr hlocks ⟨⟨hS.1, hS.2.1⟩, G_1, hF, ⟨_, rfl, (Or.inr (Or.inr ⟨by omega, by omega, (fun h9 => by have h8 : _ = (-1 : Int) := congrArg Int32.toInt h9; omega), (Or.inl ⟨rfl, by omega⟩)⟩))⟩, hT⟩ hS.2.2 (Nat.le_of_ble_eq_true rfl) (Nat.le_of_ble_eq_true rfl) dX10_write_48
    · skip
      have tc_7 : z_6.toInt = -1 := (fa_eq _ _).mp c_7
      refine lv_bipush (v := (-6)) hx hb dX10_write_25 (by decide) ?_
      have w_30 : (G.1 wd v0.toNatClampNeg).toInt = z_6.toInt := by rw [ez_6]
      exact ret_i hx hb hr hlocks ⟨⟨hS.1, hS.2.1⟩, G_1, hF, ⟨_, rfl, (Or.inr (Or.inl ⟨rfl, by omega, by omega, ((fa_eq _ _).mpr (by show _ = (-1 : Int); omega))⟩))⟩, hT⟩ hS.2.2 (Nat.le_of_ble_eq_true rfl) (Nat.le_of_ble_eq_true rfl) dX10_write_27
  · skip
    obtain ⟨er_2, hr_2_1_f0⟩ := hr_2_1
    have hr_2_1_f0 : (v0.toInt < 0 ∨ 3 < v0.toInt) := hr_2_1_f0
    subst er_2
    refine W.eq (g2 := F0 m 9 ls [.int 0]) rfl ?_
    refine lv_if_ne (tgt := 15) hx hb dX10_write_9 (by decide) (fun c_31 => absurd rfl c_31) (fun _ => ?_)
    refine lv_bipush (v := (-2)) hx hb dX10_write_12 (by decide) ?_
    exact ret_i hx hb hr hlocks ⟨⟨hS.1, hS.2.1⟩, G_1, hF, ⟨_, rfl, (Or.inl ⟨rfl, by omega⟩)⟩, hT⟩ hS.2.2 (Nat.le_of_ble_eq_true rfl) (Nat.le_of_ble_eq_true rfl) dX10_write_14
set_option maxHeartbeats 4000000 in
set_option maxRecDepth 100000 in
theorem t_X10_paste2 (l : Launch) (D : va_G) (cy : Nat → ClassId) (base : Nat) (τ : Nat → Nat) (G : Gh) (a : Nat) (h_a : τ a = 11) (v0 : Int32) (v1 : Int32) (v2 : Int32) (v3 : Int32) (v4 : Int32) (wd : Nat) (h_wd : τ wd = 51) (e_wd : G.2.2.1 a 1 = some wd) (mn : Nat) (h_mn : τ mn = 52) (e_mn : G.2.2.1 a 2 = some mn) : MM l yX10_paste cX10_paste 7 (some .int) 2 0 0 D cy [.ref a, .int v0, .int v1, .int v2, .int v3, .int v4] (PT D cy base τ G) (QT D cy base τ G [11, 53, 54] (fun v g => ∃ r : Int32, v = some (.int r) ∧ (((r = -2 ∧ ((v0.toInt < 0 ∨ 3 < v0.toInt) ∨ (v2.toInt < 0 ∨ 3 < v2.toInt))) ∨ (r = -6 ∧ 0 ≤ v0.toInt ∧ v0.toInt ≤ 3 ∧ 0 ≤ v2.toInt ∧ v2.toInt ≤ 3 ∧ (G.1 wd v0.toNatClampNeg = -1 ∨ G.1 wd v2.toNatClampNeg = -1)) ∨ (0 ≤ v0.toInt ∧ v0.toInt ≤ 3 ∧ 0 ≤ v2.toInt ∧ v2.toInt ≤ 3 ∧ G.1 wd v0.toNatClampNeg ≠ -1 ∧ G.1 wd v2.toNatClampNeg ≠ -1 ∧ ((r = -8 ∧ G.1 wd v0.toNatClampNeg ≠ G.1 wd v2.toNatClampNeg) ∨ (r = -7 ∧ G.1 wd v0.toNatClampNeg = G.1 wd v2.toNatClampNeg ∧ ¬ (0 ≤ v1.toInt ∧ 0 ≤ v3.toInt ∧ 0 ≤ v4.toInt ∧ v1.toInt + v4.toInt ≤ (G.1 mn v0.toNatClampNeg).toInt ∧ v3.toInt + v4.toInt ≤ (G.1 mn v2.toNatClampNeg).toInt)) ∨ (r = 0 ∧ G.1 wd v0.toNatClampNeg = G.1 wd v2.toNatClampNeg ∧ (0 ≤ v1.toInt ∧ 0 ≤ v3.toInt ∧ 0 ≤ v4.toInt ∧ v1.toInt + v4.toInt ≤ (G.1 mn v0.toNatClampNeg).toInt ∧ v3.toInt + v4.toInt ≤ (G.1 mn v2.toNatClampNeg).toInt)))))))) (RA base) := by
  refine MM.of (by decide) (Nat.le_of_ble_eq_true rfl) ?_
  intro p e s m below meth c C hPT ls hl
  obtain ⟨hx, hb, hr, hml, hown, hts, hlocks, hK, hnm⟩ := C
  obtain ⟨hZ, hT⟩ := hPT
  have hS : va_S (RA base) s.heap s.heap [] := va_S.rf
  have hF : Fr τ [11, 53, 54] G G := Fr.rf
  have hl : lv_has ls 7 [(0, .ref a), (1, .int v0), (2, .int v1), (3, .int v2), (4, .int v3), (5, .int v4)] := hl
  refine lv_aload_n hx hb dX10_paste_0 rfl (lv_at hl 0 rfl) ?_
  refine lv_iconst (v := 0) hx hb dX10_paste_1 (by decide) ?_
  refine t_puti (x := 0) cf_11 hx hb hts hown hK hT hS h_a (k := 0) rfl trivial fl_X10_111 (fun _ h9 => h9) rfl rfl rfl dX10_paste_2 (fun H locs G_1 eG_1 hT hS => ?_)
  have hF := hF.wI eG_1 h_a rfl
  refine lv_iload_n hx hb dX10_paste_5 rfl (lv_at hl 1 rfl) ?_
  refine pu_calli (runS (As := [.int v0]) (rest := []) ⟨hx, hb, hml, hown, hts⟩ (t_X10_isSlot2 l D cy base τ G_1 v0) sS_X10_120 hK ⟨Nat.le_trans hZ hS.1, hT⟩ ⟨Nat.le_of_ble_eq_true rfl, Nat.le_of_ble_eq_true rfl⟩ rfl hl.1 rfl (Nat.le_of_ble_eq_true rfl) dX10_paste_6 ⟨Nat.le_of_ble_eq_true rfl, Nat.le_of_ble_eq_true rfl⟩) (fun r_2 hr_2 => ?_)
  have hr_2_c := hr_2
  rcases hr_2_c with hr_2_0 | hr_2_1
  · skip
    obtain ⟨er_2, hr_2_0_f0, hr_2_0_f1⟩ := hr_2_0
    have hr_2_0_f0 : 0 ≤ v0.toInt := hr_2_0_f0
    have hr_2_0_f1 : v0.toInt ≤ 3 := hr_2_0_f1
    subst er_2
    refine W.eq (g2 := F0 m 9 ls [.int 1]) rfl ?_
    refine lv_if_eq (tgt := 19) hx hb dX10_paste_9 (by decide) (fun c_3 => absurd c_3 (by decide)) (fun _ => ?_)
    refine lv_iload_n hx hb dX10_paste_12 rfl (lv_at hl 3 rfl) ?_
    refine pu_calli (runS (As := [.int v2]) (rest := []) ⟨hx, hb, hml, hown, hts⟩ (t_X10_isSlot2 l D cy base τ G_1 v2) sS_X10_120 hK ⟨Nat.le_trans hZ hS.1, hT⟩ ⟨Nat.le_of_ble_eq_true rfl, Nat.le_of_ble_eq_true rfl⟩ rfl hl.1 rfl (Nat.le_of_ble_eq_true rfl) dX10_paste_13 ⟨Nat.le_of_ble_eq_true rfl, Nat.le_of_ble_eq_true rfl⟩) (fun r_4 hr_4 => ?_)
    have hr_4_c := hr_4
    rcases hr_4_c with hr_4_0 | hr_4_1
    · skip
      obtain ⟨er_4, hr_4_0_f0, hr_4_0_f1⟩ := hr_4_0
      have hr_4_0_f0 : 0 ≤ v2.toInt := hr_4_0_f0
      have hr_4_0_f1 : v2.toInt ≤ 3 := hr_4_0_f1
      subst er_4
      refine W.eq (g2 := F0 m 16 ls [.int 1]) rfl ?_
      refine lv_if_ne (tgt := 22) hx hb dX10_paste_16 (by decide) (fun _ => ?_) (fun c_5 => absurd c_5 (by decide))
      refine lv_aload_n hx hb dX10_paste_22 rfl (lv_at hl 0 rfl) ?_
      refine t_getr cf_11 hx hb hts hown hK hT h_a (k := 1) (P := fun q => τ q = 51) rfl (fun _ h9 => h9) fl_X10_7 (fun _ h9 => h9) dX10_paste_23 (fun q_6 eq_6 hq_6 => ?_)
      have w_7 : wd = q_6 := Option.some.inj (e_wd.symm.trans ((hF.r h_a (by decide) rfl _).symm.trans eq_6))
      subst w_7
      refine lv_iload_n hx hb dX10_paste_26 rfl (lv_at hl 1 rfl) ?_
      refine t_iald (n := 4) (i := v0) rfl (by decide) hx hb hK hT h_wd (hT.len h_wd (by decide)) ⟨by omega, by omega⟩ dX10_paste_27 (fun z_8 ez_8 rz_8 => ?_)
      have rz_8 : -1 ≤ z_8.toInt ∧ z_8.toInt ≤ 3 := rz_8
      have ez_8 : z_8 = G.1 wd v0.toNatClampNeg := ez_8.trans (hF.i h_wd (by decide) rfl _)
      refine lv_iconst (v := (-1)) hx hb dX10_paste_28 (by decide) ?_
      refine lv_icmp_eq (tgt := 42) hx hb dX10_paste_29 (by decide) (fun c_9 => ?_) (fun c_9 => ?_)
      · skip
        have tc_9 : z_8.toInt = -1 := (fa_eq _ _).mp c_9
        refine lv_bipush (v := (-6)) hx hb dX10_paste_42 (by decide) ?_
        have w_10 : (G.1 wd v0.toNatClampNeg).toInt = z_8.toInt := by rw [ez_8]
        exact ret_i hx hb hr hlocks ⟨⟨hS.1, hS.2.1⟩, G_1, hF, ⟨_, rfl, (Or.inr (Or.inl ⟨rfl, by omega, by omega, by omega, by omega, (Or.inl ((fa_eq _ _).mpr (by show _ = (-1 : Int); omega)))⟩))⟩, hT⟩ hS.2.2 (Nat.le_of_ble_eq_true rfl) (Nat.le_of_ble_eq_true rfl) dX10_paste_44
      · skip
        have tc_9 : ¬ z_8.toInt = -1 := fun h => c_9 ((fa_eq _ _).mpr h)
        refine lv_aload_n hx hb dX10_paste_32 rfl (lv_at hl 0 rfl) ?_
        refine t_getr cf_11 hx hb hts hown hK hT h_a (k := 1) (P := fun q => τ q = 51) rfl (fun _ h9 => h9) fl_X10_7 (fun _ h9 => h9) dX10_paste_33 (fun q_11 eq_11 hq_11 => ?_)
        have w_12 : wd = q_11 := Option.some.inj (e_wd.symm.trans ((hF.r h_a (by decide) rfl _).symm.trans eq_11))
        subst w_12
        refine lv_iload_n hx hb dX10_paste_36 rfl (lv_at hl 3 rfl) ?_
        refine t_iald (n := 4) (i := v2) rfl (by decide) hx hb hK hT h_wd (hT.len h_wd (by decide)) ⟨by omega, by omega⟩ dX10_paste_37 (fun z_13 ez_13 rz_13 => ?_)
        have rz_13 : -1 ≤ z_13.toInt ∧ z_13.toInt ≤ 3 := rz_13
        have ez_13 : z_13 = G.1 wd v2.toNatClampNeg := ez_13.trans (hF.i h_wd (by decide) rfl _)
        refine lv_iconst (v := (-1)) hx hb dX10_paste_38 (by decide) ?_
        refine lv_icmp_ne (tgt := 45) hx hb dX10_paste_39 (by decide) (fun c_14 => ?_) (fun c_14 => ?_)
        · skip
          have tc_14 : ¬ z_13.toInt = -1 := fun h => c_14 ((fa_eq _ _).mpr h)
          refine lv_aload_n hx hb dX10_paste_45 rfl (lv_at hl 0 rfl) ?_
          refine t_getr cf_11 hx hb hts hown hK hT h_a (k := 1) (P := fun q => τ q = 51) rfl (fun _ h9 => h9) fl_X10_7 (fun _ h9 => h9) dX10_paste_46 (fun q_15 eq_15 hq_15 => ?_)
          have w_16 : wd = q_15 := Option.some.inj (e_wd.symm.trans ((hF.r h_a (by decide) rfl _).symm.trans eq_15))
          subst w_16
          refine lv_iload_n hx hb dX10_paste_49 rfl (lv_at hl 1 rfl) ?_
          refine t_iald (n := 4) (i := v0) rfl (by decide) hx hb hK hT h_wd (hT.len h_wd (by decide)) ⟨by omega, by omega⟩ dX10_paste_50 (fun z_17 ez_17 rz_17 => ?_)
          have w_18 : z_8 = z_17 := ez_8.trans (ez_17.trans (hF.i h_wd (by decide) rfl _)).symm
          subst w_18
          refine lv_aload_n hx hb dX10_paste_51 rfl (lv_at hl 0 rfl) ?_
          refine t_getr cf_11 hx hb hts hown hK hT h_a (k := 1) (P := fun q => τ q = 51) rfl (fun _ h9 => h9) fl_X10_7 (fun _ h9 => h9) dX10_paste_52 (fun q_19 eq_19 hq_19 => ?_)
          have w_20 : wd = q_19 := Option.some.inj (e_wd.symm.trans ((hF.r h_a (by decide) rfl _).symm.trans eq_19))
          subst w_20
          refine lv_iload_n hx hb dX10_paste_55 rfl (lv_at hl 3 rfl) ?_
          refine t_iald (n := 4) (i := v2) rfl (by decide) hx hb hK hT h_wd (hT.len h_wd (by decide)) ⟨by omega, by omega⟩ dX10_paste_56 (fun z_21 ez_21 rz_21 => ?_)
          have w_22 : z_13 = z_21 := ez_13.trans (ez_21.trans (hF.i h_wd (by decide) rfl _)).symm
          subst w_22
          refine lv_icmp_eq (tgt := 63) hx hb dX10_paste_57 (by decide) (fun c_23 => ?_) (fun c_23 => ?_)
          · skip
            have tc_23 : z_8.toInt = z_13.toInt := (fa_eq _ _).mp c_23
            refine lv_iload_n hx hb dX10_paste_63 rfl (lv_at hl 2 rfl) ?_
            refine lv_if_lt (tgt := 112) hx hb dX10_paste_64 (by decide) (fun c_24 => ?_) (fun c_24 => ?_)
            · skip
              have tc_24 : v1.toInt < 0 := (fa_lt _ _).mp c_24
              refine lv_bipush (v := (-7)) hx hb dX10_paste_112 (by decide) ?_
              have w_25 : (G.1 wd v0.toNatClampNeg).toInt = z_8.toInt := by rw [ez_8]
              have w_26 : (G.1 wd v2.toNatClampNeg).toInt = z_13.toInt := by rw [ez_13]
              exact ret_i hx hb hr hlocks ⟨⟨hS.1, hS.2.1⟩, G_1, hF, ⟨_, rfl, (Or.inr (Or.inr ⟨by omega, by omega, by omega, by omega, (fun h9 => by have h8 : _ = (-1 : Int) := congrArg Int32.toInt h9; omega), (fun h9 => by have h8 : _ = (-1 : Int) := congrArg Int32.toInt h9; omega), Or.inr (Or.inl ⟨rfl, ((fa_eq _ _).mpr (by omega)), fun h9 => by omega⟩)⟩))⟩, hT⟩ hS.2.2 (Nat.le_of_ble_eq_true rfl) (Nat.le_of_ble_eq_true rfl) dX10_paste_114
            · skip
              have tc_24 : ¬ v1.toInt < 0 := fun h => c_24 ((fa_lt _ _).mpr h)
              refine lv_iload hx hb dX10_paste_67 (lv_at hl 4 rfl) ?_
              refine lv_if_lt (tgt := 112) hx hb dX10_paste_69 (by decide) (fun c_27 => ?_) (fun c_27 => ?_)
              · skip
                have tc_27 : v3.toInt < 0 := (fa_lt _ _).mp c_27
                refine lv_bipush (v := (-7)) hx hb dX10_paste_112 (by decide) ?_
                have w_28 : (G.1 wd v0.toNatClampNeg).toInt = z_8.toInt := by rw [ez_8]
                have w_29 : (G.1 wd v2.toNatClampNeg).toInt = z_13.toInt := by rw [ez_13]
                exact ret_i hx hb hr hlocks ⟨⟨hS.1, hS.2.1⟩, G_1, hF, ⟨_, rfl, (Or.inr (Or.inr ⟨by omega, by omega, by omega, by omega, (fun h9 => by have h8 : _ = (-1 : Int) := congrArg Int32.toInt h9; omega), (fun h9 => by have h8 : _ = (-1 : Int) := congrArg Int32.toInt h9; omega), Or.inr (Or.inl ⟨rfl, ((fa_eq _ _).mpr (by omega)), fun h9 => by omega⟩)⟩))⟩, hT⟩ hS.2.2 (Nat.le_of_ble_eq_true rfl) (Nat.le_of_ble_eq_true rfl) dX10_paste_114
              · skip
                have tc_27 : ¬ v3.toInt < 0 := fun h => c_27 ((fa_lt _ _).mpr h)
                refine lv_iload hx hb dX10_paste_72 (lv_at hl 5 rfl) ?_
                refine lv_if_lt (tgt := 112) hx hb dX10_paste_74 (by decide) (fun c_30 => ?_) (fun c_30 => ?_)
                · skip
                  have tc_30 : v4.toInt < 0 := (fa_lt _ _).mp c_30
                  refine lv_bipush (v := (-7)) hx hb dX10_paste_112 (by decide) ?_
                  have w_31 : (G.1 wd v0.toNatClampNeg).toInt = z_8.toInt := by rw [ez_8]
                  have w_32 : (G.1 wd v2.toNatClampNeg).toInt = z_13.toInt := by rw [ez_13]
                  exact ret_i hx hb hr hlocks ⟨⟨hS.1, hS.2.1⟩, G_1, hF, ⟨_, rfl, (Or.inr (Or.inr ⟨by omega, by omega, by omega, by omega, (fun h9 => by have h8 : _ = (-1 : Int) := congrArg Int32.toInt h9; omega), (fun h9 => by have h8 : _ = (-1 : Int) := congrArg Int32.toInt h9; omega), Or.inr (Or.inl ⟨rfl, ((fa_eq _ _).mpr (by omega)), fun h9 => by omega⟩)⟩))⟩, hT⟩ hS.2.2 (Nat.le_of_ble_eq_true rfl) (Nat.le_of_ble_eq_true rfl) dX10_paste_114
                · skip
                  have tc_30 : ¬ v4.toInt < 0 := fun h => c_30 ((fa_lt _ _).mpr h)
                  refine lv_iload_n hx hb dX10_paste_77 rfl (lv_at hl 2 rfl) ?_
                  refine lv_i2l hx hb dX10_paste_78 rfl ?_
                  refine lv_topl (fun z_33 ez_33 => ?_)
                  have tz_33 : z_33.toInt = v1.toInt := by rw [ez_33]; exact wide_t v1
                  have bz_33 := max_t v1
                  refine lv_iload hx hb dX10_paste_79 (lv_at hl 5 rfl) ?_
                  refine lv_i2l hx hb dX10_paste_81 rfl ?_
                  refine lv_topl (fun z_34 ez_34 => ?_)
                  have tz_34 : z_34.toInt = v4.toInt := by rw [ez_34]; exact wide_t v4
                  have bz_34 := max_t v4
                  refine lv_ladd hx hb dX10_paste_82 ?_
                  refine lv_topl (fun z_35 ez_35 => ?_)
                  have tz_35 : z_35.toInt = z_33.toInt + z_34.toInt := add_t64 ez_35 (show -9223372036854775808 ≤ z_33.toInt + z_34.toInt by omega) (show z_33.toInt + z_34.toInt < 9223372036854775808 by omega)
                  refine lv_aload_n hx hb dX10_paste_83 rfl (lv_at hl 0 rfl) ?_
                  refine t_getr cf_11 hx hb hts hown hK hT h_a (k := 2) (P := fun q => τ q = 52) rfl (fun _ h9 => h9) fl_X10_13 (fun _ h9 => h9) dX10_paste_84 (fun q_36 eq_36 hq_36 => ?_)
                  have w_37 : mn = q_36 := Option.some.inj (e_mn.symm.trans ((hF.r h_a (by decide) rfl _).symm.trans eq_36))
                  subst w_37
                  refine lv_iload_n hx hb dX10_paste_87 rfl (lv_at hl 1 rfl) ?_
                  refine t_iald (n := 4) (i := v0) rfl (by decide) hx hb hK hT h_mn (hT.len h_mn (by decide)) ⟨by omega, by omega⟩ dX10_paste_88 (fun z_38 ez_38 rz_38 => ?_)
                  have rz_38 : 0 ≤ z_38.toInt ∧ z_38.toInt ≤ 60 := rz_38
                  have ez_38 : z_38 = G.1 mn v0.toNatClampNeg := ez_38.trans (hF.i h_mn (by decide) rfl _)
                  refine lv_i2l hx hb dX10_paste_89 rfl ?_
                  refine lv_topl (fun z_39 ez_39 => ?_)
                  have tz_39 : z_39.toInt = z_38.toInt := by rw [ez_39]; exact wide_t z_38
                  refine W.lcmp hx hb dX10_paste_90 ?_
                  refine lv_topi (fun z_40 ez_40 => ?_)
                  have tz_40 : (z_40.toInt < 0 ↔ z_35.toInt < z_39.toInt) ∧ (0 < z_40.toInt ↔ z_39.toInt < z_35.toInt) ∧ -1 ≤ z_40.toInt ∧ z_40.toInt ≤ 1 := cmp_t ez_40
                  refine lv_if_gt (tgt := 112) hx hb dX10_paste_91 (by decide) (fun c_41 => ?_) (fun c_41 => ?_)
                  · skip
                    have tc_41 : 0 < z_40.toInt := (fa_lt _ _).mp c_41
                    refine lv_bipush (v := (-7)) hx hb dX10_paste_112 (by decide) ?_
                    have w_42 : (G.1 wd v0.toNatClampNeg).toInt = z_8.toInt := by rw [ez_8]
                    have w_43 : (G.1 wd v2.toNatClampNeg).toInt = z_13.toInt := by rw [ez_13]
                    have w_44 : (G.1 mn v0.toNatClampNeg).toInt = z_38.toInt := by rw [ez_38]
                    exact ret_i hx hb hr hlocks ⟨⟨hS.1, hS.2.1⟩, G_1, hF, ⟨_, rfl, (Or.inr (Or.inr ⟨by omega, by omega, by omega, by omega, (fun h9 => by have h8 : _ = (-1 : Int) := congrArg Int32.toInt h9; omega), (fun h9 => by have h8 : _ = (-1 : Int) := congrArg Int32.toInt h9; omega), Or.inr (Or.inl ⟨rfl, ((fa_eq _ _).mpr (by omega)), fun h9 => by omega⟩)⟩))⟩, hT⟩ hS.2.2 (Nat.le_of_ble_eq_true rfl) (Nat.le_of_ble_eq_true rfl) dX10_paste_114
                  · skip
                    have tc_41 : ¬ 0 < z_40.toInt := fun h => c_41 ((fa_lt _ _).mpr h)
                    refine lv_iload hx hb dX10_paste_94 (lv_at hl 4 rfl) ?_
                    refine lv_i2l hx hb dX10_paste_96 rfl ?_
                    refine lv_topl (fun z_45 ez_45 => ?_)
                    have tz_45 : z_45.toInt = v3.toInt := by rw [ez_45]; exact wide_t v3
                    have bz_45 := max_t v3
                    refine lv_iload hx hb dX10_paste_97 (lv_at hl 5 rfl) ?_
                    refine lv_i2l hx hb dX10_paste_99 rfl ?_
                    refine lv_topl (fun z_46 ez_46 => ?_)
                    have tz_46 : z_46.toInt = v4.toInt := by rw [ez_46]; exact wide_t v4
                    have bz_46 := max_t v4
                    refine lv_ladd hx hb dX10_paste_100 ?_
                    refine lv_topl (fun z_47 ez_47 => ?_)
                    have tz_47 : z_47.toInt = z_45.toInt + z_46.toInt := add_t64 ez_47 (show -9223372036854775808 ≤ z_45.toInt + z_46.toInt by omega) (show z_45.toInt + z_46.toInt < 9223372036854775808 by omega)
                    refine lv_aload_n hx hb dX10_paste_101 rfl (lv_at hl 0 rfl) ?_
                    refine t_getr cf_11 hx hb hts hown hK hT h_a (k := 2) (P := fun q => τ q = 52) rfl (fun _ h9 => h9) fl_X10_13 (fun _ h9 => h9) dX10_paste_102 (fun q_48 eq_48 hq_48 => ?_)
                    have w_49 : mn = q_48 := Option.some.inj (e_mn.symm.trans ((hF.r h_a (by decide) rfl _).symm.trans eq_48))
                    subst w_49
                    refine lv_iload_n hx hb dX10_paste_105 rfl (lv_at hl 3 rfl) ?_
                    refine t_iald (n := 4) (i := v2) rfl (by decide) hx hb hK hT h_mn (hT.len h_mn (by decide)) ⟨by omega, by omega⟩ dX10_paste_106 (fun z_50 ez_50 rz_50 => ?_)
                    have rz_50 : 0 ≤ z_50.toInt ∧ z_50.toInt ≤ 60 := rz_50
                    have ez_50 : z_50 = G.1 mn v2.toNatClampNeg := ez_50.trans (hF.i h_mn (by decide) rfl _)
                    refine lv_i2l hx hb dX10_paste_107 rfl ?_
                    refine lv_topl (fun z_51 ez_51 => ?_)
                    have tz_51 : z_51.toInt = z_50.toInt := by rw [ez_51]; exact wide_t z_50
                    refine W.lcmp hx hb dX10_paste_108 ?_
                    refine lv_topi (fun z_52 ez_52 => ?_)
                    have tz_52 : (z_52.toInt < 0 ↔ z_47.toInt < z_51.toInt) ∧ (0 < z_52.toInt ↔ z_51.toInt < z_47.toInt) ∧ -1 ≤ z_52.toInt ∧ z_52.toInt ≤ 1 := cmp_t ez_52
                    refine lv_if_le (tgt := 115) hx hb dX10_paste_109 (by decide) (fun c_53 => ?_) (fun c_53 => ?_)
                    · skip
                      have tc_53 : z_52.toInt ≤ 0 := (fa_le _ _).mp c_53
                      have b_v1 : v1.toInt ≤ 60 := by omega
                      have b_v3 : v3.toInt ≤ 60 := by omega
                      have b_v4 : v4.toInt ≤ 60 := by omega
                      refine lv_iconst (v := 0) hx hb dX10_paste_115 (by decide) ?_
                      refine lv_istore (lv' := [(6, .int 0), (0, .ref a), (1, .int v0), (2, .int v1), (3, .int v2), (4, .int v3), (5, .int v4)]) hx hb dX10_paste_116 hl (by decide) rfl (fun ls hl => ?_)
                      refine W.loop (σ := Int32 × Gh) (fun w54 H locs ls => 0 ≤ w54.1.toInt ∧ w54.1.toInt ≤ 60 ∧ Fr τ [11, 53, 54] G w54.2 ∧ TY D cy base τ w54.2 H ∧ va_S (RA base) s.heap H locs ∧ lv_has ls 7 [(6, .int w54.1), (0, .ref a), (1, .int v0), (2, .int v1), (3, .int v2), (4, .int v3), (5, .int v4)]) (fun w54 => (60 - w54.1.toInt).toNat) ?_ ((0 : Int32), G_1) _ _ _ ⟨(by show 0 ≤ (0 : Int32).toInt; decide), (by show (0 : Int32).toInt ≤ 60; decide), hF, hT, hS, lv_sub hl [0, 1, 2, 3, 4, 5, 6] rfl⟩
                      intro w54 H locs ls hI ih54
                      obtain ⟨x54_6, G_54⟩ := w54
                      obtain ⟨i54_0, i54_1, hF, hT, hS, hl⟩ := hI
                      have i54_0 : 0 ≤ x54_6.toInt := i54_0
                      have i54_1 : x54_6.toInt ≤ 60 := i54_1
                      have hF : Fr τ [11, 53, 54] G G_54 := hF
                      have hT : TY D cy base τ G_54 H := hT
                      have hS : va_S (RA base) s.heap H locs := hS
                      have hl : lv_has ls 7 [(6, .int x54_6), (0, .ref a), (1, .int v0), (2, .int v1), (3, .int v2), (4, .int v3), (5, .int v4)] := hl
                      refine lv_iload hx hb dX10_paste_118 (lv_at hl 0 rfl) ?_
                      refine lv_iload hx hb dX10_paste_120 (lv_at hl 6 rfl) ?_
                      refine lv_icmp_ge (tgt := 152) hx hb dX10_paste_122 (by decide) (fun c_55 => ?_) (fun c_55 => ?_)
                      · skip
                        have tc_55 : v4.toInt ≤ x54_6.toInt := (fa_le _ _).mp c_55
                        refine lv_iconst (v := 0) hx hb dX10_paste_152 (by decide) ?_
                        refine lv_istore (lv' := [(6, .int 0), (0, .ref a), (1, .int v0), (2, .int v1), (3, .int v2), (4, .int v3), (5, .int v4)]) hx hb dX10_paste_153 hl (by decide) rfl (fun ls hl => ?_)
                        refine W.loop (σ := Int32 × Gh) (fun w56 H locs ls => 0 ≤ w56.1.toInt ∧ w56.1.toInt ≤ 60 ∧ Fr τ [11, 53, 54] G w56.2 ∧ TY D cy base τ w56.2 H ∧ va_S (RA base) s.heap H locs ∧ lv_has ls 7 [(6, .int w56.1), (0, .ref a), (1, .int v0), (2, .int v1), (3, .int v2), (4, .int v3), (5, .int v4)]) (fun w56 => (60 - w56.1.toInt).toNat) ?_ ((0 : Int32), G_54) _ _ _ ⟨(by show 0 ≤ (0 : Int32).toInt; decide), (by show (0 : Int32).toInt ≤ 60; decide), hF, hT, hS, lv_sub hl [0, 1, 2, 3, 4, 5, 6] rfl⟩
                        intro w56 H locs ls hI ih56
                        obtain ⟨x56_6, G_56⟩ := w56
                        obtain ⟨i56_0, i56_1, hF, hT, hS, hl⟩ := hI
                        have i56_0 : 0 ≤ x56_6.toInt := i56_0
                        have i56_1 : x56_6.toInt ≤ 60 := i56_1
                        have hF : Fr τ [11, 53, 54] G G_56 := hF
                        have hT : TY D cy base τ G_56 H := hT
                        have hS : va_S (RA base) s.heap H locs := hS
                        have hl : lv_has ls 7 [(6, .int x56_6), (0, .ref a), (1, .int v0), (2, .int v1), (3, .int v2), (4, .int v3), (5, .int v4)] := hl
                        refine lv_iload hx hb dX10_paste_155 (lv_at hl 0 rfl) ?_
                        refine lv_iload hx hb dX10_paste_157 (lv_at hl 6 rfl) ?_
                        refine lv_icmp_ge (tgt := 190) hx hb dX10_paste_159 (by decide) (fun c_57 => ?_) (fun c_57 => ?_)
                        · skip
                          have tc_57 : v4.toInt ≤ x56_6.toInt := (fa_le _ _).mp c_57
                          refine lv_iconst (v := 0) hx hb dX10_paste_190 (by decide) ?_
                          have w_58 : (G.1 wd v0.toNatClampNeg).toInt = z_8.toInt := by rw [ez_8]
                          have w_59 : (G.1 wd v2.toNatClampNeg).toInt = z_13.toInt := by rw [ez_13]
                          have w_60 : (G.1 mn v0.toNatClampNeg).toInt = z_38.toInt := by rw [ez_38]
                          have w_61 : (G.1 mn v2.toNatClampNeg).toInt = z_50.toInt := by rw [ez_50]
                          exact ret_i hx hb hr hlocks ⟨⟨hS.1, hS.2.1⟩, G_56, hF, ⟨_, rfl, (Or.inr (Or.inr ⟨by omega, by omega, by omega, by omega, (fun h9 => by have h8 : _ = (-1 : Int) := congrArg Int32.toInt h9; omega), (fun h9 => by have h8 : _ = (-1 : Int) := congrArg Int32.toInt h9; omega), Or.inr (Or.inr ⟨rfl, ((fa_eq _ _).mpr (by omega)), by omega, by omega, by omega, by omega, by omega⟩)⟩))⟩, hT⟩ hS.2.2 (Nat.le_of_ble_eq_true rfl) (Nat.le_of_ble_eq_true rfl) dX10_paste_191
                        · skip
                          have tc_57 : ¬ v4.toInt ≤ x56_6.toInt := fun h => c_57 ((fa_le _ _).mpr h)
                          refine lv_aload_n hx hb dX10_paste_162 rfl (lv_at hl 1 rfl) ?_
                          refine t_getr cf_11 hx hb hts hown hK hT h_a (k := 3) (P := fun q => τ q = 53) rfl (fun _ h9 => h9) fl_X10_16 (fun _ h9 => h9) dX10_paste_163 (fun q_62 eq_62 hq_62 => ?_)
                          have eq_62 := (hF.r h_a (by decide) rfl _).symm.trans eq_62
                          refine lv_bipush (v := 60) hx hb dX10_paste_166 (by decide) ?_
                          refine lv_iload_n hx hb dX10_paste_168 rfl (lv_at hl 4 rfl) ?_
                          refine lv_imul hx hb dX10_paste_169 ?_
                          refine lv_topi (fun z_63 ez_63 => ?_)
                          have tz_63 : z_63.toInt = 60 * v2.toInt := mul_t ez_63 (show -2147483648 ≤ 60 * v2.toInt by omega) (show 60 * v2.toInt < 2147483648 by omega)
                          refine lv_iload hx hb dX10_paste_170 (lv_at hl 5 rfl) ?_
                          refine lv_iadd hx hb dX10_paste_172 ?_
                          refine lv_topi (fun z_64 ez_64 => ?_)
                          have tz_64 : z_64.toInt = z_63.toInt + v3.toInt := add_t ez_64 (show -2147483648 ≤ z_63.toInt + v3.toInt by omega) (show z_63.toInt + v3.toInt < 2147483648 by omega)
                          refine lv_iload hx hb dX10_paste_173 (lv_at hl 0 rfl) ?_
                          refine lv_iadd hx hb dX10_paste_175 ?_
                          refine lv_topi (fun z_65 ez_65 => ?_)
                          have tz_65 : z_65.toInt = z_64.toInt + x56_6.toInt := add_t ez_65 (show -2147483648 ≤ z_64.toInt + x56_6.toInt by omega) (show z_64.toInt + x56_6.toInt < 2147483648 by omega)
                          refine lv_aload_n hx hb dX10_paste_176 rfl (lv_at hl 1 rfl) ?_
                          refine t_getr cf_11 hx hb hts hown hK hT h_a (k := 4) (P := fun q => τ q = 54) rfl (fun _ h9 => h9) fl_X10_20 (fun _ h9 => h9) dX10_paste_177 (fun q_66 eq_66 hq_66 => ?_)
                          have eq_66 := (hF.r h_a (by decide) rfl _).symm.trans eq_66
                          refine lv_iload hx hb dX10_paste_180 (lv_at hl 0 rfl) ?_
                          refine t_lald (n := 60) (i := x56_6) rfl (by decide) hx hb hK hT hq_66 (hT.len hq_66 (by decide)) ⟨by omega, by omega⟩ dX10_paste_182 (fun z_67 ez_67 => ?_)
                          refine t_last (n := 240) (i := z_65) (x := z_67) rfl (by decide) hx hb hK hT hS hq_62 (hT.len hq_62 (by decide)) ⟨by omega, by omega⟩ dX10_paste_183 (fun H locs G_68 eG_68 hT hS => ?_)
                          have hF := hF.wL eG_68 hq_62 rfl
                          obtain ⟨z_69, ez_69⟩ : ∃ y : Int32, y = x56_6 + 1 := ⟨_, rfl⟩
                          have tz_69 : z_69.toInt = x56_6.toInt + 1 := add_t ez_69 (show -2147483648 ≤ x56_6.toInt + 1 by omega) (show x56_6.toInt + 1 < 2147483648 by omega)
                          refine lv_iinc (v := z_69) (lv' := [(6, .int z_69), (0, .ref a), (1, .int v0), (2, .int v1), (3, .int v2), (4, .int v3), (5, .int v4)]) hx hb dX10_paste_184 hl (k := 0) rfl (by rw [ez_69]; rfl) (by decide) rfl (fun ls hl => ?_)
                          refine lv_goto (tgt := 155) hx hb dX10_paste_187 (by decide) ?_
                          exact ih56 (z_69, G_68) _ _ _ (by show (60 - z_69.toInt).toNat < (60 - x56_6.toInt).toNat; omega) ⟨(by show 0 ≤ z_69.toInt; omega), (by show z_69.toInt ≤ 60; omega), hF, hT, hS, lv_sub hl [0, 1, 2, 3, 4, 5, 6] rfl⟩
                      · skip
                        have tc_55 : ¬ v4.toInt ≤ x54_6.toInt := fun h => c_55 ((fa_le _ _).mpr h)
                        refine lv_aload_n hx hb dX10_paste_125 rfl (lv_at hl 1 rfl) ?_
                        refine t_getr cf_11 hx hb hts hown hK hT h_a (k := 4) (P := fun q => τ q = 54) rfl (fun _ h9 => h9) fl_X10_20 (fun _ h9 => h9) dX10_paste_126 (fun q_70 eq_70 hq_70 => ?_)
                        have eq_70 := (hF.r h_a (by decide) rfl _).symm.trans eq_70
                        refine lv_iload hx hb dX10_paste_129 (lv_at hl 0 rfl) ?_
                        refine lv_aload_n hx hb dX10_paste_131 rfl (lv_at hl 1 rfl) ?_
                        refine t_getr cf_11 hx hb hts hown hK hT h_a (k := 3) (P := fun q => τ q = 53) rfl (fun _ h9 => h9) fl_X10_16 (fun _ h9 => h9) dX10_paste_132 (fun q_71 eq_71 hq_71 => ?_)
                        have eq_71 := (hF.r h_a (by decide) rfl _).symm.trans eq_71
                        refine lv_bipush (v := 60) hx hb dX10_paste_135 (by decide) ?_
                        refine lv_iload_n hx hb dX10_paste_137 rfl (lv_at hl 2 rfl) ?_
                        refine lv_imul hx hb dX10_paste_138 ?_
                        refine lv_topi (fun z_72 ez_72 => ?_)
                        have tz_72 : z_72.toInt = 60 * v0.toInt := mul_t ez_72 (show -2147483648 ≤ 60 * v0.toInt by omega) (show 60 * v0.toInt < 2147483648 by omega)
                        refine lv_iload_n hx hb dX10_paste_139 rfl (lv_at hl 3 rfl) ?_
                        refine lv_iadd hx hb dX10_paste_140 ?_
                        refine lv_topi (fun z_73 ez_73 => ?_)
                        have tz_73 : z_73.toInt = z_72.toInt + v1.toInt := add_t ez_73 (show -2147483648 ≤ z_72.toInt + v1.toInt by omega) (show z_72.toInt + v1.toInt < 2147483648 by omega)
                        refine lv_iload hx hb dX10_paste_141 (lv_at hl 0 rfl) ?_
                        refine lv_iadd hx hb dX10_paste_143 ?_
                        refine lv_topi (fun z_74 ez_74 => ?_)
                        have tz_74 : z_74.toInt = z_73.toInt + x54_6.toInt := add_t ez_74 (show -2147483648 ≤ z_73.toInt + x54_6.toInt by omega) (show z_73.toInt + x54_6.toInt < 2147483648 by omega)
                        refine t_lald (n := 240) (i := z_74) rfl (by decide) hx hb hK hT hq_71 (hT.len hq_71 (by decide)) ⟨by omega, by omega⟩ dX10_paste_144 (fun z_75 ez_75 => ?_)
                        refine t_last (n := 60) (i := x54_6) (x := z_75) rfl (by decide) hx hb hK hT hS hq_70 (hT.len hq_70 (by decide)) ⟨by omega, by omega⟩ dX10_paste_145 (fun H locs G_76 eG_76 hT hS => ?_)
                        have hF := hF.wL eG_76 hq_70 rfl
                        obtain ⟨z_77, ez_77⟩ : ∃ y : Int32, y = x54_6 + 1 := ⟨_, rfl⟩
                        have tz_77 : z_77.toInt = x54_6.toInt + 1 := add_t ez_77 (show -2147483648 ≤ x54_6.toInt + 1 by omega) (show x54_6.toInt + 1 < 2147483648 by omega)
                        refine lv_iinc (v := z_77) (lv' := [(6, .int z_77), (0, .ref a), (1, .int v0), (2, .int v1), (3, .int v2), (4, .int v3), (5, .int v4)]) hx hb dX10_paste_146 hl (k := 0) rfl (by rw [ez_77]; rfl) (by decide) rfl (fun ls hl => ?_)
                        refine lv_goto (tgt := 118) hx hb dX10_paste_149 (by decide) ?_
                        exact ih54 (z_77, G_76) _ _ _ (by show (60 - z_77.toInt).toNat < (60 - x54_6.toInt).toNat; omega) ⟨(by show 0 ≤ z_77.toInt; omega), (by show z_77.toInt ≤ 60; omega), hF, hT, hS, lv_sub hl [0, 1, 2, 3, 4, 5, 6] rfl⟩
                    · skip
                      have tc_53 : ¬ z_52.toInt ≤ 0 := fun h => c_53 ((fa_le _ _).mpr h)
                      refine lv_bipush (v := (-7)) hx hb dX10_paste_112 (by decide) ?_
                      have w_78 : (G.1 wd v0.toNatClampNeg).toInt = z_8.toInt := by rw [ez_8]
                      have w_79 : (G.1 wd v2.toNatClampNeg).toInt = z_13.toInt := by rw [ez_13]
                      have w_80 : (G.1 mn v0.toNatClampNeg).toInt = z_38.toInt := by rw [ez_38]
                      have w_81 : (G.1 mn v2.toNatClampNeg).toInt = z_50.toInt := by rw [ez_50]
                      exact ret_i hx hb hr hlocks ⟨⟨hS.1, hS.2.1⟩, G_1, hF, ⟨_, rfl, (Or.inr (Or.inr ⟨by omega, by omega, by omega, by omega, (fun h9 => by have h8 : _ = (-1 : Int) := congrArg Int32.toInt h9; omega), (fun h9 => by have h8 : _ = (-1 : Int) := congrArg Int32.toInt h9; omega), Or.inr (Or.inl ⟨rfl, ((fa_eq _ _).mpr (by omega)), fun h9 => by omega⟩)⟩))⟩, hT⟩ hS.2.2 (Nat.le_of_ble_eq_true rfl) (Nat.le_of_ble_eq_true rfl) dX10_paste_114
          · skip
            have tc_23 : ¬ z_8.toInt = z_13.toInt := fun h => c_23 ((fa_eq _ _).mpr h)
            refine lv_bipush (v := (-8)) hx hb dX10_paste_60 (by decide) ?_
            have w_82 : (G.1 wd v0.toNatClampNeg).toInt = z_8.toInt := by rw [ez_8]
            have w_83 : (G.1 wd v2.toNatClampNeg).toInt = z_13.toInt := by rw [ez_13]
            exact ret_i hx hb hr hlocks ⟨⟨hS.1, hS.2.1⟩, G_1, hF, ⟨_, rfl, (Or.inr (Or.inr ⟨by omega, by omega, by omega, by omega, (fun h9 => by have h8 : _ = (-1 : Int) := congrArg Int32.toInt h9; omega), (fun h9 => by have h8 : _ = (-1 : Int) := congrArg Int32.toInt h9; omega), Or.inl ⟨rfl, fun h9 => by have h8 := congrArg Int32.toInt h9; omega⟩⟩))⟩, hT⟩ hS.2.2 (Nat.le_of_ble_eq_true rfl) (Nat.le_of_ble_eq_true rfl) dX10_paste_62
        · skip
          have tc_14 : z_13.toInt = -1 := (fa_eq _ _).mp c_14
          refine lv_bipush (v := (-6)) hx hb dX10_paste_42 (by decide) ?_
          have w_84 : (G.1 wd v0.toNatClampNeg).toInt = z_8.toInt := by rw [ez_8]
          have w_85 : (G.1 wd v2.toNatClampNeg).toInt = z_13.toInt := by rw [ez_13]
          exact ret_i hx hb hr hlocks ⟨⟨hS.1, hS.2.1⟩, G_1, hF, ⟨_, rfl, (Or.inr (Or.inl ⟨rfl, by omega, by omega, by omega, by omega, (Or.inr ((fa_eq _ _).mpr (by show _ = (-1 : Int); omega)))⟩))⟩, hT⟩ hS.2.2 (Nat.le_of_ble_eq_true rfl) (Nat.le_of_ble_eq_true rfl) dX10_paste_44
    · skip
      obtain ⟨er_4, hr_4_1_f0⟩ := hr_4_1
      have hr_4_1_f0 : (v2.toInt < 0 ∨ 3 < v2.toInt) := hr_4_1_f0
      subst er_4
      refine W.eq (g2 := F0 m 16 ls [.int 0]) rfl ?_
      refine lv_if_ne (tgt := 22) hx hb dX10_paste_16 (by decide) (fun c_86 => absurd rfl c_86) (fun _ => ?_)
      refine lv_bipush (v := (-2)) hx hb dX10_paste_19 (by decide) ?_
      exact ret_i hx hb hr hlocks ⟨⟨hS.1, hS.2.1⟩, G_1, hF, ⟨_, rfl, (Or.inl ⟨rfl, by omega⟩)⟩, hT⟩ hS.2.2 (Nat.le_of_ble_eq_true rfl) (Nat.le_of_ble_eq_true rfl) dX10_paste_21
  · skip
    obtain ⟨er_2, hr_2_1_f0⟩ := hr_2_1
    have hr_2_1_f0 : (v0.toInt < 0 ∨ 3 < v0.toInt) := hr_2_1_f0
    subst er_2
    refine W.eq (g2 := F0 m 9 ls [.int 0]) rfl ?_
    refine lv_if_eq (tgt := 19) hx hb dX10_paste_9 (by decide) (fun _ => ?_) (fun c_87 => absurd (by decide) c_87)
    refine lv_bipush (v := (-2)) hx hb dX10_paste_19 (by decide) ?_
    exact ret_i hx hb hr hlocks ⟨⟨hS.1, hS.2.1⟩, G_1, hF, ⟨_, rfl, (Or.inl ⟨rfl, by omega⟩)⟩, hT⟩ hS.2.2 (Nat.le_of_ble_eq_true rfl) (Nat.le_of_ble_eq_true rfl) dX10_paste_21
set_option maxHeartbeats 4000000 in
set_option maxRecDepth 100000 in
theorem t_X10_keep2 (l : Launch) (D : va_G) (cy : Nat → ClassId) (base : Nat) (τ : Nat → Nat) (G : Gh) (a : Nat) (h_a : τ a = 11) (v0 : Int32) (tha : Nat) (h_tha : τ tha = 68) (e_tha : G.2.2.1 a 18 = some tha) (sa : Nat) (h_sa : τ sa = 74) (e_sa : G.2.2.1 a 24 = some sa) (ik : Nat) (h_ik : τ ik = 78) (e_ik : G.2.2.1 a 28 = some ik) (hI : INV G tha sa) : MM l yX10_keep cX10_keep 2 (some .int) 3 0 0 D cy [.ref a, .int v0] (PT D cy base τ G) (QT D cy base τ G [11, 66, 67, 68, 69, 70, 71, 72, 73, 74, 76, 77, 78] (fun v g => ∃ r : Int32, v = some (.int r) ∧ ((INV g tha sa) ∧ ((r = -2 ∧ (v0.toInt < 0 ∨ 2 < v0.toInt) ∧ (∀ j : Nat, g.1 ik j = G.1 ik j)) ∨ (r = 0 ∧ 0 ≤ v0.toInt ∧ v0.toInt ≤ 2 ∧ g.1 ik v0.toNatClampNeg = 1 ∧ ∀ j : Nat, j ≠ v0.toNatClampNeg → g.1 ik j = G.1 ik j))))) (RA base) := by
  refine MM.of (by decide) (Nat.le_of_ble_eq_true rfl) ?_
  intro p e s m below meth c C hPT ls hl
  obtain ⟨hx, hb, hr, hml, hown, hts, hlocks, hK, hnm⟩ := C
  obtain ⟨hZ, hT⟩ := hPT
  have hS : va_S (RA base) s.heap s.heap [] := va_S.rf
  have hF : Fr τ [11, 66, 67, 68, 69, 70, 71, 72, 73, 74, 76, 77, 78] G G := Fr.rf
  have hl : lv_has ls 2 [(0, .ref a), (1, .int v0)] := hl
  refine lv_aload_n hx hb dX10_keep_0 rfl (lv_at hl 0 rfl) ?_
  refine lv_iconst (v := 0) hx hb dX10_keep_1 (by decide) ?_
  refine t_puti (x := 0) cf_11 hx hb hts hown hK hT hS h_a (k := 0) rfl trivial fl_X10_111 (fun _ h9 => h9) rfl rfl rfl dX10_keep_2 (fun H locs G_1 eG_1 hT hS => ?_)
  have hF := hF.wI eG_1 h_a rfl
  refine lv_iload_n hx hb dX10_keep_5 rfl (lv_at hl 1 rfl) ?_
  refine lv_i2l hx hb dX10_keep_6 rfl ?_
  refine lv_topl (fun z_2 ez_2 => ?_)
  have tz_2 : z_2.toInt = v0.toInt := by rw [ez_2]; exact wide_t v0
  have az_2 := min_t v0
  have bz_2 := max_t v0
  refine lv_lconst (v := 0) hx hb dX10_keep_7 (by decide) ?_
  refine lv_ldc2 (v := 2) hx hb hown (hts _ kl_X10_502) dX10_keep_8 ?_
  refine pu_calli (runS (As := [.long z_2, .long 0, .long 2]) (rest := []) ⟨hx, hb, hml, hown, hts⟩ (t_X10_in2 l D cy base τ G_1 z_2 0 2) sS_X10_116 hK ⟨Nat.le_trans hZ hS.1, hT⟩ ⟨Nat.le_of_ble_eq_true rfl, Nat.le_of_ble_eq_true rfl⟩ rfl hl.1 rfl (Nat.le_of_ble_eq_true rfl) dX10_keep_11 ⟨Nat.le_of_ble_eq_true rfl, Nat.le_of_ble_eq_true rfl⟩) (fun r_3 hr_3 => ?_)
  have hr_3_c := hr_3
  rcases hr_3_c with hr_3_0 | hr_3_1
  · skip
    obtain ⟨er_3, hr_3_0_f0, hr_3_0_f1⟩ := hr_3_0
    have hr_3_0_f0 : 0 ≤ z_2.toInt := hr_3_0_f0
    have hr_3_0_f1 : z_2.toInt ≤ 2 := hr_3_0_f1
    subst er_3
    refine W.eq (g2 := F0 m 14 ls [.int 1]) rfl ?_
    refine lv_if_ne (tgt := 20) hx hb dX10_keep_14 (by decide) (fun _ => ?_) (fun c_4 => absurd c_4 (by decide))
    refine lv_aload_n hx hb dX10_keep_20 rfl (lv_at hl 0 rfl) ?_
    refine lv_iconst (v := 0) hx hb dX10_keep_21 (by decide) ?_
    refine lv_iconst (v := 1) hx hb dX10_keep_22 (by decide) ?_
    refine lv_iload_n hx hb dX10_keep_23 rfl (lv_at hl 1 rfl) ?_
    refine lv_iadd hx hb dX10_keep_24 ?_
    refine lv_topi (fun z_5 ez_5 => ?_)
    have tz_5 : z_5.toInt = 1 + v0.toInt := add_t ez_5 (show -2147483648 ≤ 1 + v0.toInt by omega) (show 1 + v0.toInt < 2147483648 by omega)
    refine t_callv (runV (As := [.int 0, .int z_5]) (rest := []) ⟨hx, hb, hml, hown, hts⟩ (t_X10_copyAll l D cy base τ G_1 a h_a 0 (by decide) z_5 ⟨by omega, by omega⟩ tha h_tha ((hF.r h_a (by decide) rfl _).trans e_tha) sa h_sa ((hF.r h_a (by decide) rfl _).trans e_sa)) sV_X10_516 hK (t_recv cf_11 hK hT h_a) ⟨Nat.le_trans hZ hS.1, hT⟩ ⟨Nat.le_of_ble_eq_true rfl, Nat.le_of_ble_eq_true rfl⟩ rfl hl.1 rfl (Nat.le_of_ble_eq_true rfl) dX10_keep_25 ⟨Nat.le_of_ble_eq_true rfl, Nat.le_of_ble_eq_true rfl⟩) hS (fun G_6 H locs hF_6 hr_6 hT hS => ?_)
    have hF := hF.tr hF_6 rfl
    obtain ⟨hr_6_p0, hr_6_p1⟩ := hr_6
    have hr_6_p0 : ∀ j : Nat, G_6.1 tha j = if 1 * z_5.toInt.toNat ≤ j ∧ j < 1 * z_5.toInt.toNat + 1 then G_1.1 tha (1 * (0 : Int).toNat + (j - 1 * z_5.toInt.toNat)) else G_1.1 tha j := hr_6_p0
    have hr_6_p1 : ∀ j : Nat, G_6.1 sa j = if 6 * z_5.toInt.toNat ≤ j ∧ j < 6 * z_5.toInt.toNat + 6 then G_1.1 sa (6 * (0 : Int).toNat + (j - 6 * z_5.toInt.toNat)) else G_1.1 sa j := hr_6_p1
    refine lv_aload_n hx hb dX10_keep_28 rfl (lv_at hl 0 rfl) ?_
    refine t_getr cf_11 hx hb hts hown hK hT h_a (k := 28) (P := fun q => τ q = 78) rfl (fun _ h9 => h9) fl_X10_68 (fun _ h9 => h9) dX10_keep_29 (fun q_7 eq_7 hq_7 => ?_)
    have w_8 : ik = q_7 := Option.some.inj (e_ik.symm.trans ((hF.r h_a (by decide) rfl _).symm.trans eq_7))
    subst w_8
    refine lv_iload_n hx hb dX10_keep_32 rfl (lv_at hl 1 rfl) ?_
    refine lv_iconst (v := 1) hx hb dX10_keep_33 (by decide) ?_
    refine t_zast (n := 3) (i := v0) (x := 1) rfl (by decide) hx hb hK hT hS h_ik (hT.len h_ik (by decide)) ⟨by omega, by omega⟩ trivial dX10_keep_34 (fun H locs G_9 eG_9 hT hS => ?_)
    have hF := hF.wI eG_9 h_ik rfl
    refine lv_iconst (v := 0) hx hb dX10_keep_35 (by decide) ?_
    exact ret_i hx hb hr hlocks ⟨⟨hS.1, hS.2.1⟩, G_9, hF, ⟨_, rfl, ⟨(INV.same (INV.cp (INV.same hI (fun j => by rw [eG_1]; exact wI_ne (Or.inl (tag_ne h_a h_tha (by decide)))) (fun j => by rw [eG_1]; exact wI_ne (Or.inl (tag_ne h_a h_sa (by decide))))) (by omega) hr_6_p0 hr_6_p1) (fun j => by rw [eG_9]; exact wI_ne (Or.inl (tag_ne h_ik h_tha (by decide)))) (fun j => by rw [eG_9]; exact wI_ne (Or.inl (tag_ne h_ik h_sa (by decide))))), (Or.inr ⟨rfl, by omega, by omega, (by rw [eG_9, wI_at]; rfl), fun j hj => (by rw [eG_9, wI_ne (Or.inr hj)]; exact ((hF_6.i h_ik (by decide) rfl j).trans (show G_1.1 ik j = G.1 ik j from (by rw [eG_1]; exact wI_ne (Or.inl (tag_ne h_a h_ik (by decide)))))))⟩)⟩⟩, hT⟩ hS.2.2 (Nat.le_of_ble_eq_true rfl) (Nat.le_of_ble_eq_true rfl) dX10_keep_36
  · skip
    obtain ⟨er_3, hr_3_1_f0⟩ := hr_3_1
    have hr_3_1_f0 : (z_2.toInt < 0 ∨ 2 < z_2.toInt) := hr_3_1_f0
    subst er_3
    refine W.eq (g2 := F0 m 14 ls [.int 0]) rfl ?_
    refine lv_if_ne (tgt := 20) hx hb dX10_keep_14 (by decide) (fun c_10 => absurd rfl c_10) (fun _ => ?_)
    refine lv_bipush (v := (-2)) hx hb dX10_keep_17 (by decide) ?_
    exact ret_i hx hb hr hlocks ⟨⟨hS.1, hS.2.1⟩, G_1, hF, ⟨_, rfl, ⟨(INV.same hI (fun j => by rw [eG_1]; exact wI_ne (Or.inl (tag_ne h_a h_tha (by decide)))) (fun j => by rw [eG_1]; exact wI_ne (Or.inl (tag_ne h_a h_sa (by decide))))), (Or.inl ⟨rfl, by omega, fun j => (show G_1.1 ik j = G.1 ik j from (by rw [eG_1]; exact wI_ne (Or.inl (tag_ne h_a h_ik (by decide)))))⟩)⟩⟩, hT⟩ hS.2.2 (Nat.le_of_ble_eq_true rfl) (Nat.le_of_ble_eq_true rfl) dX10_keep_19
set_option maxHeartbeats 4000000 in
set_option maxRecDepth 100000 in
theorem t_X10_back2 (l : Launch) (D : va_G) (cy : Nat → ClassId) (base : Nat) (τ : Nat → Nat) (G : Gh) (a : Nat) (h_a : τ a = 11) (v0 : Int32) (tha : Nat) (h_tha : τ tha = 68) (e_tha : G.2.2.1 a 18 = some tha) (sa : Nat) (h_sa : τ sa = 74) (e_sa : G.2.2.1 a 24 = some sa) (ik : Nat) (h_ik : τ ik = 78) (e_ik : G.2.2.1 a 28 = some ik) (hI : INV G tha sa) : MM l yX10_back cX10_back 2 (some .int) 3 0 0 D cy [.ref a, .int v0] (PT D cy base τ G) (QT D cy base τ G [11, 66, 67, 68, 69, 70, 71, 72, 73, 74, 76, 77] (fun v g => ∃ r : Int32, v = some (.int r) ∧ ((INV g tha sa) ∧ ((r = -2 ∧ (v0.toInt < 0 ∨ 2 < v0.toInt)) ∨ (r = -6 ∧ 0 ≤ v0.toInt ∧ v0.toInt ≤ 2 ∧ G.1 ik v0.toNatClampNeg = 0) ∨ (r = 0 ∧ 0 ≤ v0.toInt ∧ v0.toInt ≤ 2 ∧ G.1 ik v0.toNatClampNeg ≠ 0))))) (RA base) := by
  refine MM.of (by decide) (Nat.le_of_ble_eq_true rfl) ?_
  intro p e s m below meth c C hPT ls hl
  obtain ⟨hx, hb, hr, hml, hown, hts, hlocks, hK, hnm⟩ := C
  obtain ⟨hZ, hT⟩ := hPT
  have hS : va_S (RA base) s.heap s.heap [] := va_S.rf
  have hF : Fr τ [11, 66, 67, 68, 69, 70, 71, 72, 73, 74, 76, 77] G G := Fr.rf
  have hl : lv_has ls 2 [(0, .ref a), (1, .int v0)] := hl
  refine lv_aload_n hx hb dX10_back_0 rfl (lv_at hl 0 rfl) ?_
  refine lv_iconst (v := 0) hx hb dX10_back_1 (by decide) ?_
  refine t_puti (x := 0) cf_11 hx hb hts hown hK hT hS h_a (k := 0) rfl trivial fl_X10_111 (fun _ h9 => h9) rfl rfl rfl dX10_back_2 (fun H locs G_1 eG_1 hT hS => ?_)
  have hF := hF.wI eG_1 h_a rfl
  refine lv_iload_n hx hb dX10_back_5 rfl (lv_at hl 1 rfl) ?_
  refine lv_i2l hx hb dX10_back_6 rfl ?_
  refine lv_topl (fun z_2 ez_2 => ?_)
  have tz_2 : z_2.toInt = v0.toInt := by rw [ez_2]; exact wide_t v0
  have az_2 := min_t v0
  have bz_2 := max_t v0
  refine lv_lconst (v := 0) hx hb dX10_back_7 (by decide) ?_
  refine lv_ldc2 (v := 2) hx hb hown (hts _ kl_X10_502) dX10_back_8 ?_
  refine pu_calli (runS (As := [.long z_2, .long 0, .long 2]) (rest := []) ⟨hx, hb, hml, hown, hts⟩ (t_X10_in2 l D cy base τ G_1 z_2 0 2) sS_X10_116 hK ⟨Nat.le_trans hZ hS.1, hT⟩ ⟨Nat.le_of_ble_eq_true rfl, Nat.le_of_ble_eq_true rfl⟩ rfl hl.1 rfl (Nat.le_of_ble_eq_true rfl) dX10_back_11 ⟨Nat.le_of_ble_eq_true rfl, Nat.le_of_ble_eq_true rfl⟩) (fun r_3 hr_3 => ?_)
  have hr_3_c := hr_3
  rcases hr_3_c with hr_3_0 | hr_3_1
  · skip
    obtain ⟨er_3, hr_3_0_f0, hr_3_0_f1⟩ := hr_3_0
    have hr_3_0_f0 : 0 ≤ z_2.toInt := hr_3_0_f0
    have hr_3_0_f1 : z_2.toInt ≤ 2 := hr_3_0_f1
    subst er_3
    refine W.eq (g2 := F0 m 14 ls [.int 1]) rfl ?_
    refine lv_if_ne (tgt := 20) hx hb dX10_back_14 (by decide) (fun _ => ?_) (fun c_4 => absurd c_4 (by decide))
    refine lv_aload_n hx hb dX10_back_20 rfl (lv_at hl 0 rfl) ?_
    refine t_getr cf_11 hx hb hts hown hK hT h_a (k := 28) (P := fun q => τ q = 78) rfl (fun _ h9 => h9) fl_X10_68 (fun _ h9 => h9) dX10_back_21 (fun q_5 eq_5 hq_5 => ?_)
    have w_6 : ik = q_5 := Option.some.inj (e_ik.symm.trans ((hF.r h_a (by decide) rfl _).symm.trans eq_5))
    subst w_6
    refine lv_iload_n hx hb dX10_back_24 rfl (lv_at hl 1 rfl) ?_
    refine t_zald (n := 3) (i := v0) rfl (by decide) hx hb hK hT h_ik (hT.len h_ik (by decide)) ⟨by omega, by omega⟩ dX10_back_25 (fun z_7 ez_7 rz_7 => ?_)
    have ez_7 : z_7 = G.1 ik v0.toNatClampNeg := ez_7.trans (hF.i h_ik (by decide) rfl _)
    refine lv_if_ne (tgt := 32) hx hb dX10_back_26 (by decide) (fun c_8 => ?_) (fun c_8 => ?_)
    · skip
      have tc_8 : ¬ z_7.toInt = 0 := fun h => c_8 ((fa_eq _ _).mpr h)
      refine lv_aload_n hx hb dX10_back_32 rfl (lv_at hl 0 rfl) ?_
      refine lv_iconst (v := 1) hx hb dX10_back_33 (by decide) ?_
      refine lv_iload_n hx hb dX10_back_34 rfl (lv_at hl 1 rfl) ?_
      refine lv_iadd hx hb dX10_back_35 ?_
      refine lv_topi (fun z_9 ez_9 => ?_)
      have tz_9 : z_9.toInt = 1 + v0.toInt := add_t ez_9 (show -2147483648 ≤ 1 + v0.toInt by omega) (show 1 + v0.toInt < 2147483648 by omega)
      refine lv_iconst (v := 0) hx hb dX10_back_36 (by decide) ?_
      refine t_callv (runV (As := [.int z_9, .int 0]) (rest := []) ⟨hx, hb, hml, hown, hts⟩ (t_X10_copyAll l D cy base τ G_1 a h_a z_9 ⟨by omega, by omega⟩ 0 (by decide) tha h_tha ((hF.r h_a (by decide) rfl _).trans e_tha) sa h_sa ((hF.r h_a (by decide) rfl _).trans e_sa)) sV_X10_516 hK (t_recv cf_11 hK hT h_a) ⟨Nat.le_trans hZ hS.1, hT⟩ ⟨Nat.le_of_ble_eq_true rfl, Nat.le_of_ble_eq_true rfl⟩ rfl hl.1 rfl (Nat.le_of_ble_eq_true rfl) dX10_back_37 ⟨Nat.le_of_ble_eq_true rfl, Nat.le_of_ble_eq_true rfl⟩) hS (fun G_10 H locs hF_10 hr_10 hT hS => ?_)
      have hF := hF.tr hF_10 rfl
      obtain ⟨hr_10_p0, hr_10_p1⟩ := hr_10
      have hr_10_p0 : ∀ j : Nat, G_10.1 tha j = if 1 * (0 : Int).toNat ≤ j ∧ j < 1 * (0 : Int).toNat + 1 then G_1.1 tha (1 * z_9.toInt.toNat + (j - 1 * (0 : Int).toNat)) else G_1.1 tha j := hr_10_p0
      have hr_10_p1 : ∀ j : Nat, G_10.1 sa j = if 6 * (0 : Int).toNat ≤ j ∧ j < 6 * (0 : Int).toNat + 6 then G_1.1 sa (6 * z_9.toInt.toNat + (j - 6 * (0 : Int).toNat)) else G_1.1 sa j := hr_10_p1
      refine lv_iconst (v := 0) hx hb dX10_back_40 (by decide) ?_
      have w_11 : (G.1 ik v0.toNatClampNeg).toInt = z_7.toInt := by rw [ez_7]
      exact ret_i hx hb hr hlocks ⟨⟨hS.1, hS.2.1⟩, G_10, hF, ⟨_, rfl, ⟨(INV.cp (INV.same hI (fun j => by rw [eG_1]; exact wI_ne (Or.inl (tag_ne h_a h_tha (by decide)))) (fun j => by rw [eG_1]; exact wI_ne (Or.inl (tag_ne h_a h_sa (by decide))))) (by omega) hr_10_p0 hr_10_p1), (Or.inr (Or.inr ⟨rfl, by omega, by omega, (fun h9 => by have h8 : _ = (0 : Int) := congrArg Int32.toInt h9; omega)⟩))⟩⟩, hT⟩ hS.2.2 (Nat.le_of_ble_eq_true rfl) (Nat.le_of_ble_eq_true rfl) dX10_back_41
    · skip
      have tc_8 : z_7.toInt = 0 := (fa_eq _ _).mp c_8
      refine lv_bipush (v := (-6)) hx hb dX10_back_29 (by decide) ?_
      have w_12 : (G.1 ik v0.toNatClampNeg).toInt = z_7.toInt := by rw [ez_7]
      exact ret_i hx hb hr hlocks ⟨⟨hS.1, hS.2.1⟩, G_1, hF, ⟨_, rfl, ⟨(INV.same hI (fun j => by rw [eG_1]; exact wI_ne (Or.inl (tag_ne h_a h_tha (by decide)))) (fun j => by rw [eG_1]; exact wI_ne (Or.inl (tag_ne h_a h_sa (by decide))))), (Or.inr (Or.inl ⟨rfl, by omega, by omega, ((fa_eq _ _).mpr (by show _ = (0 : Int); omega))⟩))⟩⟩, hT⟩ hS.2.2 (Nat.le_of_ble_eq_true rfl) (Nat.le_of_ble_eq_true rfl) dX10_back_31
  · skip
    obtain ⟨er_3, hr_3_1_f0⟩ := hr_3_1
    have hr_3_1_f0 : (z_2.toInt < 0 ∨ 2 < z_2.toInt) := hr_3_1_f0
    subst er_3
    refine W.eq (g2 := F0 m 14 ls [.int 0]) rfl ?_
    refine lv_if_ne (tgt := 20) hx hb dX10_back_14 (by decide) (fun c_13 => absurd rfl c_13) (fun _ => ?_)
    refine lv_bipush (v := (-2)) hx hb dX10_back_17 (by decide) ?_
    exact ret_i hx hb hr hlocks ⟨⟨hS.1, hS.2.1⟩, G_1, hF, ⟨_, rfl, ⟨(INV.same hI (fun j => by rw [eG_1]; exact wI_ne (Or.inl (tag_ne h_a h_tha (by decide)))) (fun j => by rw [eG_1]; exact wI_ne (Or.inl (tag_ne h_a h_sa (by decide))))), (Or.inl ⟨rfl, by omega⟩)⟩⟩, hT⟩ hS.2.2 (Nat.le_of_ble_eq_true rfl) (Nat.le_of_ble_eq_true rfl) dX10_back_19
