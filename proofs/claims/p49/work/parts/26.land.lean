theorem dX10_copyLand_0 : decode cX10_copyLand 0 = .ok (.aload_n 0, 1) := by decide +kernel
theorem dX10_copyLand_1 : decode cX10_copyLand 1 = .ok (.getfield 31, 3) := by decide +kernel
theorem dX10_copyLand_4 : decode cX10_copyLand 4 = .ok (.iconst 1, 1) := by decide +kernel
theorem dX10_copyLand_5 : decode cX10_copyLand 5 = .ok (.iload_n 1, 1) := by decide +kernel
theorem dX10_copyLand_6 : decode cX10_copyLand 6 = .ok (.iload_n 2, 1) := by decide +kernel
theorem dX10_copyLand_7 : decode cX10_copyLand 7 = .ok (.invokestatic 274, 3) := by decide +kernel
theorem dX10_copyLand_10 : decode cX10_copyLand 10 = .ok (.aload_n 0, 1) := by decide +kernel
theorem dX10_copyLand_11 : decode cX10_copyLand 11 = .ok (.getfield 34, 3) := by decide +kernel
theorem dX10_copyLand_14 : decode cX10_copyLand 14 = .ok (.iconst 4, 1) := by decide +kernel
theorem dX10_copyLand_15 : decode cX10_copyLand 15 = .ok (.iload_n 1, 1) := by decide +kernel
theorem dX10_copyLand_16 : decode cX10_copyLand 16 = .ok (.iload_n 2, 1) := by decide +kernel
theorem dX10_copyLand_17 : decode cX10_copyLand 17 = .ok (.invokestatic 274, 3) := by decide +kernel
theorem dX10_copyLand_20 : decode cX10_copyLand 20 = .ok (.aload_n 0, 1) := by decide +kernel
theorem dX10_copyLand_21 : decode cX10_copyLand 21 = .ok (.getfield 37, 3) := by decide +kernel
theorem dX10_copyLand_24 : decode cX10_copyLand 24 = .ok (.iconst 1, 1) := by decide +kernel
theorem dX10_copyLand_25 : decode cX10_copyLand 25 = .ok (.iload_n 1, 1) := by decide +kernel
theorem dX10_copyLand_26 : decode cX10_copyLand 26 = .ok (.iload_n 2, 1) := by decide +kernel
theorem dX10_copyLand_27 : decode cX10_copyLand 27 = .ok (.invokestatic 274, 3) := by decide +kernel
theorem dX10_copyLand_30 : decode cX10_copyLand 30 = .ok (.aload_n 0, 1) := by decide +kernel
theorem dX10_copyLand_31 : decode cX10_copyLand 31 = .ok (.getfield 40, 3) := by decide +kernel
theorem dX10_copyLand_34 : decode cX10_copyLand 34 = .ok (.bipush 9, 2) := by decide +kernel
theorem dX10_copyLand_36 : decode cX10_copyLand 36 = .ok (.iload_n 1, 1) := by decide +kernel
theorem dX10_copyLand_37 : decode cX10_copyLand 37 = .ok (.iload_n 2, 1) := by decide +kernel
theorem dX10_copyLand_38 : decode cX10_copyLand 38 = .ok (.invokestatic 274, 3) := by decide +kernel
theorem dX10_copyLand_41 : decode cX10_copyLand 41 = .ok (.aload_n 0, 1) := by decide +kernel
theorem dX10_copyLand_42 : decode cX10_copyLand 42 = .ok (.getfield 43, 3) := by decide +kernel
theorem dX10_copyLand_45 : decode cX10_copyLand 45 = .ok (.iconst 1, 1) := by decide +kernel
theorem dX10_copyLand_46 : decode cX10_copyLand 46 = .ok (.iload_n 1, 1) := by decide +kernel
theorem dX10_copyLand_47 : decode cX10_copyLand 47 = .ok (.iload_n 2, 1) := by decide +kernel
theorem dX10_copyLand_48 : decode cX10_copyLand 48 = .ok (.invokestatic 274, 3) := by decide +kernel
theorem dX10_copyLand_51 : decode cX10_copyLand 51 = .ok (.aload_n 0, 1) := by decide +kernel
theorem dX10_copyLand_52 : decode cX10_copyLand 52 = .ok (.getfield 46, 3) := by decide +kernel
theorem dX10_copyLand_55 : decode cX10_copyLand 55 = .ok (.bipush 30, 2) := by decide +kernel
theorem dX10_copyLand_57 : decode cX10_copyLand 57 = .ok (.iload_n 1, 1) := by decide +kernel
theorem dX10_copyLand_58 : decode cX10_copyLand 58 = .ok (.iload_n 2, 1) := by decide +kernel
theorem dX10_copyLand_59 : decode cX10_copyLand 59 = .ok (.invokestatic 274, 3) := by decide +kernel
theorem dX10_copyLand_62 : decode cX10_copyLand 62 = .ok (.aload_n 0, 1) := by decide +kernel
theorem dX10_copyLand_63 : decode cX10_copyLand 63 = .ok (.getfield 49, 3) := by decide +kernel
theorem dX10_copyLand_66 : decode cX10_copyLand 66 = .ok (.iconst 1, 1) := by decide +kernel
theorem dX10_copyLand_67 : decode cX10_copyLand 67 = .ok (.iload_n 1, 1) := by decide +kernel
theorem dX10_copyLand_68 : decode cX10_copyLand 68 = .ok (.iload_n 2, 1) := by decide +kernel
theorem dX10_copyLand_69 : decode cX10_copyLand 69 = .ok (.invokestatic 274, 3) := by decide +kernel
theorem dX10_copyLand_72 : decode cX10_copyLand 72 = .ok (.aload_n 0, 1) := by decide +kernel
theorem dX10_copyLand_73 : decode cX10_copyLand 73 = .ok (.getfield 52, 3) := by decide +kernel
theorem dX10_copyLand_76 : decode cX10_copyLand 76 = .ok (.bipush 24, 2) := by decide +kernel
theorem dX10_copyLand_78 : decode cX10_copyLand 78 = .ok (.iload_n 1, 1) := by decide +kernel
theorem dX10_copyLand_79 : decode cX10_copyLand 79 = .ok (.iload_n 2, 1) := by decide +kernel
theorem dX10_copyLand_80 : decode cX10_copyLand 80 = .ok (.invokestatic 274, 3) := by decide +kernel
theorem dX10_copyLand_83 : decode cX10_copyLand 83 = .ok (.aload_n 0, 1) := by decide +kernel
theorem dX10_copyLand_84 : decode cX10_copyLand 84 = .ok (.getfield 55, 3) := by decide +kernel
theorem dX10_copyLand_87 : decode cX10_copyLand 87 = .ok (.bipush 6, 2) := by decide +kernel
theorem dX10_copyLand_89 : decode cX10_copyLand 89 = .ok (.iload_n 1, 1) := by decide +kernel
theorem dX10_copyLand_90 : decode cX10_copyLand 90 = .ok (.iload_n 2, 1) := by decide +kernel
theorem dX10_copyLand_91 : decode cX10_copyLand 91 = .ok (.invokestatic 274, 3) := by decide +kernel
theorem dX10_copyLand_94 : decode cX10_copyLand 94 = .ok (.return_, 1) := by decide +kernel
theorem dX10_copyAll_0 : decode cX10_copyAll 0 = .ok (.aload_n 0, 1) := by decide +kernel
theorem dX10_copyAll_1 : decode cX10_copyAll 1 = .ok (.iload_n 1, 1) := by decide +kernel
theorem dX10_copyAll_2 : decode cX10_copyAll 2 = .ok (.iload_n 2, 1) := by decide +kernel
theorem dX10_copyAll_3 : decode cX10_copyAll 3 = .ok (.invokevirtual 270, 3) := by decide +kernel
theorem dX10_copyAll_6 : decode cX10_copyAll 6 = .ok (.aload_n 0, 1) := by decide +kernel
theorem dX10_copyAll_7 : decode cX10_copyAll 7 = .ok (.getfield 62, 3) := by decide +kernel
theorem dX10_copyAll_10 : decode cX10_copyAll 10 = .ok (.iconst 1, 1) := by decide +kernel
theorem dX10_copyAll_11 : decode cX10_copyAll 11 = .ok (.iload_n 1, 1) := by decide +kernel
theorem dX10_copyAll_12 : decode cX10_copyAll 12 = .ok (.iload_n 2, 1) := by decide +kernel
theorem dX10_copyAll_13 : decode cX10_copyAll 13 = .ok (.invokestatic 274, 3) := by decide +kernel
theorem dX10_copyAll_16 : decode cX10_copyAll 16 = .ok (.aload_n 0, 1) := by decide +kernel
theorem dX10_copyAll_17 : decode cX10_copyAll 17 = .ok (.getfield 65, 3) := by decide +kernel
theorem dX10_copyAll_20 : decode cX10_copyAll 20 = .ok (.bipush 6, 2) := by decide +kernel
theorem dX10_copyAll_22 : decode cX10_copyAll 22 = .ok (.iload_n 1, 1) := by decide +kernel
theorem dX10_copyAll_23 : decode cX10_copyAll 23 = .ok (.iload_n 2, 1) := by decide +kernel
theorem dX10_copyAll_24 : decode cX10_copyAll 24 = .ok (.invokestatic 274, 3) := by decide +kernel
theorem dX10_copyAll_27 : decode cX10_copyAll 27 = .ok (.return_, 1) := by decide +kernel
theorem sS_X10_274 : SiteS RX10 274 yX10_copyRow cX10_copyRow 5 none 4 := ⟨ml_X10_274, st_X10_copyRow, ini_X10, co_X10_copyRow, by decide +kernel⟩
theorem sV_X10_270 : SiteV RX10 270 yX10_copyLand cX10_copyLand 3 none 2 := ⟨ml_X10_270, im_X10_copyLand, se_X10_copyLand, ini_X10, co_X10_copyLand, by decide +kernel⟩
def INV (G : Gh) (tha sa : Nat) : Prop := ∀ b : Nat, b < 5 → 0 < (G.1 tha b).toInt → 1 ≤ (G.1 sa (6 * b + 1)).toInt
theorem INV.cp {G G' : Gh} {tha sa X Y : Nat} (h : INV G tha sa) (hX : X < 5) (h1 : ∀ j, G'.1 tha j = if 1 * Y ≤ j ∧ j < 1 * Y + 1 then G.1 tha (1 * X + (j - 1 * Y)) else G.1 tha j) (h2 : ∀ j, G'.1 sa j = if 6 * Y ≤ j ∧ j < 6 * Y + 6 then G.1 sa (6 * X + (j - 6 * Y)) else G.1 sa j) : INV G' tha sa := by
  intro b hb h0
  by_cases e : b = Y
  · subst e
    rw [h1 b, if_pos (by omega), show 1 * X + (b - 1 * b) = X by omega] at h0
    rw [h2, if_pos (by omega), show 6 * X + (6 * b + 1 - 6 * b) = 6 * X + 1 by omega]
    exact h X hX h0
  · rw [h1 b, if_neg (by omega)] at h0
    rw [h2, if_neg (by omega)]
    exact h b hb h0
theorem INV.same {G G' : Gh} {tha sa : Nat} (h : INV G tha sa) (h1 : ∀ j, G'.1 tha j = G.1 tha j) (h2 : ∀ j, G'.1 sa j = G.1 sa j) : INV G' tha sa := by
  intro b hb h0
  rw [h1] at h0
  rw [h2]
  exact h b hb h0
theorem INV.rd {G G' : Gh} {tha sa : Nat} (h : INV G tha sa) (h1 : ∀ j : Nat, j ≠ 4 → G'.1 tha j = G.1 tha j) (h2 : ∀ j : Nat, j < 24 → G'.1 sa j = G.1 sa j) (h3 : 1 ≤ (G'.1 sa 25).toInt) : INV G' tha sa := by
  intro b hb h0
  by_cases e : b = 4
  · subst e; exact h3
  · rw [h1 b e] at h0
    rw [h2 _ (by omega)]
    exact h b hb h0
set_option maxHeartbeats 4000000 in
set_option maxRecDepth 100000 in
theorem t_X10_copyLand (l : Launch) (D : va_G) (cy : Nat → ClassId) (base : Nat) (τ : Nat → Nat) (G : Gh) (a : Nat) (h_a : τ a = 11) (x : Int32) (r_x : 0 ≤ x.toInt ∧ x.toInt ≤ 4) (y : Int32) (r_y : 0 ≤ y.toInt ∧ y.toInt ≤ 4) (tha : Nat) (h_tha : τ tha = 68) (e_tha : G.2.2.1 a 18 = some tha) (sa : Nat) (h_sa : τ sa = 74) (e_sa : G.2.2.1 a 24 = some sa) : MM l yX10_copyLand cX10_copyLand 3 none 1 0 0 D cy [.ref a, .int x, .int y] (PT D cy base τ G) (QT D cy base τ G [66, 67, 68, 69, 70, 71, 72, 73, 74] (fun v g => v = none ∧ ((∀ j : Nat, g.1 tha j = if 1 * y.toInt.toNat ≤ j ∧ j < 1 * y.toInt.toNat + 1 then G.1 tha (1 * x.toInt.toNat + (j - 1 * y.toInt.toNat)) else G.1 tha j) ∧ (∀ j : Nat, g.1 sa j = if 6 * y.toInt.toNat ≤ j ∧ j < 6 * y.toInt.toNat + 6 then G.1 sa (6 * x.toInt.toNat + (j - 6 * y.toInt.toNat)) else G.1 sa j)))) (RA base) := by
  refine MM.of (by decide) (Nat.le_of_ble_eq_true rfl) ?_
  intro p e s m below meth c C hPT ls hl
  obtain ⟨hx, hb, hr, hml, hown, hts, hlocks, hK, hnm⟩ := C
  obtain ⟨hZ, hT⟩ := hPT
  have hS : va_S (RA base) s.heap s.heap [] := va_S.rf
  have hF : Fr τ [66, 67, 68, 69, 70, 71, 72, 73, 74] G G := Fr.rf
  have hl : lv_has ls 3 [(0, .ref a), (1, .int x), (2, .int y)] := hl
  refine lv_aload_n hx hb dX10_copyLand_0 rfl (lv_at hl 0 rfl) ?_
  refine t_getr cf_11 hx hb hts hown hK hT h_a (k := 16) (P := fun q => τ q = 66) rfl (fun _ h9 => h9) fl_X10_31 (fun _ h9 => h9) dX10_copyLand_1 (fun q_1 eq_1 hq_1 => ?_)
  refine lv_iconst (v := 1) hx hb dX10_copyLand_4 (by decide) ?_
  refine lv_iload_n hx hb dX10_copyLand_5 rfl (lv_at hl 1 rfl) ?_
  refine lv_iload_n hx hb dX10_copyLand_6 rfl (lv_at hl 2 rfl) ?_
  refine t_callv (runS (As := [.ref q_1, .int 1, .int x, .int y]) (rest := []) ⟨hx, hb, hml, hown, hts⟩ (t_X10_copyRow_66 l D cy base τ G q_1 hq_1 x ⟨by omega, by omega⟩ y ⟨by omega, by omega⟩) sS_X10_274 hK ⟨Nat.le_trans hZ hS.1, hT⟩ ⟨Nat.le_of_ble_eq_true rfl, Nat.le_of_ble_eq_true rfl⟩ rfl hl.1 rfl (Nat.le_of_ble_eq_true rfl) dX10_copyLand_7 ⟨Nat.le_of_ble_eq_true rfl, Nat.le_of_ble_eq_true rfl⟩) hS (fun G_2 H locs hF_2 hr_2 hT hS => ?_)
  have hF := hF.tr hF_2 rfl
  have hr_2_p0 := hr_2
  have hr_2_p0 : ∀ j : Nat, G_2.1 q_1 j = if 1 * y.toInt.toNat ≤ j ∧ j < 1 * y.toInt.toNat + 1 then G.1 q_1 (1 * x.toInt.toNat + (j - 1 * y.toInt.toNat)) else G.1 q_1 j := hr_2_p0
  refine lv_aload_n hx hb dX10_copyLand_10 rfl (lv_at hl 0 rfl) ?_
  refine t_getr cf_11 hx hb hts hown hK hT h_a (k := 17) (P := fun q => τ q = 67) rfl (fun _ h9 => h9) fl_X10_34 (fun _ h9 => h9) dX10_copyLand_11 (fun q_3 eq_3 hq_3 => ?_)
  have eq_3 := (hF.r h_a (by decide) rfl _).symm.trans eq_3
  refine lv_iconst (v := 4) hx hb dX10_copyLand_14 (by decide) ?_
  refine lv_iload_n hx hb dX10_copyLand_15 rfl (lv_at hl 1 rfl) ?_
  refine lv_iload_n hx hb dX10_copyLand_16 rfl (lv_at hl 2 rfl) ?_
  refine t_callv (runS (As := [.ref q_3, .int 4, .int x, .int y]) (rest := []) ⟨hx, hb, hml, hown, hts⟩ (t_X10_copyRow_67 l D cy base τ G_2 q_3 hq_3 x ⟨by omega, by omega⟩ y ⟨by omega, by omega⟩) sS_X10_274 hK ⟨Nat.le_trans hZ hS.1, hT⟩ ⟨Nat.le_of_ble_eq_true rfl, Nat.le_of_ble_eq_true rfl⟩ rfl hl.1 rfl (Nat.le_of_ble_eq_true rfl) dX10_copyLand_17 ⟨Nat.le_of_ble_eq_true rfl, Nat.le_of_ble_eq_true rfl⟩) hS (fun G_4 H locs hF_4 hr_4 hT hS => ?_)
  have hF := hF.tr hF_4 rfl
  have hr_4_p0 := hr_4
  have hr_4_p0 : ∀ j : Nat, G_4.1 q_3 j = if 4 * y.toInt.toNat ≤ j ∧ j < 4 * y.toInt.toNat + 4 then G_2.1 q_3 (4 * x.toInt.toNat + (j - 4 * y.toInt.toNat)) else G_2.1 q_3 j := hr_4_p0
  refine lv_aload_n hx hb dX10_copyLand_20 rfl (lv_at hl 0 rfl) ?_
  refine t_getr cf_11 hx hb hts hown hK hT h_a (k := 18) (P := fun q => τ q = 68) rfl (fun _ h9 => h9) fl_X10_37 (fun _ h9 => h9) dX10_copyLand_21 (fun q_5 eq_5 hq_5 => ?_)
  have w_6 : tha = q_5 := Option.some.inj (e_tha.symm.trans ((hF.r h_a (by decide) rfl _).symm.trans eq_5))
  subst w_6
  refine lv_iconst (v := 1) hx hb dX10_copyLand_24 (by decide) ?_
  refine lv_iload_n hx hb dX10_copyLand_25 rfl (lv_at hl 1 rfl) ?_
  refine lv_iload_n hx hb dX10_copyLand_26 rfl (lv_at hl 2 rfl) ?_
  refine t_callv (runS (As := [.ref tha, .int 1, .int x, .int y]) (rest := []) ⟨hx, hb, hml, hown, hts⟩ (t_X10_copyRow_68 l D cy base τ G_4 tha h_tha x ⟨by omega, by omega⟩ y ⟨by omega, by omega⟩) sS_X10_274 hK ⟨Nat.le_trans hZ hS.1, hT⟩ ⟨Nat.le_of_ble_eq_true rfl, Nat.le_of_ble_eq_true rfl⟩ rfl hl.1 rfl (Nat.le_of_ble_eq_true rfl) dX10_copyLand_27 ⟨Nat.le_of_ble_eq_true rfl, Nat.le_of_ble_eq_true rfl⟩) hS (fun G_7 H locs hF_7 hr_7 hT hS => ?_)
  have hF := hF.tr hF_7 rfl
  have hr_7_p0 := hr_7
  have hr_7_p0 : ∀ j : Nat, G_7.1 tha j = if 1 * y.toInt.toNat ≤ j ∧ j < 1 * y.toInt.toNat + 1 then G_4.1 tha (1 * x.toInt.toNat + (j - 1 * y.toInt.toNat)) else G_4.1 tha j := hr_7_p0
  refine lv_aload_n hx hb dX10_copyLand_30 rfl (lv_at hl 0 rfl) ?_
  refine t_getr cf_11 hx hb hts hown hK hT h_a (k := 19) (P := fun q => τ q = 69) rfl (fun _ h9 => h9) fl_X10_40 (fun _ h9 => h9) dX10_copyLand_31 (fun q_8 eq_8 hq_8 => ?_)
  have eq_8 := (hF.r h_a (by decide) rfl _).symm.trans eq_8
  refine lv_bipush (v := 9) hx hb dX10_copyLand_34 (by decide) ?_
  refine lv_iload_n hx hb dX10_copyLand_36 rfl (lv_at hl 1 rfl) ?_
  refine lv_iload_n hx hb dX10_copyLand_37 rfl (lv_at hl 2 rfl) ?_
  refine t_callv (runS (As := [.ref q_8, .int 9, .int x, .int y]) (rest := []) ⟨hx, hb, hml, hown, hts⟩ (t_X10_copyRow_69 l D cy base τ G_7 q_8 hq_8 x ⟨by omega, by omega⟩ y ⟨by omega, by omega⟩) sS_X10_274 hK ⟨Nat.le_trans hZ hS.1, hT⟩ ⟨Nat.le_of_ble_eq_true rfl, Nat.le_of_ble_eq_true rfl⟩ rfl hl.1 rfl (Nat.le_of_ble_eq_true rfl) dX10_copyLand_38 ⟨Nat.le_of_ble_eq_true rfl, Nat.le_of_ble_eq_true rfl⟩) hS (fun G_9 H locs hF_9 hr_9 hT hS => ?_)
  have hF := hF.tr hF_9 rfl
  have hr_9_p0 := hr_9
  have hr_9_p0 : ∀ j : Nat, G_9.1 q_8 j = if 9 * y.toInt.toNat ≤ j ∧ j < 9 * y.toInt.toNat + 9 then G_7.1 q_8 (9 * x.toInt.toNat + (j - 9 * y.toInt.toNat)) else G_7.1 q_8 j := hr_9_p0
  refine lv_aload_n hx hb dX10_copyLand_41 rfl (lv_at hl 0 rfl) ?_
  refine t_getr cf_11 hx hb hts hown hK hT h_a (k := 20) (P := fun q => τ q = 70) rfl (fun _ h9 => h9) fl_X10_43 (fun _ h9 => h9) dX10_copyLand_42 (fun q_10 eq_10 hq_10 => ?_)
  have eq_10 := (hF.r h_a (by decide) rfl _).symm.trans eq_10
  refine lv_iconst (v := 1) hx hb dX10_copyLand_45 (by decide) ?_
  refine lv_iload_n hx hb dX10_copyLand_46 rfl (lv_at hl 1 rfl) ?_
  refine lv_iload_n hx hb dX10_copyLand_47 rfl (lv_at hl 2 rfl) ?_
  refine t_callv (runS (As := [.ref q_10, .int 1, .int x, .int y]) (rest := []) ⟨hx, hb, hml, hown, hts⟩ (t_X10_copyRow_70 l D cy base τ G_9 q_10 hq_10 x ⟨by omega, by omega⟩ y ⟨by omega, by omega⟩) sS_X10_274 hK ⟨Nat.le_trans hZ hS.1, hT⟩ ⟨Nat.le_of_ble_eq_true rfl, Nat.le_of_ble_eq_true rfl⟩ rfl hl.1 rfl (Nat.le_of_ble_eq_true rfl) dX10_copyLand_48 ⟨Nat.le_of_ble_eq_true rfl, Nat.le_of_ble_eq_true rfl⟩) hS (fun G_11 H locs hF_11 hr_11 hT hS => ?_)
  have hF := hF.tr hF_11 rfl
  have hr_11_p0 := hr_11
  have hr_11_p0 : ∀ j : Nat, G_11.1 q_10 j = if 1 * y.toInt.toNat ≤ j ∧ j < 1 * y.toInt.toNat + 1 then G_9.1 q_10 (1 * x.toInt.toNat + (j - 1 * y.toInt.toNat)) else G_9.1 q_10 j := hr_11_p0
  refine lv_aload_n hx hb dX10_copyLand_51 rfl (lv_at hl 0 rfl) ?_
  refine t_getr cf_11 hx hb hts hown hK hT h_a (k := 21) (P := fun q => τ q = 71) rfl (fun _ h9 => h9) fl_X10_46 (fun _ h9 => h9) dX10_copyLand_52 (fun q_12 eq_12 hq_12 => ?_)
  have eq_12 := (hF.r h_a (by decide) rfl _).symm.trans eq_12
  refine lv_bipush (v := 30) hx hb dX10_copyLand_55 (by decide) ?_
  refine lv_iload_n hx hb dX10_copyLand_57 rfl (lv_at hl 1 rfl) ?_
  refine lv_iload_n hx hb dX10_copyLand_58 rfl (lv_at hl 2 rfl) ?_
  refine t_callv (runS (As := [.ref q_12, .int 30, .int x, .int y]) (rest := []) ⟨hx, hb, hml, hown, hts⟩ (t_X10_copyRow_71 l D cy base τ G_11 q_12 hq_12 x ⟨by omega, by omega⟩ y ⟨by omega, by omega⟩) sS_X10_274 hK ⟨Nat.le_trans hZ hS.1, hT⟩ ⟨Nat.le_of_ble_eq_true rfl, Nat.le_of_ble_eq_true rfl⟩ rfl hl.1 rfl (Nat.le_of_ble_eq_true rfl) dX10_copyLand_59 ⟨Nat.le_of_ble_eq_true rfl, Nat.le_of_ble_eq_true rfl⟩) hS (fun G_13 H locs hF_13 hr_13 hT hS => ?_)
  have hF := hF.tr hF_13 rfl
  have hr_13_p0 := hr_13
  have hr_13_p0 : ∀ j : Nat, G_13.1 q_12 j = if 30 * y.toInt.toNat ≤ j ∧ j < 30 * y.toInt.toNat + 30 then G_11.1 q_12 (30 * x.toInt.toNat + (j - 30 * y.toInt.toNat)) else G_11.1 q_12 j := hr_13_p0
  refine lv_aload_n hx hb dX10_copyLand_62 rfl (lv_at hl 0 rfl) ?_
  refine t_getr cf_11 hx hb hts hown hK hT h_a (k := 22) (P := fun q => τ q = 72) rfl (fun _ h9 => h9) fl_X10_49 (fun _ h9 => h9) dX10_copyLand_63 (fun q_14 eq_14 hq_14 => ?_)
  have eq_14 := (hF.r h_a (by decide) rfl _).symm.trans eq_14
  refine lv_iconst (v := 1) hx hb dX10_copyLand_66 (by decide) ?_
  refine lv_iload_n hx hb dX10_copyLand_67 rfl (lv_at hl 1 rfl) ?_
  refine lv_iload_n hx hb dX10_copyLand_68 rfl (lv_at hl 2 rfl) ?_
  refine t_callv (runS (As := [.ref q_14, .int 1, .int x, .int y]) (rest := []) ⟨hx, hb, hml, hown, hts⟩ (t_X10_copyRow_72 l D cy base τ G_13 q_14 hq_14 x ⟨by omega, by omega⟩ y ⟨by omega, by omega⟩) sS_X10_274 hK ⟨Nat.le_trans hZ hS.1, hT⟩ ⟨Nat.le_of_ble_eq_true rfl, Nat.le_of_ble_eq_true rfl⟩ rfl hl.1 rfl (Nat.le_of_ble_eq_true rfl) dX10_copyLand_69 ⟨Nat.le_of_ble_eq_true rfl, Nat.le_of_ble_eq_true rfl⟩) hS (fun G_15 H locs hF_15 hr_15 hT hS => ?_)
  have hF := hF.tr hF_15 rfl
  have hr_15_p0 := hr_15
  have hr_15_p0 : ∀ j : Nat, G_15.1 q_14 j = if 1 * y.toInt.toNat ≤ j ∧ j < 1 * y.toInt.toNat + 1 then G_13.1 q_14 (1 * x.toInt.toNat + (j - 1 * y.toInt.toNat)) else G_13.1 q_14 j := hr_15_p0
  refine lv_aload_n hx hb dX10_copyLand_72 rfl (lv_at hl 0 rfl) ?_
  refine t_getr cf_11 hx hb hts hown hK hT h_a (k := 23) (P := fun q => τ q = 73) rfl (fun _ h9 => h9) fl_X10_52 (fun _ h9 => h9) dX10_copyLand_73 (fun q_16 eq_16 hq_16 => ?_)
  have eq_16 := (hF.r h_a (by decide) rfl _).symm.trans eq_16
  refine lv_bipush (v := 24) hx hb dX10_copyLand_76 (by decide) ?_
  refine lv_iload_n hx hb dX10_copyLand_78 rfl (lv_at hl 1 rfl) ?_
  refine lv_iload_n hx hb dX10_copyLand_79 rfl (lv_at hl 2 rfl) ?_
  refine t_callv (runS (As := [.ref q_16, .int 24, .int x, .int y]) (rest := []) ⟨hx, hb, hml, hown, hts⟩ (t_X10_copyRow_73 l D cy base τ G_15 q_16 hq_16 x ⟨by omega, by omega⟩ y ⟨by omega, by omega⟩) sS_X10_274 hK ⟨Nat.le_trans hZ hS.1, hT⟩ ⟨Nat.le_of_ble_eq_true rfl, Nat.le_of_ble_eq_true rfl⟩ rfl hl.1 rfl (Nat.le_of_ble_eq_true rfl) dX10_copyLand_80 ⟨Nat.le_of_ble_eq_true rfl, Nat.le_of_ble_eq_true rfl⟩) hS (fun G_17 H locs hF_17 hr_17 hT hS => ?_)
  have hF := hF.tr hF_17 rfl
  have hr_17_p0 := hr_17
  have hr_17_p0 : ∀ j : Nat, G_17.1 q_16 j = if 24 * y.toInt.toNat ≤ j ∧ j < 24 * y.toInt.toNat + 24 then G_15.1 q_16 (24 * x.toInt.toNat + (j - 24 * y.toInt.toNat)) else G_15.1 q_16 j := hr_17_p0
  refine lv_aload_n hx hb dX10_copyLand_83 rfl (lv_at hl 0 rfl) ?_
  refine t_getr cf_11 hx hb hts hown hK hT h_a (k := 24) (P := fun q => τ q = 74) rfl (fun _ h9 => h9) fl_X10_55 (fun _ h9 => h9) dX10_copyLand_84 (fun q_18 eq_18 hq_18 => ?_)
  have w_19 : sa = q_18 := Option.some.inj (e_sa.symm.trans ((hF.r h_a (by decide) rfl _).symm.trans eq_18))
  subst w_19
  refine lv_bipush (v := 6) hx hb dX10_copyLand_87 (by decide) ?_
  refine lv_iload_n hx hb dX10_copyLand_89 rfl (lv_at hl 1 rfl) ?_
  refine lv_iload_n hx hb dX10_copyLand_90 rfl (lv_at hl 2 rfl) ?_
  refine t_callv (runS (As := [.ref sa, .int 6, .int x, .int y]) (rest := []) ⟨hx, hb, hml, hown, hts⟩ (t_X10_copyRow_74 l D cy base τ G_17 sa h_sa x ⟨by omega, by omega⟩ y ⟨by omega, by omega⟩) sS_X10_274 hK ⟨Nat.le_trans hZ hS.1, hT⟩ ⟨Nat.le_of_ble_eq_true rfl, Nat.le_of_ble_eq_true rfl⟩ rfl hl.1 rfl (Nat.le_of_ble_eq_true rfl) dX10_copyLand_91 ⟨Nat.le_of_ble_eq_true rfl, Nat.le_of_ble_eq_true rfl⟩) hS (fun G_20 H locs hF_20 hr_20 hT hS => ?_)
  have hF := hF.tr hF_20 rfl
  have hr_20_p0 := hr_20
  have hr_20_p0 : ∀ j : Nat, G_20.1 sa j = if 6 * y.toInt.toNat ≤ j ∧ j < 6 * y.toInt.toNat + 6 then G_17.1 sa (6 * x.toInt.toNat + (j - 6 * y.toInt.toNat)) else G_17.1 sa j := hr_20_p0
  exact ret_v hx hb hr hlocks ⟨⟨hS.1, hS.2.1⟩, G_20, hF, ⟨rfl, ⟨(fun j => by rw [show G_20.1 tha j = G_7.1 tha j from ((hF_20.i h_tha (by decide) rfl j).trans ((hF_17.i h_tha (by decide) rfl j).trans ((hF_15.i h_tha (by decide) rfl j).trans ((hF_13.i h_tha (by decide) rfl j).trans ((hF_11.i h_tha (by decide) rfl j).trans (hF_9.i h_tha (by decide) rfl j)))))), hr_7_p0 j]; have e1 : ∀ j, G_4.1 tha j = G.1 tha j := fun j => ((hF_4.i h_tha (by decide) rfl j).trans (hF_2.i h_tha (by decide) rfl j)); simp only [e1]), (fun j => by rw [show G_20.1 sa j = G_20.1 sa j from rfl, hr_20_p0 j]; have e1 : ∀ j, G_17.1 sa j = G.1 sa j := fun j => ((hF_17.i h_sa (by decide) rfl j).trans ((hF_15.i h_sa (by decide) rfl j).trans ((hF_13.i h_sa (by decide) rfl j).trans ((hF_11.i h_sa (by decide) rfl j).trans ((hF_9.i h_sa (by decide) rfl j).trans ((hF_7.i h_sa (by decide) rfl j).trans ((hF_4.i h_sa (by decide) rfl j).trans (hF_2.i h_sa (by decide) rfl j)))))))); simp only [e1])⟩⟩, hT⟩ hS.2.2 (Nat.le_of_ble_eq_true rfl) (Nat.le_of_ble_eq_true rfl) dX10_copyLand_94
set_option maxHeartbeats 4000000 in
set_option maxRecDepth 100000 in
theorem t_X10_copyAll (l : Launch) (D : va_G) (cy : Nat → ClassId) (base : Nat) (τ : Nat → Nat) (G : Gh) (a : Nat) (h_a : τ a = 11) (x : Int32) (r_x : 0 ≤ x.toInt ∧ x.toInt ≤ 4) (y : Int32) (r_y : 0 ≤ y.toInt ∧ y.toInt ≤ 4) (tha : Nat) (h_tha : τ tha = 68) (e_tha : G.2.2.1 a 18 = some tha) (sa : Nat) (h_sa : τ sa = 74) (e_sa : G.2.2.1 a 24 = some sa) : MM l yX10_copyAll cX10_copyAll 3 none 2 0 0 D cy [.ref a, .int x, .int y] (PT D cy base τ G) (QT D cy base τ G [66, 67, 68, 69, 70, 71, 72, 73, 74, 76, 77] (fun v g => v = none ∧ ((∀ j : Nat, g.1 tha j = if 1 * y.toInt.toNat ≤ j ∧ j < 1 * y.toInt.toNat + 1 then G.1 tha (1 * x.toInt.toNat + (j - 1 * y.toInt.toNat)) else G.1 tha j) ∧ (∀ j : Nat, g.1 sa j = if 6 * y.toInt.toNat ≤ j ∧ j < 6 * y.toInt.toNat + 6 then G.1 sa (6 * x.toInt.toNat + (j - 6 * y.toInt.toNat)) else G.1 sa j)))) (RA base) := by
  refine MM.of (by decide) (Nat.le_of_ble_eq_true rfl) ?_
  intro p e s m below meth c C hPT ls hl
  obtain ⟨hx, hb, hr, hml, hown, hts, hlocks, hK, hnm⟩ := C
  obtain ⟨hZ, hT⟩ := hPT
  have hS : va_S (RA base) s.heap s.heap [] := va_S.rf
  have hF : Fr τ [66, 67, 68, 69, 70, 71, 72, 73, 74, 76, 77] G G := Fr.rf
  have hl : lv_has ls 3 [(0, .ref a), (1, .int x), (2, .int y)] := hl
  refine lv_aload_n hx hb dX10_copyAll_0 rfl (lv_at hl 0 rfl) ?_
  refine lv_iload_n hx hb dX10_copyAll_1 rfl (lv_at hl 1 rfl) ?_
  refine lv_iload_n hx hb dX10_copyAll_2 rfl (lv_at hl 2 rfl) ?_
  refine t_callv (runV (As := [.int x, .int y]) (rest := []) ⟨hx, hb, hml, hown, hts⟩ (t_X10_copyLand l D cy base τ G a h_a x ⟨by omega, by omega⟩ y ⟨by omega, by omega⟩ tha h_tha e_tha sa h_sa e_sa) sV_X10_270 hK (t_recv cf_11 hK hT h_a) ⟨Nat.le_trans hZ hS.1, hT⟩ ⟨Nat.le_of_ble_eq_true rfl, Nat.le_of_ble_eq_true rfl⟩ rfl hl.1 rfl (Nat.le_of_ble_eq_true rfl) dX10_copyAll_3 ⟨Nat.le_of_ble_eq_true rfl, Nat.le_of_ble_eq_true rfl⟩) hS (fun G_1 H locs hF_1 hr_1 hT hS => ?_)
  have hF := hF.tr hF_1 rfl
  obtain ⟨hr_1_p0, hr_1_p1⟩ := hr_1
  have hr_1_p0 : ∀ j : Nat, G_1.1 tha j = if 1 * y.toInt.toNat ≤ j ∧ j < 1 * y.toInt.toNat + 1 then G.1 tha (1 * x.toInt.toNat + (j - 1 * y.toInt.toNat)) else G.1 tha j := hr_1_p0
  have hr_1_p1 : ∀ j : Nat, G_1.1 sa j = if 6 * y.toInt.toNat ≤ j ∧ j < 6 * y.toInt.toNat + 6 then G.1 sa (6 * x.toInt.toNat + (j - 6 * y.toInt.toNat)) else G.1 sa j := hr_1_p1
  refine lv_aload_n hx hb dX10_copyAll_6 rfl (lv_at hl 0 rfl) ?_
  refine t_getr cf_11 hx hb hts hown hK hT h_a (k := 26) (P := fun q => τ q = 76) rfl (fun _ h9 => h9) fl_X10_62 (fun _ h9 => h9) dX10_copyAll_7 (fun q_2 eq_2 hq_2 => ?_)
  have eq_2 := (hF.r h_a (by decide) rfl _).symm.trans eq_2
  refine lv_iconst (v := 1) hx hb dX10_copyAll_10 (by decide) ?_
  refine lv_iload_n hx hb dX10_copyAll_11 rfl (lv_at hl 1 rfl) ?_
  refine lv_iload_n hx hb dX10_copyAll_12 rfl (lv_at hl 2 rfl) ?_
  refine t_callv (runS (As := [.ref q_2, .int 1, .int x, .int y]) (rest := []) ⟨hx, hb, hml, hown, hts⟩ (t_X10_copyRow_76 l D cy base τ G_1 q_2 hq_2 x ⟨by omega, by omega⟩ y ⟨by omega, by omega⟩) sS_X10_274 hK ⟨Nat.le_trans hZ hS.1, hT⟩ ⟨Nat.le_of_ble_eq_true rfl, Nat.le_of_ble_eq_true rfl⟩ rfl hl.1 rfl (Nat.le_of_ble_eq_true rfl) dX10_copyAll_13 ⟨Nat.le_of_ble_eq_true rfl, Nat.le_of_ble_eq_true rfl⟩) hS (fun G_3 H locs hF_3 hr_3 hT hS => ?_)
  have hF := hF.tr hF_3 rfl
  have hr_3_p0 := hr_3
  have hr_3_p0 : ∀ j : Nat, G_3.1 q_2 j = if 1 * y.toInt.toNat ≤ j ∧ j < 1 * y.toInt.toNat + 1 then G_1.1 q_2 (1 * x.toInt.toNat + (j - 1 * y.toInt.toNat)) else G_1.1 q_2 j := hr_3_p0
  refine lv_aload_n hx hb dX10_copyAll_16 rfl (lv_at hl 0 rfl) ?_
  refine t_getr cf_11 hx hb hts hown hK hT h_a (k := 27) (P := fun q => τ q = 77) rfl (fun _ h9 => h9) fl_X10_65 (fun _ h9 => h9) dX10_copyAll_17 (fun q_4 eq_4 hq_4 => ?_)
  have eq_4 := (hF.r h_a (by decide) rfl _).symm.trans eq_4
  refine lv_bipush (v := 6) hx hb dX10_copyAll_20 (by decide) ?_
  refine lv_iload_n hx hb dX10_copyAll_22 rfl (lv_at hl 1 rfl) ?_
  refine lv_iload_n hx hb dX10_copyAll_23 rfl (lv_at hl 2 rfl) ?_
  refine t_callv (runS (As := [.ref q_4, .int 6, .int x, .int y]) (rest := []) ⟨hx, hb, hml, hown, hts⟩ (t_X10_copyRow_77 l D cy base τ G_3 q_4 hq_4 x ⟨by omega, by omega⟩ y ⟨by omega, by omega⟩) sS_X10_274 hK ⟨Nat.le_trans hZ hS.1, hT⟩ ⟨Nat.le_of_ble_eq_true rfl, Nat.le_of_ble_eq_true rfl⟩ rfl hl.1 rfl (Nat.le_of_ble_eq_true rfl) dX10_copyAll_24 ⟨Nat.le_of_ble_eq_true rfl, Nat.le_of_ble_eq_true rfl⟩) hS (fun G_5 H locs hF_5 hr_5 hT hS => ?_)
  have hF := hF.tr hF_5 rfl
  have hr_5_p0 := hr_5
  have hr_5_p0 : ∀ j : Nat, G_5.1 q_4 j = if 6 * y.toInt.toNat ≤ j ∧ j < 6 * y.toInt.toNat + 6 then G_3.1 q_4 (6 * x.toInt.toNat + (j - 6 * y.toInt.toNat)) else G_3.1 q_4 j := hr_5_p0
  exact ret_v hx hb hr hlocks ⟨⟨hS.1, hS.2.1⟩, G_5, hF, ⟨rfl, ⟨(fun j => by rw [show G_5.1 tha j = G_1.1 tha j from ((hF_5.i h_tha (by decide) rfl j).trans (hF_3.i h_tha (by decide) rfl j)), hr_1_p0 j]; have e1 : ∀ j, G.1 tha j = G.1 tha j := fun j => rfl; simp only [e1]), (fun j => by rw [show G_5.1 sa j = G_1.1 sa j from ((hF_5.i h_sa (by decide) rfl j).trans (hF_3.i h_sa (by decide) rfl j)), hr_1_p1 j]; have e1 : ∀ j, G.1 sa j = G.1 sa j := fun j => rfl; simp only [e1])⟩⟩, hT⟩ hS.2.2 (Nat.le_of_ble_eq_true rfl) (Nat.le_of_ble_eq_true rfl) dX10_copyAll_27
