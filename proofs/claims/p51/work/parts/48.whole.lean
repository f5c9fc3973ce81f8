theorem dL_law_0 : decode cL_law 0 = .ok (.new 7, 3) := by decide +kernel
theorem dL_law_3 : decode cL_law 3 = .ok (.dup, 1) := by decide +kernel
theorem dL_law_4 : decode cL_law 4 = .ok (.invokespecial 9, 3) := by decide +kernel
theorem dL_law_7 : decode cL_law 7 = .ok (.astore_n 1, 1) := by decide +kernel
theorem dL_law_8 : decode cL_law 8 = .ok (.new 10, 3) := by decide +kernel
theorem dL_law_11 : decode cL_law 11 = .ok (.dup, 1) := by decide +kernel
theorem dL_law_12 : decode cL_law 12 = .ok (.invokespecial 12, 3) := by decide +kernel
theorem dL_law_15 : decode cL_law 15 = .ok (.astore_n 2, 1) := by decide +kernel
theorem dL_law_16 : decode cL_law 16 = .ok (.iconst 0, 1) := by decide +kernel
theorem dL_law_17 : decode cL_law 17 = .ok (.istore_n 3, 1) := by decide +kernel
theorem sI_L_9 : SiteI RL 9 yX9_init cX9_init 1 0 := ⟨ml_L_9, im_X9_init, ini_X9, co_X9_init, rfl, by decide +kernel⟩
theorem sI_L_12 : SiteI RL 12 yX10_init cX10_init 2 0 := ⟨ml_L_12, im_X10_init, ini_X10, co_X10_init, rfl, by decide +kernel⟩
set_option maxHeartbeats 4000000 in
set_option maxRecDepth 100000 in
theorem whole_start {p : Program} {e : Env} {s : State} {m : MethodId} {below : List Frame} {meth : Method} {c : Code} (l : Launch) {b L : Nat} {xs : Nat → Int32} (hL : L ≤ 3584) (C0 : lw_At p s m meth c b L xs) : W p l e room_1 s m #[Value.ref b] below meth c s.heap [] 0 0 (lw_Z below #[Value.ref b] s) (entryFrame m ([Value.ref b] : List Value).toArray 4) := by
  obtain ⟨D, cy, hK⟩ := kk_start C0
  obtain ⟨hx, hb, hr, hml, hown, hts, hX, hbl, hlocks, hgv⟩ := id C0
  obtain ⟨adK, adV, hSS⟩ := sn_start hts (ba hgv).2
  have hown : s.vm.findClass RL = some m.cls := hown
  have hb : c.code = cL_law := hb
  have hts : ∀ w ∈ GW, w.before #[Value.ref b] s = true := fun w h => hts w (gw_tbl w h)
  have hbA : ¬ RA s.heap.size b := Nat.not_le.mpr hbl
  obtain ⟨base, hbs⟩ : ∃ y : Nat, y = s.heap.size := ⟨_, rfl⟩
  rw [← hbs] at hbA hSS
  have hZ : base ≤ s.heap.size := Nat.le_of_eq hbs
  have hS : va_S (RA base) s.heap s.heap [] := va_S.rf
  have hT : TY D cy base (fun _ => 0) (fun _ _ => 0, fun _ _ => 0, fun _ _ => none, fun _ => 0) s.heap := ⟨[], fun k q h => by simp at h, ⟨fun i j p q h => by simp at h, fun k q h => by simp at h⟩, fun a h => absurd rfl h, fun a h => absurd rfl h⟩
  have hl := lv_entry ([.ref b]) (n := 4) (Nat.le_of_ble_eq_true rfl)
  rw [lg_entry_eq]
  generalize (lg_sl ([.ref b]) ++ List.replicate (4 - (lg_sl ([.ref b])).length) Slot.unset).toArray = ls at hl ⊢
  have hl : lv_has ls 4 [(0, .ref b)] := hl
  refine t_newo (ci := 9) (fs := [.null, .null, .null, .null, .null, .null, .null, .null, .null, .int 0, .null, .null, .int 0, .int 0]) (C := RX9) (T := TX9) (N := 14) (ty := tyX9) hx hb hts lay_X9 tyX9_ok hown cl_L_7 ins_X9 ini_X9 hK hT hS hZ rfl born_X9 (Nat.le_of_ble_eq_true rfl) (Nat.le_of_ble_eq_true rfl) dL_law_0 (fun q_1 H hX hS => ?_)
  have hT := hX.ty
  refine lv_dup hx hb dL_law_3 rfl ?_
  refine t_ctor (runI (As := []) (rest := [.ref q_1]) ⟨hx, hb, hml, hown, hts⟩ (i_X9 l D cy q_1 _) sI_L_9 hK hX.pw ⟨Nat.le_of_ble_eq_true rfl, Nat.le_of_ble_eq_true rfl⟩ rfl hl.1 rfl (Nat.le_of_ble_eq_true rfl) dL_law_4 ⟨Nat.le_of_ble_eq_true rfl, Nat.le_of_ble_eq_true rfl⟩) hX hS hZ (fun v9 u_2 H locs hv9 hX hS => ?_)
  subst hv9
  refine W.eq (g2 := F0 m 7 ls [.ref q_1]) rfl ?_
  obtain ⟨τ1, G1, h1, -, h3, hT⟩ := ab_startX hX
  refine lv_astore_n (lv' := [(1, .ref q_1), (0, .ref b)]) hx hb dL_law_7 rfl hl (by decide) rfl (fun ls hl => ?_)
  refine t_newo (ci := 10) (fs := [.int 0, .null, .null, .null, .null, .null, .int 0, .int 0, .int 0, .int 0, .int 0, .long 0, .int 0, .int 0, .int 0, .int 0, .null, .null, .null, .null, .null, .null, .null, .null, .null, .null, .null, .null, .null, .null, .null, .null, .null, .null, .null, .null, .null, .null, .null, .null, .null, .null, .long 0]) (C := RX10) (T := TX10) (N := 43) (ty := tyX10) hx hb hts lay_X10 tyX10_ok hown cl_L_10 ins_X10 ini_X10 hK hT hS hZ rfl born_X10 (Nat.le_of_ble_eq_true rfl) (Nat.le_of_ble_eq_true rfl) dL_law_8 (fun q_3 H hX hS => ?_)
  have hT := hX.ty
  refine lv_dup hx hb dL_law_11 rfl ?_
  refine t_ctor (runI (As := []) (rest := [.ref q_3]) ⟨hx, hb, hml, hown, hts⟩ (i_X10 l D cy q_3 _) sI_L_12 hK hX.pw ⟨Nat.le_of_ble_eq_true rfl, Nat.le_of_ble_eq_true rfl⟩ rfl hl.1 rfl (Nat.le_of_ble_eq_true rfl) dL_law_12 ⟨Nat.le_of_ble_eq_true rfl, Nat.le_of_ble_eq_true rfl⟩) hX hS hZ (fun v9 u_4 H locs hv9 hX hS => ?_)
  obtain ⟨hv9, hw⟩ := hv9
  subst hv9
  refine W.eq (g2 := F0 m 15 ls [.ref q_3]) rfl ?_
  obtain ⟨τ2, G2, k1, kF, k3, hT⟩ := ab_startM hw hX
  refine lv_astore_n (lv' := [(2, .ref q_3), (1, .ref q_1), (0, .ref b)]) hx hb dL_law_15 rfl hl (by decide) rfl (fun ls hl => ?_)
  refine lv_iconst (v := 0) hx hb dL_law_16 (by decide) ?_
  refine lv_istore_n (lv' := [(3, .int 0), (2, .ref q_3), (1, .ref q_1), (0, .ref b)]) hx hb dL_law_17 rfl hl (by decide) rfl (fun ls hl => ?_)
  have hLI := start_LI (xo := q_1) (mo := q_3) (u := u_2) (w := u_4) hw h1 h3 k1 kF k3
  exact law_loop D cy adK adV base q_1 q_3 C0 hK hSS hZ (Nat.le_of_eq hbs.symm) hbA hL 512 τ2 G2 0 _ _ _ _ _ (by decide) (by show (L : Int) ≤ 0 + 7 * 512; omega) hLI hT hS (lv_sub hl [0, 1, 2, 3] rfl) (by omega) (by omega)
