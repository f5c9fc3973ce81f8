set_option maxHeartbeats 4000000 in
theorem ab_startX {D : va_G} {cy : Nat → ClassId} {base : Nat} {τ : Nat → Nat} {G : Gh} {H : Heap} {xo : Nat} {u : (Nat → Nat) × (Nat → Nat → Int32) × (Nat → Nat → Int64) × (Nat → Int32)} (h : TYR D cy base τ G [(xo, .inr (9, [.ref (u.1 1), .ref (u.1 2), .ref (u.1 3), .ref (u.1 4), .ref (u.1 5), .ref (u.1 6), .ref (u.1 7), .ref (u.1 8), .ref (u.1 9), .int 0, .ref (u.1 11), .null, .int 0, .int (-1)])), ((u.1 1), .inl (cy 0, 1600, .inl (fun _ => 0))), ((u.1 2), .inr (4, [.int 0, .int (-1), .ref (u.1 20), .int 0, .int 0, .int 0, .int 0, .int 0, .ref (u.1 21), .int 0, .int 0, .int 0])), ((u.1 20), .inl (cy 0, 0, .inl (fun _ => 0))), ((u.1 21), .inr (2, [.int 0, .int 0, .int 0, .int 0, .int 0, .int 0, .int 0, .int 0, .int 1, .int 10, .int 0, .int 0, .int 0, .int 0, .ref (u.1 22), .ref (u.1 23), .ref (u.1 24), .ref (u.1 25), .ref (u.1 26), .ref (u.1 27), .ref (u.1 28)])), ((u.1 22), .inl (cy 1, 3, .inl (fun _ => 0))), ((u.1 23), .inl (cy 1, 3, .inl (fun _ => 0))), ((u.1 24), .inl (cy 1, 3, .inl (fun _ => 0))), ((u.1 25), .inl (cy 1, 6, .inl (fun _ => 0))), ((u.1 26), .inl (cy 1, 6, .inl (fun _ => 0))), ((u.1 27), .inl (cy 1, 18, .inl (fun _ => 0))), ((u.1 28), .inl (cy 1, 36, .inl (fun _ => 0))), ((u.1 3), .inr (8, [.ref (u.1 30), .ref (u.1 31), .int 0, .ref (u.1 32), .ref (u.1 33)])), ((u.1 30), .inr (5, [.ref (u.1 34), .ref (u.1 35), .ref (u.1 36), .ref (u.1 37), .ref (u.1 38), .ref (u.1 39), .ref (u.1 40)])), ((u.1 34), .inl (cy 2, 61, .inr (.inl (fun _ => 0)))), ((u.1 35), .inl (cy 2, 3721, .inr (.inl (fun _ => 0)))), ((u.1 36), .inl (cy 2, 122, .inr (.inl (fun _ => 0)))), ((u.1 37), .inl (cy 2, 122, .inr (.inl (fun _ => 0)))), ((u.1 38), .inl (cy 2, 64, .inr (.inl (fun _ => 0)))), ((u.1 39), .inl (cy 2, 64, .inr (.inl (fun _ => 0)))), ((u.1 40), .inl (cy 2, 64, .inr (.inl (fun _ => 0)))), ((u.1 31), .inl (cy 2, 1081, .inr (.inl (fun _ => 0)))), ((u.1 32), .inl (cy 2, 3000, .inr (.inl (fun _ => 0)))), ((u.1 33), .inl (cy 1, 3, .inl (fun _ => 0))), ((u.1 4), .inr (3, [.ref (u.1 50), .ref (u.1 51), .ref (u.1 52), .ref (u.1 53), .int 0, .int 0, .int 0, .int 0, .int 1, .long 0])), ((u.1 50), .inl (cy 2, 601, .inr (.inl (fun _ => 0)))), ((u.1 51), .inl (cy 2, 601, .inr (.inl (fun _ => 0)))), ((u.1 52), .inl (cy 1, 601, .inl (fun _ => 0))), ((u.1 53), .inr (2, [.int 0, .int 0, .int 0, .int 0, .int 0, .int 0, .int 0, .int 0, .int 1, .int 10, .int 0, .int 0, .int 0, .int 0, .ref (u.1 54), .ref (u.1 55), .ref (u.1 56), .ref (u.1 57), .ref (u.1 58), .ref (u.1 59), .ref (u.1 60)])), ((u.1 54), .inl (cy 1, 3, .inl (fun _ => 0))), ((u.1 55), .inl (cy 1, 3, .inl (fun _ => 0))), ((u.1 56), .inl (cy 1, 3, .inl (fun _ => 0))), ((u.1 57), .inl (cy 1, 6, .inl (fun _ => 0))), ((u.1 58), .inl (cy 1, 6, .inl (fun _ => 0))), ((u.1 59), .inl (cy 1, 18, .inl (fun _ => 0))), ((u.1 60), .inl (cy 1, 36, .inl (fun _ => 0))), ((u.1 5), .inr (7, [.ref (u.1 70)])), ((u.1 70), .inl (cy 1, 6, .inl (fun _ => 0))), ((u.1 6), .inr (0, [.long 0])), ((u.1 7), .inl (cy 1, 6, .inl (fun _ => 0))), ((u.1 8), .inl (cy 4, 4, .inr (.inr (.inr (.inr (fun _ => none)))))), ((u.1 9), .inl (cy 5, 3, .inr (.inr (.inr (.inr (fun _ => none)))))), ((u.1 11), .inr (2, [.int 0, .int 0, .int 0, .int 0, .int 0, .int 0, .int 0, .int 0, .int 1, .int 10, .int 0, .int 0, .int 0, .int 0, .ref (u.1 12), .ref (u.1 13), .ref (u.1 14), .ref (u.1 15), .ref (u.1 16), .ref (u.1 17), .ref (u.1 18)])), ((u.1 12), .inl (cy 1, 3, .inl (fun _ => 0))), ((u.1 13), .inl (cy 1, 3, .inl (fun _ => 0))), ((u.1 14), .inl (cy 1, 3, .inl (fun _ => 0))), ((u.1 15), .inl (cy 1, 6, .inl (fun _ => 0))), ((u.1 16), .inl (cy 1, 6, .inl (fun _ => 0))), ((u.1 17), .inl (cy 1, 18, .inl (fun _ => 0))), ((u.1 18), .inl (cy 1, 36, .inl (fun _ => 0)))] H) : ∃ (τ1 : Nat → Nat) (G1 : Gh), (∀ a, τ1 a = τ a ∨ (τ a = 0 ∧ ∃ x ∈ tlX xo u, x.2.1 = τ1 a ∧ x.1 = a)) ∧ Fr τ [] G G1 ∧ (∀ x ∈ tlX xo u, τ1 x.1 = x.2.1 ∧ G1.1 x.1 = x.2.2.1 ∧ G1.2.1 x.1 = x.2.2.2.1 ∧ G1.2.2.1 x.1 = x.2.2.2.2.1 ∧ G1.2.2.2 x.1 = x.2.2.2.2.2 ∧ τ x.1 = 0) ∧ TY D cy base τ1 G1 H := by
  obtain ⟨τ1, G1, h1, h2, h3, h4⟩ := h.absorb (tlX xo u) rfl (by
      intro x hx; simp only [tlX, List.mem_cons, List.not_mem_nil, or_false] at hx; rcases hx with rfl | rfl | rfl | rfl | rfl | rfl | rfl | rfl | rfl | rfl | rfl | rfl | rfl | rfl | rfl | rfl | rfl | rfl | rfl | rfl | rfl | rfl | rfl | rfl | rfl | rfl | rfl | rfl | rfl | rfl | rfl | rfl | rfl | rfl | rfl | rfl | rfl | rfl | rfl | rfl | rfl | rfl | rfl | rfl | rfl | rfl | rfl | rfl | rfl | rfl
      · exact (show (1 : Nat) ≠ 0 by decide)
      · exact (show (20 : Nat) ≠ 0 by decide)
      · exact (show (2 : Nat) ≠ 0 by decide)
      · exact (show (20 : Nat) ≠ 0 by decide)
      · exact (show (7 : Nat) ≠ 0 by decide)
      · exact (show (26 : Nat) ≠ 0 by decide)
      · exact (show (26 : Nat) ≠ 0 by decide)
      · exact (show (26 : Nat) ≠ 0 by decide)
      · exact (show (27 : Nat) ≠ 0 by decide)
      · exact (show (27 : Nat) ≠ 0 by decide)
      · exact (show (28 : Nat) ≠ 0 by decide)
      · exact (show (29 : Nat) ≠ 0 by decide)
      · exact (show (3 : Nat) ≠ 0 by decide)
      · exact (show (8 : Nat) ≠ 0 by decide)
      · exact (show (32 : Nat) ≠ 0 by decide)
      · exact (show (33 : Nat) ≠ 0 by decide)
      · exact (show (34 : Nat) ≠ 0 by decide)
      · exact (show (34 : Nat) ≠ 0 by decide)
      · exact (show (35 : Nat) ≠ 0 by decide)
      · exact (show (35 : Nat) ≠ 0 by decide)
      · exact (show (35 : Nat) ≠ 0 by decide)
      · exact (show (36 : Nat) ≠ 0 by decide)
      · exact (show (37 : Nat) ≠ 0 by decide)
      · exact (show (38 : Nat) ≠ 0 by decide)
      · exact (show (4 : Nat) ≠ 0 by decide)
      · exact (show (30 : Nat) ≠ 0 by decide)
      · exact (show (30 : Nat) ≠ 0 by decide)
      · exact (show (31 : Nat) ≠ 0 by decide)
      · exact (show (7 : Nat) ≠ 0 by decide)
      · exact (show (26 : Nat) ≠ 0 by decide)
      · exact (show (26 : Nat) ≠ 0 by decide)
      · exact (show (26 : Nat) ≠ 0 by decide)
      · exact (show (27 : Nat) ≠ 0 by decide)
      · exact (show (27 : Nat) ≠ 0 by decide)
      · exact (show (28 : Nat) ≠ 0 by decide)
      · exact (show (29 : Nat) ≠ 0 by decide)
      · exact (show (5 : Nat) ≠ 0 by decide)
      · exact (show (39 : Nat) ≠ 0 by decide)
      · exact (show (6 : Nat) ≠ 0 by decide)
      · exact (show (25 : Nat) ≠ 0 by decide)
      · exact (show (23 : Nat) ≠ 0 by decide)
      · exact (show (24 : Nat) ≠ 0 by decide)
      · exact (show (7 : Nat) ≠ 0 by decide)
      · exact (show (26 : Nat) ≠ 0 by decide)
      · exact (show (26 : Nat) ≠ 0 by decide)
      · exact (show (26 : Nat) ≠ 0 by decide)
      · exact (show (27 : Nat) ≠ 0 by decide)
      · exact (show (27 : Nat) ≠ 0 by decide)
      · exact (show (28 : Nat) ≠ 0 by decide)
      · exact (show (29 : Nat) ≠ 0 by decide)
      ) (by
      intro x hx; simp only [tlX, List.mem_cons, List.not_mem_nil, or_false] at hx; rcases hx with rfl | rfl | rfl | rfl | rfl | rfl | rfl | rfl | rfl | rfl | rfl | rfl | rfl | rfl | rfl | rfl | rfl | rfl | rfl | rfl | rfl | rfl | rfl | rfl | rfl | rfl | rfl | rfl | rfl | rfl | rfl | rfl | rfl | rfl | rfl | rfl | rfl | rfl | rfl | rfl | rfl | rfl | rfl | rfl | rfl | rfl | rfl | rfl | rfl | rfl
      · exact rgi_T1 (show 0 ≤ (0 : Int32).toInt ∧ (0 : Int32).toInt ≤ 1600 by decide)
      · exact rgi_A20
      · exact rgi_T2 (show 0 ≤ (0 : Int32).toInt ∧ (0 : Int32).toInt ≤ 1600 by decide)
      · exact rgi_A20
      · exact rgi_T7 (show 0 ≤ (0 : Int32).toInt ∧ (0 : Int32).toInt ≤ 60 by decide) (show 0 ≤ (0 : Int32).toInt ∧ (0 : Int32).toInt ≤ 3 by decide) (show 0 ≤ (0 : Int32).toInt ∧ (0 : Int32).toInt ≤ 6 by decide) (show 1 ≤ (1 : Int32).toInt ∧ (1 : Int32).toInt ≤ 9 by decide) (show 1 ≤ (10 : Int32).toInt ∧ (10 : Int32).toInt ≤ 50 by decide)
      · exact rgi_A26
      · exact rgi_A26
      · exact rgi_A26
      · exact rgi_A27
      · exact rgi_A27
      · exact rgi_A28
      · exact rgi_A29
      · exact rgi_T3 (show 0 ≤ (0 : Int32).toInt ∧ (0 : Int32).toInt ≤ 1080 by decide)
      · exact rgi_T8
      · exact rgi_A32
      · exact rgi_A33
      · exact rgi_A34
      · exact rgi_A34
      · exact rgi_A35
      · exact rgi_A35
      · exact rgi_A35
      · exact rgi_A36
      · exact rgi_A37
      · exact rgi_A38
      · exact rgi_T4 (show 0 ≤ (0 : Int32).toInt ∧ (0 : Int32).toInt ≤ 600 by decide) (show -1 ≤ (0 : Int32).toInt ∧ (0 : Int32).toInt ≤ 600 by decide) (show 1 ≤ (1 : Int32).toInt ∧ (1 : Int32).toInt ≤ 50 by decide)
      · exact rgi_A30
      · exact rgi_A30
      · exact rgi_A31
      · exact rgi_T7 (show 0 ≤ (0 : Int32).toInt ∧ (0 : Int32).toInt ≤ 60 by decide) (show 0 ≤ (0 : Int32).toInt ∧ (0 : Int32).toInt ≤ 3 by decide) (show 0 ≤ (0 : Int32).toInt ∧ (0 : Int32).toInt ≤ 6 by decide) (show 1 ≤ (1 : Int32).toInt ∧ (1 : Int32).toInt ≤ 9 by decide) (show 1 ≤ (10 : Int32).toInt ∧ (10 : Int32).toInt ≤ 50 by decide)
      · exact rgi_A26
      · exact rgi_A26
      · exact rgi_A26
      · exact rgi_A27
      · exact rgi_A27
      · exact rgi_A28
      · exact rgi_A29
      · exact rgi_T5
      · exact rgi_A39
      · exact rgi_T6
      · exact rgi_A25
      · exact rgi_A23
      · exact rgi_A24
      · exact rgi_T7 (show 0 ≤ (0 : Int32).toInt ∧ (0 : Int32).toInt ≤ 60 by decide) (show 0 ≤ (0 : Int32).toInt ∧ (0 : Int32).toInt ≤ 3 by decide) (show 0 ≤ (0 : Int32).toInt ∧ (0 : Int32).toInt ≤ 6 by decide) (show 1 ≤ (1 : Int32).toInt ∧ (1 : Int32).toInt ≤ 9 by decide) (show 1 ≤ (10 : Int32).toInt ∧ (10 : Int32).toInt ≤ 50 by decide)
      · exact rgi_A26
      · exact rgi_A26
      · exact rgi_A26
      · exact rgi_A27
      · exact rgi_A27
      · exact rgi_A28
      · exact rgi_A29
      ) (by
      intro x hx; simp only [tlX, List.mem_cons, List.not_mem_nil, or_false] at hx; rcases hx with rfl | rfl | rfl | rfl | rfl | rfl | rfl | rfl | rfl | rfl | rfl | rfl | rfl | rfl | rfl | rfl | rfl | rfl | rfl | rfl | rfl | rfl | rfl | rfl | rfl | rfl | rfl | rfl | rfl | rfl | rfl | rfl | rfl | rfl | rfl | rfl | rfl | rfl | rfl | rfl | rfl | rfl | rfl | rfl | rfl | rfl | rfl | rfl | rfl | rfl
      · trivial
      · show 1600 ≤ 1600; omega
      · trivial
      · show 0 ≤ 1600; omega
      · trivial
      · rfl
      · rfl
      · rfl
      · rfl
      · rfl
      · rfl
      · rfl
      · trivial
      · trivial
      · rfl
      · rfl
      · rfl
      · rfl
      · rfl
      · rfl
      · rfl
      · rfl
      · rfl
      · rfl
      · trivial
      · rfl
      · rfl
      · rfl
      · trivial
      · rfl
      · rfl
      · rfl
      · rfl
      · rfl
      · rfl
      · rfl
      · trivial
      · rfl
      · trivial
      · rfl
      · rfl
      · rfl
      · trivial
      · rfl
      · rfl
      · rfl
      · rfl
      · rfl
      · rfl
      · rfl
      ) (by
      intro τ2 ln2 hm hn
      intro x hx; simp only [tlX, List.mem_cons, List.not_mem_nil, or_false] at hx; rcases hx with rfl | rfl | rfl | rfl | rfl | rfl | rfl | rfl | rfl | rfl | rfl | rfl | rfl | rfl | rfl | rfl | rfl | rfl | rfl | rfl | rfl | rfl | rfl | rfl | rfl | rfl | rfl | rfl | rfl | rfl | rfl | rfl | rfl | rfl | rfl | rfl | rfl | rfl | rfl | rfl | rfl | rfl | rfl | rfl | rfl | rfl | rfl | rfl | rfl | rfl
      · exact rgr_T1 ⟨_, rfl, (hn _ (List.mem_of_getElem? (i := 1) rfl)).1, (hn _ (List.mem_of_getElem? (i := 1) rfl)).2⟩ ⟨_, rfl, (hn _ (List.mem_of_getElem? (i := 2) rfl)).1⟩ ⟨_, rfl, (hn _ (List.mem_of_getElem? (i := 12) rfl)).1⟩ ⟨_, rfl, (hn _ (List.mem_of_getElem? (i := 24) rfl)).1⟩ ⟨_, rfl, (hn _ (List.mem_of_getElem? (i := 36) rfl)).1⟩ ⟨_, rfl, (hn _ (List.mem_of_getElem? (i := 38) rfl)).1⟩ ⟨_, rfl, (hn _ (List.mem_of_getElem? (i := 39) rfl)).1⟩ ⟨_, rfl, (hn _ (List.mem_of_getElem? (i := 40) rfl)).1⟩ ⟨_, rfl, (hn _ (List.mem_of_getElem? (i := 41) rfl)).1⟩ ⟨_, rfl, (hn _ (List.mem_of_getElem? (i := 42) rfl)).1⟩ (Or.inl rfl)
      · exact rgr_A20
      · exact rgr_T2 ⟨_, rfl, (hn _ (List.mem_of_getElem? (i := 3) rfl)).1⟩ ⟨_, rfl, (hn _ (List.mem_of_getElem? (i := 4) rfl)).1⟩
      · exact rgr_A20
      · exact rgr_T7 ⟨_, rfl, (hn _ (List.mem_of_getElem? (i := 5) rfl)).1⟩ ⟨_, rfl, (hn _ (List.mem_of_getElem? (i := 6) rfl)).1⟩ ⟨_, rfl, (hn _ (List.mem_of_getElem? (i := 7) rfl)).1⟩ ⟨_, rfl, (hn _ (List.mem_of_getElem? (i := 8) rfl)).1⟩ ⟨_, rfl, (hn _ (List.mem_of_getElem? (i := 9) rfl)).1⟩ ⟨_, rfl, (hn _ (List.mem_of_getElem? (i := 10) rfl)).1⟩ ⟨_, rfl, (hn _ (List.mem_of_getElem? (i := 11) rfl)).1⟩
      · exact rgr_A26
      · exact rgr_A26
      · exact rgr_A26
      · exact rgr_A27
      · exact rgr_A27
      · exact rgr_A28
      · exact rgr_A29
      · exact rgr_T3 ⟨_, rfl, (hn _ (List.mem_of_getElem? (i := 13) rfl)).1⟩ ⟨_, rfl, (hn _ (List.mem_of_getElem? (i := 21) rfl)).1⟩ ⟨_, rfl, (hn _ (List.mem_of_getElem? (i := 22) rfl)).1⟩ ⟨_, rfl, (hn _ (List.mem_of_getElem? (i := 23) rfl)).1⟩
      · exact rgr_T8 ⟨_, rfl, (hn _ (List.mem_of_getElem? (i := 14) rfl)).1⟩ ⟨_, rfl, (hn _ (List.mem_of_getElem? (i := 15) rfl)).1⟩ ⟨_, rfl, (hn _ (List.mem_of_getElem? (i := 16) rfl)).1⟩ ⟨_, rfl, (hn _ (List.mem_of_getElem? (i := 17) rfl)).1⟩ ⟨_, rfl, (hn _ (List.mem_of_getElem? (i := 18) rfl)).1⟩ ⟨_, rfl, (hn _ (List.mem_of_getElem? (i := 19) rfl)).1⟩ ⟨_, rfl, (hn _ (List.mem_of_getElem? (i := 20) rfl)).1⟩
      · exact rgr_A32
      · exact rgr_A33
      · exact rgr_A34
      · exact rgr_A34
      · exact rgr_A35
      · exact rgr_A35
      · exact rgr_A35
      · exact rgr_A36
      · exact rgr_A37
      · exact rgr_A38
      · exact rgr_T4 ⟨_, rfl, (hn _ (List.mem_of_getElem? (i := 25) rfl)).1⟩ ⟨_, rfl, (hn _ (List.mem_of_getElem? (i := 26) rfl)).1⟩ ⟨_, rfl, (hn _ (List.mem_of_getElem? (i := 27) rfl)).1⟩ ⟨_, rfl, (hn _ (List.mem_of_getElem? (i := 28) rfl)).1⟩
      · exact rgr_A30
      · exact rgr_A30
      · exact rgr_A31
      · exact rgr_T7 ⟨_, rfl, (hn _ (List.mem_of_getElem? (i := 29) rfl)).1⟩ ⟨_, rfl, (hn _ (List.mem_of_getElem? (i := 30) rfl)).1⟩ ⟨_, rfl, (hn _ (List.mem_of_getElem? (i := 31) rfl)).1⟩ ⟨_, rfl, (hn _ (List.mem_of_getElem? (i := 32) rfl)).1⟩ ⟨_, rfl, (hn _ (List.mem_of_getElem? (i := 33) rfl)).1⟩ ⟨_, rfl, (hn _ (List.mem_of_getElem? (i := 34) rfl)).1⟩ ⟨_, rfl, (hn _ (List.mem_of_getElem? (i := 35) rfl)).1⟩
      · exact rgr_A26
      · exact rgr_A26
      · exact rgr_A26
      · exact rgr_A27
      · exact rgr_A27
      · exact rgr_A28
      · exact rgr_A29
      · exact rgr_T5 ⟨_, rfl, (hn _ (List.mem_of_getElem? (i := 37) rfl)).1⟩
      · exact rgr_A39
      · exact rgr_T6 
      · exact rgr_A25
      · exact rgr_A23
      · exact rgr_A24
      · exact rgr_T7 ⟨_, rfl, (hn _ (List.mem_of_getElem? (i := 43) rfl)).1⟩ ⟨_, rfl, (hn _ (List.mem_of_getElem? (i := 44) rfl)).1⟩ ⟨_, rfl, (hn _ (List.mem_of_getElem? (i := 45) rfl)).1⟩ ⟨_, rfl, (hn _ (List.mem_of_getElem? (i := 46) rfl)).1⟩ ⟨_, rfl, (hn _ (List.mem_of_getElem? (i := 47) rfl)).1⟩ ⟨_, rfl, (hn _ (List.mem_of_getElem? (i := 48) rfl)).1⟩ ⟨_, rfl, (hn _ (List.mem_of_getElem? (i := 49) rfl)).1⟩
      · exact rgr_A26
      · exact rgr_A26
      · exact rgr_A26
      · exact rgr_A27
      · exact rgr_A27
      · exact rgr_A28
      · exact rgr_A29
      )
  exact ⟨τ1, G1, h1, h2, h3, h4⟩
set_option maxHeartbeats 4000000 in
theorem ab_startM {D : va_G} {cy : Nat → ClassId} {base : Nat} {τ : Nat → Nat} {G : Gh} {H : Heap} {mo : Nat} {w : (Nat → Nat) × (Nat → Nat → Int32) × (Nat → Nat → Int64) × (Nat → Int32)} (hw : ∀ k : Nat, w.2.1 0 k = if k < 4 then -1 else 0) (h : TYR D cy base τ G [(mo, .inr (10, [.int 0, .ref (w.1 1), .ref (w.1 2), .ref (w.1 3), .ref (w.1 4), .ref (w.1 5), .int 0, .int 0, .int 0, .int 0, .int 0, .long 0, .int 0, .int 0, .int 0, .int (-1), .ref (w.1 16), .ref (w.1 17), .ref (w.1 18), .ref (w.1 19), .ref (w.1 20), .ref (w.1 21), .ref (w.1 22), .ref (w.1 23), .ref (w.1 24), .ref (w.1 25), .ref (w.1 26), .ref (w.1 27), .ref (w.1 28), .ref (w.1 29), .ref (w.1 30), .ref (w.1 31), .ref (w.1 32), .ref (w.1 33), .ref (w.1 34), .ref (w.1 35), .ref (w.1 36), .ref (w.1 37), .ref (w.1 38), .ref (w.1 39), .ref (w.1 40), .ref (w.1 41), .long 0])), ((w.1 1), .inl (cy 1, 4, .inl (w.2.1 0))), ((w.1 2), .inl (cy 1, 4, .inl (fun _ => 0))), ((w.1 3), .inl (cy 2, 240, .inr (.inl (fun _ => 0)))), ((w.1 4), .inl (cy 2, 60, .inr (.inl (fun _ => 0)))), ((w.1 5), .inl (cy 0, 1600, .inl (fun _ => 0))), ((w.1 16), .inl (cy 1, 5, .inl (fun _ => 0))), ((w.1 17), .inl (cy 1, 20, .inl (fun _ => 0))), ((w.1 18), .inl (cy 1, 5, .inl (fun _ => 0))), ((w.1 19), .inl (cy 1, 45, .inl (fun _ => 0))), ((w.1 20), .inl (cy 1, 5, .inl (fun _ => 0))), ((w.1 21), .inl (cy 1, 150, .inl (fun _ => 0))), ((w.1 22), .inl (cy 1, 5, .inl (fun _ => 0))), ((w.1 23), .inl (cy 1, 120, .inl (fun _ => 0))), ((w.1 24), .inl (cy 1, 30, .inl (fun _ => 0))), ((w.1 25), .inl (cy 3, 15, .inl (fun _ => 0))), ((w.1 26), .inl (cy 1, 5, .inl (fun _ => 0))), ((w.1 27), .inl (cy 1, 30, .inl (fun _ => 0))), ((w.1 28), .inl (cy 3, 3, .inl (fun _ => 0))), ((w.1 29), .inl (cy 2, 61, .inr (.inl (fun _ => 0)))), ((w.1 30), .inl (cy 2, 3721, .inr (.inl (fun _ => 0)))), ((w.1 31), .inl (cy 2, 3721, .inr (.inl (fun _ => 0)))), ((w.1 32), .inl (cy 2, 3721, .inr (.inl (fun _ => 0)))), ((w.1 33), .inl (cy 2, 64, .inr (.inl (fun _ => 0)))), ((w.1 34), .inl (cy 2, 64, .inr (.inl (fun _ => 0)))), ((w.1 35), .inl (cy 2, 64, .inr (.inl (fun _ => 0)))), ((w.1 36), .inl (cy 2, 3000, .inr (.inl (fun _ => 0)))), ((w.1 37), .inl (cy 2, 4000, .inr (.inl (fun _ => 0)))), ((w.1 38), .inl (cy 2, 75000, .inr (.inl (fun _ => 0)))), ((w.1 39), .inl (cy 2, 1100, .inr (.inl (fun _ => 0)))), ((w.1 40), .inl (cy 1, 6, .inl (fun _ => 0))), ((w.1 41), .inl (cy 1, 6, .inl (fun _ => 0)))] H) : ∃ (τ1 : Nat → Nat) (G1 : Gh), (∀ a, τ1 a = τ a ∨ (τ a = 0 ∧ ∃ x ∈ tlM mo w, x.2.1 = τ1 a ∧ x.1 = a)) ∧ Fr τ [] G G1 ∧ (∀ x ∈ tlM mo w, τ1 x.1 = x.2.1 ∧ G1.1 x.1 = x.2.2.1 ∧ G1.2.1 x.1 = x.2.2.2.1 ∧ G1.2.2.1 x.1 = x.2.2.2.2.1 ∧ G1.2.2.2 x.1 = x.2.2.2.2.2 ∧ τ x.1 = 0) ∧ TY D cy base τ1 G1 H := by
  obtain ⟨τ1, G1, h1, h2, h3, h4⟩ := h.absorb (tlM mo w) rfl (by
      intro x hx; simp only [tlM, List.mem_cons, List.not_mem_nil, or_false] at hx; rcases hx with rfl | rfl | rfl | rfl | rfl | rfl | rfl | rfl | rfl | rfl | rfl | rfl | rfl | rfl | rfl | rfl | rfl | rfl | rfl | rfl | rfl | rfl | rfl | rfl | rfl | rfl | rfl | rfl | rfl | rfl | rfl | rfl
      · exact (show (11 : Nat) ≠ 0 by decide)
      · exact (show (51 : Nat) ≠ 0 by decide)
      · exact (show (52 : Nat) ≠ 0 by decide)
      · exact (show (53 : Nat) ≠ 0 by decide)
      · exact (show (54 : Nat) ≠ 0 by decide)
      · exact (show (55 : Nat) ≠ 0 by decide)
      · exact (show (66 : Nat) ≠ 0 by decide)
      · exact (show (67 : Nat) ≠ 0 by decide)
      · exact (show (68 : Nat) ≠ 0 by decide)
      · exact (show (69 : Nat) ≠ 0 by decide)
      · exact (show (70 : Nat) ≠ 0 by decide)
      · exact (show (71 : Nat) ≠ 0 by decide)
      · exact (show (72 : Nat) ≠ 0 by decide)
      · exact (show (73 : Nat) ≠ 0 by decide)
      · exact (show (74 : Nat) ≠ 0 by decide)
      · exact (show (75 : Nat) ≠ 0 by decide)
      · exact (show (76 : Nat) ≠ 0 by decide)
      · exact (show (77 : Nat) ≠ 0 by decide)
      · exact (show (78 : Nat) ≠ 0 by decide)
      · exact (show (79 : Nat) ≠ 0 by decide)
      · exact (show (80 : Nat) ≠ 0 by decide)
      · exact (show (81 : Nat) ≠ 0 by decide)
      · exact (show (82 : Nat) ≠ 0 by decide)
      · exact (show (83 : Nat) ≠ 0 by decide)
      · exact (show (84 : Nat) ≠ 0 by decide)
      · exact (show (85 : Nat) ≠ 0 by decide)
      · exact (show (86 : Nat) ≠ 0 by decide)
      · exact (show (87 : Nat) ≠ 0 by decide)
      · exact (show (88 : Nat) ≠ 0 by decide)
      · exact (show (89 : Nat) ≠ 0 by decide)
      · exact (show (90 : Nat) ≠ 0 by decide)
      · exact (show (91 : Nat) ≠ 0 by decide)
      ) (by
      intro x hx; simp only [tlM, List.mem_cons, List.not_mem_nil, or_false] at hx; rcases hx with rfl | rfl | rfl | rfl | rfl | rfl | rfl | rfl | rfl | rfl | rfl | rfl | rfl | rfl | rfl | rfl | rfl | rfl | rfl | rfl | rfl | rfl | rfl | rfl | rfl | rfl | rfl | rfl | rfl | rfl | rfl | rfl
      · exact rgi_T11 (show 0 ≤ (0 : Int32).toInt ∧ (0 : Int32).toInt ≤ 1600 by decide) (show 0 ≤ (0 : Int32).toInt ∧ (0 : Int32).toInt ≤ 1600 by decide)
      · exact (rgi_wd hw)
      · exact rgi_A52
      · exact rgi_A53
      · exact rgi_A54
      · exact rgi_A55
      · exact rgi_A66
      · exact rgi_A67
      · exact rgi_A68
      · exact rgi_A69
      · exact rgi_A70
      · exact rgi_A71
      · exact rgi_A72
      · exact rgi_A73
      · exact rgi_A74
      · exact rgi_A75
      · exact rgi_A76
      · exact rgi_A77
      · exact rgi_A78
      · exact rgi_A79
      · exact rgi_A80
      · exact rgi_A81
      · exact rgi_A82
      · exact rgi_A83
      · exact rgi_A84
      · exact rgi_A85
      · exact rgi_A86
      · exact rgi_A87
      · exact rgi_A88
      · exact rgi_A89
      · exact rgi_A90
      · exact rgi_A91
      ) (by
      intro x hx; simp only [tlM, List.mem_cons, List.not_mem_nil, or_false] at hx; rcases hx with rfl | rfl | rfl | rfl | rfl | rfl | rfl | rfl | rfl | rfl | rfl | rfl | rfl | rfl | rfl | rfl | rfl | rfl | rfl | rfl | rfl | rfl | rfl | rfl | rfl | rfl | rfl | rfl | rfl | rfl | rfl | rfl
      · trivial
      · rfl
      · rfl
      · rfl
      · rfl
      · rfl
      · rfl
      · rfl
      · rfl
      · rfl
      · rfl
      · rfl
      · rfl
      · rfl
      · rfl
      · rfl
      · rfl
      · rfl
      · rfl
      · rfl
      · rfl
      · rfl
      · rfl
      · rfl
      · rfl
      · rfl
      · rfl
      · rfl
      · rfl
      · rfl
      · rfl
      · rfl
      ) (by
      intro τ2 ln2 hm hn
      intro x hx; simp only [tlM, List.mem_cons, List.not_mem_nil, or_false] at hx; rcases hx with rfl | rfl | rfl | rfl | rfl | rfl | rfl | rfl | rfl | rfl | rfl | rfl | rfl | rfl | rfl | rfl | rfl | rfl | rfl | rfl | rfl | rfl | rfl | rfl | rfl | rfl | rfl | rfl | rfl | rfl | rfl | rfl
      · exact rgr_T11 ⟨_, rfl, (hn _ (List.mem_of_getElem? (i := 1) rfl)).1⟩ ⟨_, rfl, (hn _ (List.mem_of_getElem? (i := 2) rfl)).1⟩ ⟨_, rfl, (hn _ (List.mem_of_getElem? (i := 3) rfl)).1⟩ ⟨_, rfl, (hn _ (List.mem_of_getElem? (i := 4) rfl)).1⟩ ⟨_, rfl, (hn _ (List.mem_of_getElem? (i := 5) rfl)).1⟩ ⟨_, rfl, (hn _ (List.mem_of_getElem? (i := 6) rfl)).1⟩ ⟨_, rfl, (hn _ (List.mem_of_getElem? (i := 7) rfl)).1⟩ ⟨_, rfl, (hn _ (List.mem_of_getElem? (i := 8) rfl)).1⟩ ⟨_, rfl, (hn _ (List.mem_of_getElem? (i := 9) rfl)).1⟩ ⟨_, rfl, (hn _ (List.mem_of_getElem? (i := 10) rfl)).1⟩ ⟨_, rfl, (hn _ (List.mem_of_getElem? (i := 11) rfl)).1⟩ ⟨_, rfl, (hn _ (List.mem_of_getElem? (i := 12) rfl)).1⟩ ⟨_, rfl, (hn _ (List.mem_of_getElem? (i := 13) rfl)).1⟩ ⟨_, rfl, (hn _ (List.mem_of_getElem? (i := 14) rfl)).1⟩ ⟨_, rfl, (hn _ (List.mem_of_getElem? (i := 15) rfl)).1⟩ ⟨_, rfl, (hn _ (List.mem_of_getElem? (i := 16) rfl)).1⟩ ⟨_, rfl, (hn _ (List.mem_of_getElem? (i := 17) rfl)).1⟩ ⟨_, rfl, (hn _ (List.mem_of_getElem? (i := 18) rfl)).1⟩ ⟨_, rfl, (hn _ (List.mem_of_getElem? (i := 19) rfl)).1⟩ ⟨_, rfl, (hn _ (List.mem_of_getElem? (i := 20) rfl)).1⟩ ⟨_, rfl, (hn _ (List.mem_of_getElem? (i := 21) rfl)).1⟩ ⟨_, rfl, (hn _ (List.mem_of_getElem? (i := 22) rfl)).1⟩ ⟨_, rfl, (hn _ (List.mem_of_getElem? (i := 23) rfl)).1⟩ ⟨_, rfl, (hn _ (List.mem_of_getElem? (i := 24) rfl)).1⟩ ⟨_, rfl, (hn _ (List.mem_of_getElem? (i := 25) rfl)).1⟩ ⟨_, rfl, (hn _ (List.mem_of_getElem? (i := 26) rfl)).1⟩ ⟨_, rfl, (hn _ (List.mem_of_getElem? (i := 27) rfl)).1⟩ ⟨_, rfl, (hn _ (List.mem_of_getElem? (i := 28) rfl)).1⟩ ⟨_, rfl, (hn _ (List.mem_of_getElem? (i := 29) rfl)).1⟩ ⟨_, rfl, (hn _ (List.mem_of_getElem? (i := 30) rfl)).1⟩ ⟨_, rfl, (hn _ (List.mem_of_getElem? (i := 31) rfl)).1⟩
      · exact rgr_A51
      · exact rgr_A52
      · exact rgr_A53
      · exact rgr_A54
      · exact rgr_A55
      · exact rgr_A66
      · exact rgr_A67
      · exact rgr_A68
      · exact rgr_A69
      · exact rgr_A70
      · exact rgr_A71
      · exact rgr_A72
      · exact rgr_A73
      · exact rgr_A74
      · exact rgr_A75
      · exact rgr_A76
      · exact rgr_A77
      · exact rgr_A78
      · exact rgr_A79
      · exact rgr_A80
      · exact rgr_A81
      · exact rgr_A82
      · exact rgr_A83
      · exact rgr_A84
      · exact rgr_A85
      · exact rgr_A86
      · exact rgr_A87
      · exact rgr_A88
      · exact rgr_A89
      · exact rgr_A90
      · exact rgr_A91
      )
  exact ⟨τ1, G1, h1, h2, h3, h4⟩
