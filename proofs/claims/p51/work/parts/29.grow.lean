/-! ===== tags that grow: new cells beside the typed memory ===== -/
abbrev TE : Type := Nat × Nat × (Nat → Int32) × (Nat → Int64) × (Nat → Option Nat) × Nat
def teE (cy : Nat → ClassId) (x : TE) : Nat × va_E := (x.1, ENT cy (fun _ => x.2.1) (fun _ => x.2.2.1, fun _ => x.2.2.2.1, fun _ => x.2.2.2.2.1, fun _ => x.2.2.2.2.2) x.1)
def teF (tl : List TE) (a : Nat) : Option TE := tl.find? (fun x => x.1 == a)
def tauG (τ : Nat → Nat) (tl : List TE) (a : Nat) : Nat := match teF tl a with
  | some x => x.2.1
  | none => τ a
def Gg (G : Gh) (tl : List TE) : Gh := (fun a => match teF tl a with
  | some x => x.2.2.1
  | none => G.1 a, fun a => match teF tl a with
  | some x => x.2.2.2.1
  | none => G.2.1 a, fun a => match teF tl a with
  | some x => x.2.2.2.2.1
  | none => G.2.2.1 a, fun a => match teF tl a with
  | some x => x.2.2.2.2.2
  | none => G.2.2.2 a)
theorem teF_mem {tl : List TE} {a : Nat} {x : TE} (h : teF tl a = some x) : x ∈ tl ∧ x.1 = a := by
  unfold teF at h
  exact ⟨List.mem_of_find?_eq_some h, by have := List.find?_some h; simpa using this⟩
theorem teF_of {tl : List TE} (hd : ∀ x ∈ tl, ∀ y ∈ tl, x.1 = y.1 → x = y) {x : TE} (hx : x ∈ tl) : teF tl x.1 = some x := by
  cases h : teF tl x.1 with
  | none =>
    unfold teF at h
    have := List.find?_eq_none.mp h x hx
    simp at this
  | some y =>
    obtain ⟨h1, h2⟩ := teF_mem h
    rw [hd y h1 x hx h2]
theorem ENT_tau {cy : Nat → ClassId} {τ τ' : Nat → Nat} {G : Gh} {a : Nat} (h : τ' a = τ a) : ENT cy τ' G a = ENT cy τ G a := by
  unfold ENT; rw [h]
theorem ENT_te {cy : Nat → ClassId} {τ : Nat → Nat} {G : Gh} {x : TE} (h0 : τ x.1 = x.2.1) (h1 : G.1 x.1 = x.2.2.1) (h2 : G.2.1 x.1 = x.2.2.2.1) (h3 : G.2.2.1 x.1 = x.2.2.2.2.1) (h4 : G.2.2.2 x.1 = x.2.2.2.2.2) : teE cy x = (x.1, ENT cy τ G x.1) := by
  unfold teE
  rw [← ENT_tau (τ' := τ) (τ := fun _ => x.2.1) h0]
  rw [ENT_congr (G' := G) (G := (fun _ => x.2.2.1, fun _ => x.2.2.2.1, fun _ => x.2.2.2.2.1, fun _ => x.2.2.2.2.2)) h1 h2 h3 h4]
theorem Rgr.mono {τ τ' len len' : Nat → Nat} (hm : ∀ q, τ q ≠ 0 → τ' q = τ q ∧ len' q = len q) {t k : Nat} {o : Option Nat} (h : Rgr τ len t k o) : Rgr τ' len' t k o := by
  have e1 : ∀ tt : Nat, tt ≠ 0 → (∃ q, o = some q ∧ τ q = tt) → ∃ q, o = some q ∧ τ' q = tt := by
    rintro tt h0 ⟨q, h1, h2⟩
    exact ⟨q, h1, ((hm q (by rw [h2]; exact h0)).1).trans h2⟩
  have e2 : ∀ tt n : Nat, tt ≠ 0 → (∃ q, o = some q ∧ τ q = tt ∧ len q = n) → ∃ q, o = some q ∧ τ' q = tt ∧ len' q = n := by
    rintro tt n h0 ⟨q, h1, h2, h3⟩
    exact ⟨q, h1, ((hm q (by rw [h2]; exact h0)).1).trans h2, ((hm q (by rw [h2]; exact h0)).2).trans h3⟩
  have e3 : ∀ tt : Nat, tt ≠ 0 → (o = none ∨ ∃ q, o = some q ∧ τ q = tt) → o = none ∨ ∃ q, o = some q ∧ τ' q = tt := by
    intro tt h0 h1
    exact h1.imp id (e1 tt h0)
  unfold Rgr at h ⊢
  split at h <;> first | trivial | exact e1 _ (by decide) h | exact e2 _ _ (by decide) h | exact e3 _ (by decide) h | (split <;> first | trivial | (exfalso; simp_all))
theorem TYR.ty {D : va_G} {cy : Nat → ClassId} {base : Nat} {τ : Nat → Nat} {G : Gh} {ex : va_W} {H : Heap} (h : TYR D cy base τ G ex H) : TY D cy base τ G H := by
  obtain ⟨ws, h1, h2, h3, h4⟩ := h
  refine ⟨ws ++ ex, h1, h2, fun a ha => ?_, h4⟩
  obtain ⟨i, hi⟩ := h3 a ha
  exact ⟨i, by rw [List.getElem?_append_left (List.getElem?_eq_some_iff.mp hi).1]; exact hi⟩
theorem TYR.pw {D : va_G} {cy : Nat → ClassId} {base : Nat} {τ : Nat → Nat} {G : Gh} {wc : va_W} {H : Heap} (h : TYR D cy base τ G wc H) : PW D wc H.size H := by
  obtain ⟨ws, hP, hD, -, -⟩ := h
  have rgt : ∀ (k : Nat) (q : Nat × va_E), wc[k]? = some q → (ws ++ wc)[ws.length + k]? = some q := fun k q h => by rw [List.getElem?_append_right (by omega), Nat.add_sub_cancel_left]; exact h
  refine ⟨rfl, fun k q hk => hP _ q (rgt k q hk), fun i j x y hi hj e => ?_, fun _ _ _ => trivial⟩
  have := hD.1 _ _ x y (rgt i x hi) (rgt j y hj) e
  omega
theorem TYR.absorb {D : va_G} {cy : Nat → ClassId} {base : Nat} {τ : Nat → Nat} {G : Gh} {w1 : va_W} {H : Heap} (h : TYR D cy base τ G w1 H) (tl : List TE) (hw : w1 = tl.map (teE cy)) (h0 : ∀ x ∈ tl, x.2.1 ≠ 0) (hI : ∀ x ∈ tl, ∀ k, Rgi x.2.1 k (x.2.2.1 k)) (hN : ∀ x ∈ tl, Rgn x.2.1 x.2.2.2.2.2)
    (hR : ∀ τ' len' : Nat → Nat, (∀ a, τ a ≠ 0 → τ' a = τ a ∧ len' a = G.2.2.2 a) → (∀ x ∈ tl, τ' x.1 = x.2.1 ∧ len' x.1 = x.2.2.2.2.2) → ∀ x ∈ tl, ∀ k, Rgr τ' len' x.2.1 k (x.2.2.2.2.1 k)) :
    ∃ (τ' : Nat → Nat) (G' : Gh), (∀ a, τ' a = τ a ∨ (τ a = 0 ∧ ∃ x ∈ tl, x.2.1 = τ' a ∧ x.1 = a)) ∧ Fr τ [] G G' ∧ (∀ x ∈ tl, τ' x.1 = x.2.1 ∧ G'.1 x.1 = x.2.2.1 ∧ G'.2.1 x.1 = x.2.2.2.1 ∧ G'.2.2.1 x.1 = x.2.2.2.2.1 ∧ G'.2.2.2 x.1 = x.2.2.2.2.2 ∧ τ x.1 = 0) ∧ TY D cy base τ' G' H := by
  subst hw
  obtain ⟨ws, hP, hD, hO, hRG⟩ := h
  have at1 : ∀ x ∈ tl, ∃ j : Nat, (ws ++ tl.map (teE cy))[ws.length + j]? = some (teE cy x) ∧ tl[j]? = some x := by
    intro x hx
    obtain ⟨j, hj⟩ := List.getElem?_of_mem hx
    exact ⟨j, by rw [List.getElem?_append_right (by omega), Nat.add_sub_cancel_left, List.getElem?_map, hj]; rfl, hj⟩
  have dst : ∀ x ∈ tl, ∀ y ∈ tl, x.1 = y.1 → x = y := by
    intro x hx y hy e
    obtain ⟨i, h1, h2⟩ := at1 x hx
    obtain ⟨j, h3, h4⟩ := at1 y hy
    have e1 := hD.1 _ _ _ _ h1 h3 e
    have e2 : i = j := by omega
    subst e2
    rw [h2] at h4
    exact Option.some.inj h4
  have old : ∀ x ∈ tl, τ x.1 = 0 := by
    intro x hx
    by_cases h9 : τ x.1 = 0
    · exact h9
    · obtain ⟨i, hi⟩ := hO _ h9
      obtain ⟨j, h1, h2⟩ := at1 x hx
      have hl := (List.getElem?_eq_some_iff.mp hi).1
      have e1 := hD.1 i (ws.length + j) (x.1, ENT cy τ G x.1) (teE cy x) (by rw [List.getElem?_append_left hl]; exact hi) h1 rfl
      omega
  have tn : ∀ x ∈ tl, teF tl x.1 = some x := fun x hx => teF_of dst hx
  have ton : ∀ a, τ a ≠ 0 → teF tl a = none := by
    intro a ha
    cases h9 : teF tl a with
    | none => rfl
    | some x =>
      obtain ⟨h1, h2⟩ := teF_mem h9
      exact absurd (by rw [← h2]; exact old x h1) ha
  have t1 : ∀ x ∈ tl, tauG τ tl x.1 = x.2.1 := fun x hx => by unfold tauG; rw [tn x hx]
  have t2 : ∀ a, τ a ≠ 0 → tauG τ tl a = τ a := fun a ha => by unfold tauG; rw [ton a ha]
  have g1 : ∀ x ∈ tl, (Gg G tl).1 x.1 = x.2.2.1 := fun x hx => by unfold Gg; simp only [tn x hx]
  have g2 : ∀ x ∈ tl, (Gg G tl).2.1 x.1 = x.2.2.2.1 := fun x hx => by unfold Gg; simp only [tn x hx]
  have g3 : ∀ x ∈ tl, (Gg G tl).2.2.1 x.1 = x.2.2.2.2.1 := fun x hx => by unfold Gg; simp only [tn x hx]
  have g4 : ∀ x ∈ tl, (Gg G tl).2.2.2 x.1 = x.2.2.2.2.2 := fun x hx => by unfold Gg; simp only [tn x hx]
  have o1 : ∀ a, teF tl a = none → (Gg G tl).1 a = G.1 a := fun a ha => by unfold Gg; simp only [ha]
  have o2 : ∀ a, teF tl a = none → (Gg G tl).2.1 a = G.2.1 a := fun a ha => by unfold Gg; simp only [ha]
  have o3 : ∀ a, teF tl a = none → (Gg G tl).2.2.1 a = G.2.2.1 a := fun a ha => by unfold Gg; simp only [ha]
  have o4 : ∀ a, teF tl a = none → (Gg G tl).2.2.2 a = G.2.2.2 a := fun a ha => by unfold Gg; simp only [ha]
  refine ⟨tauG τ tl, Gg G tl, fun a => ?_, fun b hb => ?_, fun x hx => ⟨t1 x hx, g1 x hx, g2 x hx, g3 x hx, g4 x hx, old x hx⟩, ws ++ tl.map (teE cy), hP, hD, fun a ha => ?_, fun a ha => ?_⟩
  · cases h9 : teF tl a with
    | none => left; unfold tauG; rw [h9]
    | some x =>
      obtain ⟨h1, h2⟩ := teF_mem h9
      right
      subst h2
      exact ⟨old x h1, x, h1, (t1 x h1).symm, rfl⟩
  · exact ⟨fun _ => ⟨o1 b (ton b hb), o2 b (ton b hb)⟩, fun _ => o3 b (ton b hb), o4 b (ton b hb)⟩
  · cases h9 : teF tl a with
    | none =>
      have e : tauG τ tl a = τ a := by unfold tauG; rw [h9]
      obtain ⟨i, hi⟩ := hO a (by rw [← e]; exact ha)
      refine ⟨i, ?_⟩
      rw [List.getElem?_append_left (List.getElem?_eq_some_iff.mp hi).1, hi, ENT_congr (G' := Gg G tl) (G := G) (o1 a h9) (o2 a h9) (o3 a h9) (o4 a h9), ENT_tau e]
    | some x =>
      obtain ⟨h1, h2⟩ := teF_mem h9
      subst h2
      obtain ⟨j, h3, h4⟩ := at1 x h1
      exact ⟨ws.length + j, by rw [h3, ENT_te (t1 x h1) (g1 x h1) (g2 x h1) (g3 x h1) (g4 x h1)]⟩
  · have hm : ∀ q, τ q ≠ 0 → tauG τ tl q = τ q ∧ (Gg G tl).2.2.2 q = G.2.2.2 q := fun q hq => ⟨t2 q hq, o4 q (ton q hq)⟩
    cases h9 : teF tl a with
    | none =>
      have e : tauG τ tl a = τ a := by unfold tauG; rw [h9]
      obtain ⟨r1, r2, r3⟩ := hRG a (by rw [← e]; exact ha)
      rw [e, o1 a h9, o3 a h9, o4 a h9]
      exact ⟨r1, fun k => Rgr.mono hm (r2 k), r3⟩
    | some x =>
      obtain ⟨h1, h2⟩ := teF_mem h9
      subst h2
      rw [t1 x h1, g1 x h1, g3 x h1, g4 x h1]
      exact ⟨hI x h1, hR _ _ hm (fun y hy => ⟨t1 y hy, g4 y hy⟩) x h1, hN x h1⟩
/-- the tags of what is made behind the start -/
def NT : List Nat := [7, 9, 10, 25, 26, 27, 28, 29, 40]
def EX (τ τ' : Nat → Nat) : Prop := ∀ a, τ' a = τ a ∨ (τ a = 0 ∧ NT.contains (τ' a) = true)
theorem EX.rf {τ : Nat → Nat} : EX τ τ := fun _ => Or.inl rfl
theorem EX.tg {τ τ' : Nat → Nat} (h : EX τ τ') {a t : Nat} (ha : τ a = t) (ht : t ≠ 0) : τ' a = t := by
  rcases h a with h1 | h1
  · exact h1.trans ha
  · exact absurd (ha.symm.trans h1.1) ht
theorem EX.tr {τ τ' τ'' : Nat → Nat} (h : EX τ τ') (h' : EX τ' τ'') : EX τ τ'' := by
  intro a
  rcases h a with h1 | h1
  · rcases h' a with h2 | h2
    · exact Or.inl (h2.trans h1)
    · exact Or.inr ⟨h1.symm.trans h2.1, h2.2⟩
  · rcases h' a with h2 | h2
    · exact Or.inr ⟨h1.1, by rw [h2]; exact h1.2⟩
    · exact Or.inr ⟨h1.1, h2.2⟩
theorem EX.of {τ τ' : Nat → Nat} {tl : List TE} (h : ∀ a, τ' a = τ a ∨ (τ a = 0 ∧ ∃ x ∈ tl, x.2.1 = τ' a ∧ x.1 = a)) (hn : tl.all (fun x => NT.contains x.2.1) = true) : EX τ τ' := by
  intro a
  rcases h a with h1 | ⟨h1, x, hx, h2, -⟩
  · exact Or.inl h1
  · exact Or.inr ⟨h1, by rw [← h2]; exact List.all_eq_true.mp hn x hx⟩
/-- a tag that nothing new has -/
theorem EX.back {τ τ' : Nat → Nat} (h : EX τ τ') {a t : Nat} (ha : τ' a = t) (ht : NT.contains t = false) : τ a = t := by
  rcases h a with h1 | h1
  · exact h1.symm.trans ha
  · rw [ha, ht] at h1; exact absurd h1.2 (by decide)
theorem Fr.dn {τ τ' : Nat → Nat} {S : List Nat} {G G' : Gh} (h : Fr τ' S G G') (hE : EX τ τ') : Fr τ S G G' := fun b hb => by
  have e := hE.tg rfl hb
  have h1 := h b (by rw [e]; exact hb)
  rw [e] at h1
  exact h1
theorem Fr.up {τ : Nat → Nat} {S S' : List Nat} {G G' : Gh} (h : Fr τ S G G') (hs : S.all (fun t => S'.contains t) = true) : Fr τ S' G G' := Fr.rf.tr h hs
def QE (D : va_G) (cy : Nat → ClassId) (base : Nat) (τ : Nat → Nat) (G : Gh) (S : List Nat) (post : Option Value → (Nat → Nat) → Gh → Prop) : Heap → Option Value → Heap → Prop := fun H v H1 => (H.size ≤ H1.size ∧ ∀ q : Nat, q < H.size → ¬ RA base q → H1[q]? = H[q]?) ∧ ∃ (τ' : Nat → Nat) (G' : Gh), EX τ τ' ∧ Fr τ S G G' ∧ post v τ' G' ∧ TY D cy base τ' G' H1
section GROW
variable {p : Program} {l : Launch} {e : Env} {R : Room} {s : State} {m : MethodId} {args : Array Value} {below : List Frame} {meth : Method} {c : Code} {H : Heap} {locs : List Loc} {cells slots : Nat} {Qf : State → Prop}
variable {cc : ByteArray} {pc : Nat} {ls : Array Slot} {rest st0 : List Value} {D : va_G} {cy : Nat → ClassId} {base : Nat} {τ : Nat → Nat} {G : Gh} {H0 : Heap} {own : String} {index a k t mc ms : Nat}
variable {C : String} {T : u_T} {N ci : Nat} {ty : Nat → FieldType}
theorem t_newo {fs : List Value} (hx : p.tables.exec = Jvm.exec) (hb : c.code = cc) (hts : ∀ w ∈ GW, w.before args s = true) (hin : ∀ w ∈ u_ws C T N, w ∈ GW) (hty : ∀ k, k < N → parseFieldDescriptor (T k).2.2.1 = some (ty k)) (hown : s.vm.findClass own = some m.cls) (hcl : Cond.classLink own index C ∈ GW) (hinst : Cond.instantiable C N ∈ GW) (hini : Cond.initialized C ∈ GW)
    (hK : KK D cy s) (hT : TY D cy base τ G H) (hS : va_S (RA base) H0 H locs) (hZ : base ≤ H0.size) (hc : vwCl[ci]? = some (C, T, N)) (hfs : ∀ j, j < N → defaultValue (ty j) = vp_V fs j) (hcells : cells + 1 ≤ R.cells) (hslots : slots + N ≤ R.slots) (hdg : decode cc pc = .ok (.new index, 3))
    (kk : ∀ (q : Nat) (H1 : Heap), TYR D cy base τ G [(q, .inr (ci, fs))] H1 → va_S (RA base) H0 H1 locs → W p l e R s m args below meth c H1 locs (cells + 1) (slots + N) Qf (F0 m (pc + 3) ls (.ref q :: rest))) : W p l e R s m args below meth c H locs cells slots Qf (F0 m pc ls rest) := by
  obtain ⟨ws, hP, hD, hO, hR⟩ := hT
  exact va_new hx hb hts hin ty hty hown (hts _ hcl) (hts _ hinst) (hts _ hini) hK.1 hP hD hS (fun q h => Nat.le_trans hZ h) hc hfs hcells hslots hdg (fun q H1 hP1 hD1 hS1 => kk q H1 ⟨ws, hP1, hD1, hO, hR⟩ hS1)
theorem t_newp {atype : ArrayType} {ty : FieldType} (t0 : Nat) {cA : ClassId} (hx : p.tables.exec = Jvm.exec) (hb : c.code = cc) (hts : ∀ w ∈ GW, w.before args s = true) (harr : Cond.arrayClass (newarray.typeOf atype) ∈ GW) (hty : newarray.typeOf atype = ty) (hK : KK D cy s) (hk : (tyL cy)[t0]? = some (cA, ty)) (hone : ∀ c : ClassId, va_RA s c ty → s.vm.findClass ("[" ++ ty.toString) = some c) (hT : TY D cy base τ G H) (hS : va_S (RA base) H0 H locs) (hZ : base ≤ H0.size)
    {k : Int32} {N' : Nat} {a0 : vp_A} (ha : ∀ cA : ClassId, vp_cell cA a0 = arrV cA N' (fun _ => defaultValue ty)) (hn : ¬ k < 0) (hN : k.toNatClampNeg = N') (hbytes : N' * componentBytes ty ≤ 536870912) (hcells : cells + 1 ≤ R.cells) (hslots : slots + N' ≤ R.slots) (hdg : decode cc pc = .ok (.newarray atype, 2))
    (kk : ∀ (q : Nat) (H1 : Heap), TYR D cy base τ G [(q, .inl (cA, a0))] H1 → va_S (RA base) H0 H1 locs → W p l e R s m args below meth c H1 locs (cells + 1) (slots + N') Qf (F0 m (pc + 2) ls (.ref q :: rest))) : W p l e R s m args below meth c H locs cells slots Qf (F0 m pc ls (.int k :: rest)) := by
  obtain ⟨ws, hP, hD, hO, hR⟩ := hT
  exact newp t0 hx hb hts harr hty hK hk hone hP hD hS (fun q h => Nat.le_trans hZ h) ha hn hN hbytes hcells hslots hdg (fun q H1 hP1 hD1 hS1 => kk q H1 ⟨ws, hP1, hD1, hO, hR⟩ hS1)
theorem tyr_join {wc w1 : va_W} {H1 : Heap} (hX : TYR D cy base τ G wc H) (hF : ∀ q, H.size ≤ q → RA base q) (hk : ∀ q : Nat, q < H.size → ¬ va_A wc H.size q → H1[q]? = H[q]?) (hP1 : va_P D vwCl w1 H1) (hD1 : va_D (va_A wc H.size) w1) : TYR D cy base τ G w1 H1 ∧ ∀ q, va_A wc H.size q → RA base q := by
  obtain ⟨ws, hP, hD, hO, hR⟩ := hX
  have lft : ∀ (k : Nat) (q : Nat × va_E), ws[k]? = some q → (ws ++ wc)[k]? = some q := fun k q h => by rw [List.getElem?_append_left (List.getElem?_eq_some_iff.mp h).1]; exact h
  have rgt : ∀ (k : Nat) (q : Nat × va_E), wc[k]? = some q → (ws ++ wc)[ws.length + k]? = some q := fun k q h => by rw [List.getElem?_append_right (by omega), Nat.add_sub_cancel_left]; exact h
  have hF2 : ∀ q, va_A wc H.size q → RA base q := by
    intro q h
    rcases h with ⟨k, e, h⟩ | h
    · exact hD.2 _ _ (rgt k (q, e) h)
    · exact hF q h
  have apart : ∀ (k : Nat) (q : Nat × va_E), ws[k]? = some q → q.1 < H.size ∧ ¬ va_A wc H.size q.1 := by
    intro k q hq
    have hl := (hP k q (lft k q hq)).lt
    refine ⟨hl, fun h => ?_⟩
    rcases h with ⟨k2, e, h⟩ | h
    · have e1 := hD.1 k _ q (q.1, e) (lft k q hq) (rgt k2 (q.1, e) h) rfl
      have := (List.getElem?_eq_some_iff.mp hq).1
      omega
    · omega
  refine ⟨⟨ws, va_P.app (fun k q hq => ?_) hP1, va_D.app ⟨fun i j x y hi hj => hD.1 i j x y (lft i x hi) (lft j y hj), fun k q hq => hD.2 k q (lft k q hq)⟩ (hD1.weaken (fun k q _ h => hF2 q.1 h)) (fun i j x y hx hy hxy => ?_), hO, hR⟩, hF2⟩
  · obtain ⟨g1, g2⟩ := apart k q hq
    exact (hP k q (lft k q hq)).kept (hk q.1 g1 g2)
  · exact (apart i x hx).2 (by rw [hxy]; exact hD1.2 j y hy)
theorem t_ctor {av : Array Value} {S : Type} {post : Option Value → S → Prop} {w1 : S → va_W} {wc : va_W} (hr : va_Run p l e R s m args below meth c H locs cells slots mc ms (F0 m pc ls st0) rest (QQ (QW D (va_A wc H.size) post w1) av) (va_A wc H.size)) (hX : TYR D cy base τ G wc H) (hS : va_S (RA base) H0 H locs) (hZ : base ≤ H0.size)
    (kk : ∀ (v : Option Value) (u : S) (H1 : Heap) (locs1 : List Loc), post v u → TYR D cy base τ G (w1 u) H1 → va_S (RA base) H0 H1 locs1 → W p l e R s m args below meth c H1 locs1 (cells + mc) (slots + ms) Qf (F0 m (pc + 3) ls (v.toList ++ rest))) : W p l e R s m args below meth c H locs cells slots Qf (F0 m pc ls st0) := by
  refine go_call hr (fun v H1 L hq hL => ?_)
  obtain ⟨⟨hz, hk⟩, u, hp, hP1, hD1⟩ := hq
  obtain ⟨hX1, hF⟩ := tyr_join (w1 := w1 u) hX (fun q h => Nat.le_trans hZ (Nat.le_trans hS.1 h)) hk hP1 hD1
  refine kk v u H1 (locs ++ L) hp hX1 ⟨Nat.le_trans hS.1 hz, fun q h1 h2 => ?_, fun q hq => ?_⟩
  · rw [hk q (Nat.lt_of_lt_of_le h1 hS.1) (fun z => h2 (hF q z))]
    exact hS.2.1 q h1 h2
  · rcases List.mem_append.mp hq with h | h
    · exact hS.2.2 q h
    · exact hF _ (hL q h)
/-- behind a call with which the tags grow -/
theorem t_calle {av : Array Value} {S : List Nat} {post : Option Value → (Nat → Nat) → Gh → Prop} (hr : va_Run p l e R s m args below meth c H locs cells slots mc ms (F0 m pc ls st0) rest (QQ (QE D cy base τ G S post) av) (RA base)) (hS : va_S (RA base) H0 H locs)
    (kk : ∀ (v : Option Value) (τ1 : Nat → Nat) (G1 : Gh) (H1 : Heap) (locs1 : List Loc), EX τ τ1 → Fr τ S G G1 → post v τ1 G1 → TY D cy base τ1 G1 H1 → va_S (RA base) H0 H1 locs1 → W p l e R s m args below meth c H1 locs1 (cells + mc) (slots + ms) Qf (F0 m (pc + 3) ls (v.toList ++ rest))) : W p l e R s m args below meth c H locs cells slots Qf (F0 m pc ls st0) := by
  refine go_call hr (fun v H1 L hq hL => ?_)
  obtain ⟨⟨hz, hk⟩, τ1, G1, hE, hF, hp, hT1⟩ := hq
  refine kk v τ1 G1 H1 (locs ++ L) hE hF hp hT1 ⟨Nat.le_trans hS.1 hz, fun q h1 h2 => ?_, fun q hq => ?_⟩
  · rw [hk q (Nat.lt_of_lt_of_le h1 hS.1) h2]
    exact hS.2.1 q h1 h2
  · rcases List.mem_append.mp hq with h | h
    · exact hS.2.2 q h
    · exact hL q h
theorem t_aast4 {n : Nat} {i : Int32} {q : Nat} (af : shp t = .inr 4) (ht : t ≠ 0) (hx : p.tables.exec = Jvm.exec) (hb : c.code = cc) (hK : KK D cy s) (hT : TY D cy base τ G H) (hS : va_S (RA base) H0 H locs) (ha : τ a = t) (hn : G.2.2.2 a = n) (hi : 0 ≤ i.toInt ∧ i.toInt < n) (hq : τ q = 9) (hrg : Rgr τ G.2.2.2 t i.toNatClampNeg (some q)) (hdg : decode cc pc = .ok (.aastore, 1))
    (kk : ∀ (H1 : Heap) (locs1 : List Loc) (G1 : Gh), G1 = wR G a i.toNatClampNeg (some q) → TY D cy base τ G1 H1 → va_S (RA base) H0 H1 locs1 → W p l e R s m args below meth c H1 locs1 cells slots Qf (F0 m (pc + 1) ls rest)) : W p l e R s m args below meth c H locs cells slots Qf (F0 m pc ls (.ref q :: .int i :: .ref a :: rest)) := by
  obtain ⟨ws, hP, hD, hO, hR⟩ := hT
  obtain ⟨j, hj⟩ := ty_arr (cy := cy) af ht ha hO
  obtain ⟨j2, hj2⟩ := hO q (by rw [hq]; decide)
  rw [ENT_o hq rfl] at hj2
  refine va_astq hx hb hK.1 hP hD hS j 4 j2 6 (r := (RX6, TX6, 2)) (n := G.2.2.2 a) (f := G.2.2.1 a) hj rfl hj2 rfl (vp_in_iff.mpr (by rw [hn]; exact hi)) hdg (fun H1 l1 hP1 hD1 hS1 => kk H1 l1 _ rfl (ty_set (by rw [ENT_a ha af]; exact hj) hP1 hD1 hO ?_ (fun b hb => ENT_congr rfl rfl (wR_o hb) rfl) (hR.wR ha hrg)) hS1)
  rw [ENT_a ha af]; unfold arE; rw [wR_up]; rfl
theorem t_aast5 {n : Nat} {i : Int32} {q : Nat} (af : shp t = .inr 5) (ht : t ≠ 0) (hx : p.tables.exec = Jvm.exec) (hb : c.code = cc) (hK : KK D cy s) (hT : TY D cy base τ G H) (hS : va_S (RA base) H0 H locs) (ha : τ a = t) (hn : G.2.2.2 a = n) (hi : 0 ≤ i.toInt ∧ i.toInt < n) (hq : τ q = 10) (hrg : Rgr τ G.2.2.2 t i.toNatClampNeg (some q)) (hdg : decode cc pc = .ok (.aastore, 1))
    (kk : ∀ (H1 : Heap) (locs1 : List Loc) (G1 : Gh), G1 = wR G a i.toNatClampNeg (some q) → TY D cy base τ G1 H1 → va_S (RA base) H0 H1 locs1 → W p l e R s m args below meth c H1 locs1 cells slots Qf (F0 m (pc + 1) ls rest)) : W p l e R s m args below meth c H locs cells slots Qf (F0 m pc ls (.ref q :: .int i :: .ref a :: rest)) := by
  obtain ⟨ws, hP, hD, hO, hR⟩ := hT
  obtain ⟨j, hj⟩ := ty_arr (cy := cy) af ht ha hO
  obtain ⟨j2, hj2⟩ := hO q (by rw [hq]; decide)
  rw [ENT_o hq rfl] at hj2
  refine va_astq hx hb hK.1 hP hD hS j 5 j2 1 (r := (RX1, TX1, 2)) (n := G.2.2.2 a) (f := G.2.2.1 a) hj rfl hj2 rfl (vp_in_iff.mpr (by rw [hn]; exact hi)) hdg (fun H1 l1 hP1 hD1 hS1 => kk H1 l1 _ rfl (ty_set (by rw [ENT_a ha af]; exact hj) hP1 hD1 hO ?_ (fun b hb => ENT_congr rfl rfl (wR_o hb) rfl) (hR.wR ha hrg)) hS1)
  rw [ENT_a ha af]; unfold arE; rw [wR_up]; rfl
end GROW
