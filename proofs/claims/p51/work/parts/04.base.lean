/-! ===== base: one list of words for all methods; contracts over heaps; pure calls; framed calls ===== -/
theorem wsG : ∀ w ∈ GW, goodWord w = true := gw_good
theorem goodG {y : MethodName} {cc : ByteArray} {maxL : Nat} {ret : Option FieldType} (h : Cond.code y cc maxL ret ∈ GW) : GoodIn GW (Cond.code y cc maxL ret :: GW) := by
  intro w hw
  rcases List.mem_cons.mp hw with rfl | h2
  · exact ⟨h, good_of_word (wsG _ h)⟩
  · exact ⟨h2, good_of_word (wsG _ h2)⟩
/-- the array classes: bytes, ints, longs, booleans, rows, images -/
def tyL (cy : Nat → ClassId) : List (ClassId × FieldType) := [(cy 0, .byte), (cy 1, .int), (cy 2, .long), (cy 3, .boolean), (cy 4, .object RX6), (cy 5, .object RX1)]
def nwL : List (String × Nat × MethodName) := [(RX9, 15, yX4_init), (RX4, 21, yX2_init), (RX9, 22, yX8_init), (RX8, 11, yX5_init), (RX9, 29, yX3_init), (RX3, 24, yX2_init), (RX9, 36, yX7_init), (RX9, 43, yX0_init), (RX9, 66, yX2_init)]
/-- what a state says of classes and of links between nest mates -/
def KK (D : va_G) (cy : Nat → ClassId) (U : State) : Prop := va_K D vwCl (tyL cy) U ∧ (∀ q ∈ nwL, va_Nw (.methodLinkNest q.1 q.2.1 q.2.2 "RoadShut") U) ∧ va_AO RX6 U ∧ va_AO RX1 U
theorem KK.moved {D : va_G} {cy : Nat → ClassId} {s U : State} (hW : s.WarmedH U.vm) (h : KK D cy s) : KK D cy U :=
  ⟨va_K.moved hW.alike h.1, fun q hq => va_Nw.warmM hW (h.2.1 q hq), h.2.2.1.moved hW.alike, h.2.2.2.moved hW.alike⟩
theorem KK.blind {D : va_G} {cy : Nat → ClassId} {U : State} {g : JFrame} {mk : MethodId} {a : Array Value} (h : KK D cy U) : KK D cy (U.calling g mk a) :=
  ⟨va_K.moved (u := U) (U := U.calling g mk a) (Vm.Alike.refl U.vm) h.1, fun q hq => va_Nw.same rfl (rfl : U.vm = (U.calling g mk a).vm) (h.2.1 q hq), va_AO.moved (u := U) (U := U.calling g mk a) (Vm.Alike.refl U.vm) h.2.2.1, va_AO.moved (u := U) (U := U.calling g mk a) (Vm.Alike.refl U.vm) h.2.2.2⟩
abbrev RM (d mc ms : Nat) : Room := { frames := d, cells := mc, slots := ms, locals := 100 * d }
abbrev PP (av : List Value) (P : Heap → Prop) (D : va_G) (cy : Nat → ClassId) : Array Value → State → Prop := fun v U => v = av.toArray ∧ P U.heap ∧ KK D cy U
def QQ (Q : Heap → Option Value → Heap → Prop) : Array Value → State → Outcome → State → Prop := fun _ st o t => ∃ v, o = .returned v ∧ Q st.heap v t.heap
theorem PP.blind {av : List Value} {P : Heap → Prop} {D : va_G} {cy : Nat → ClassId} : FrameBlind (PP av P D cy) := fun _ _ _ _ h => ⟨h.1, h.2.1, h.2.2.blind⟩
/-- a contract: from heaps with P, at these arguments, to heaps with Q -/
def MM (l : Launch) (y : MethodName) (cc : ByteArray) (maxL : Nat) (ret : Option FieldType) (d mc ms : Nat) (D : va_G) (cy : Nat → ClassId) (av : List Value) (P : Heap → Prop) (Q : Heap → Option Value → Heap → Prop) (free : Addr → Prop) : Prop :=
  Met l y (Cond.code y cc maxL ret :: GW) (RM d mc ms) (PP av P D cy) (QQ Q) mc ms free
/-- what a body knows of its method -/
def CX (p : Program) (s : State) (m : MethodId) (meth : Method) (c : Code) (y : MethodName) (cc : ByteArray) (maxL : Nat) (ret : Option FieldType) (av : List Value) (D : va_G) (cy : Nat → ClassId) : Prop :=
  p.tables.exec = Jvm.exec ∧ c.code = cc ∧ meth.sig.returnType = ret ∧ c.maxLocals = maxL ∧ s.vm.findClass y.cls = some m.cls ∧ (∀ w ∈ GW, w.before av.toArray s = true) ∧ meth.locks = false ∧ KK D cy s ∧ meth.name = y.name
theorem MM.of {l : Launch} {y : MethodName} {cc : ByteArray} {maxL : Nat} {ret : Option FieldType} {d mc ms : Nat} {D : va_G} {cy : Nat → ClassId} {av : List Value} {P : Heap → Prop} {Q : Heap → Option Value → Heap → Prop} {free : Addr → Prop} (hy : plainName y.cls = true) (hlen : (lg_sl av).length ≤ maxL)
    (body : ∀ (p : Program) (e : Env) (s : State) (m : MethodId) (below : List Frame) (meth : Method) (c : Code), CX p s m meth c y cc maxL ret av D cy → P s.heap → ∀ ls : Array Slot, lv_has ls maxL (lv_args 0 av) → W p l e (RM d mc ms) s m av.toArray below meth c s.heap [] 0 0 (MQ below (QQ Q) av.toArray s mc ms free) (F0 m 0 ls [])) : MM l y cc maxL ret d mc ms D cy av P Q free := by
  refine Met.ofW (cc := cc) (maxL := maxL) (ret := ret) hy rfl ?_
  intro p e s m args below meth c s₁ B hml hv
  obtain ⟨rfl, hP, hK⟩ := hv
  have hts := atoms_spec (ws := Cond.code y cc maxL ret :: GW) B.pre
  have hl := lv_entry av (n := maxL) hlen
  rw [lg_entry_eq]
  exact body p e s m below meth c ⟨B.exec, B.bytes, B.returns, hml, findClass_of_methodNamed B.named, fun w h => hts w (List.mem_cons_of_mem _ h), B.notSynchronized, hK, (name_of_methodNamed B.named B.method).1⟩ hP _ hl
def noF : Addr → Prop := fun _ => False
/-- a pure method: the heap stays -/
def Pu (post : Option Value → Prop) : Heap → Option Value → Heap → Prop := fun H v H1 => H1 = H ∧ post v
abbrev PuI (R : Int32 → Prop) : Heap → Option Value → Heap → Prop := Pu (fun v => ∃ r : Int32, v = some (.int r) ∧ R r)
abbrev PuL (R : Int64 → Prop) : Heap → Option Value → Heap → Prop := Pu (fun v => ∃ r : Int64, v = some (.long r) ∧ R r)
/-- a method that changes cells of its world alone -/
def QW (D : va_G) (A : Nat → Prop) {S : Type} (post : Option Value → S → Prop) (w1 : S → va_W) : Heap → Option Value → Heap → Prop := fun H v H1 => (H.size ≤ H1.size ∧ ∀ q : Nat, q < H.size → ¬ A q → H1[q]? = H[q]?) ∧ ∃ u : S, post v u ∧ va_P D vwCl (w1 u) H1 ∧ va_D A (w1 u)
def PW (D : va_G) (wc : va_W) (sz : Nat) : Heap → Prop := fun H => H.size = sz ∧ va_P D vwCl wc H ∧ va_D (fun _ => True) wc
section BASE
variable {p : Program} {l : Launch} {e : Env} {R : Room} {s : State} {m : MethodId} {args : Array Value} {below : List Frame} {meth : Method} {c : Code} {H : Heap} {locs : List Loc} {cells slots : Nat} {Qf : State → Prop}
variable {cc : ByteArray} {pc : Nat} {ls : Array Slot} {rest st0 : List Value} {D : va_G} {cy : Nat → ClassId} {A : Nat → Prop} {a : Nat} {ws : va_W} {H0 : Heap} {mc ms : Nat} {free : Addr → Prop} {Q : Heap → Option Value → Heap → Prop}
theorem ret_i {v : Int32} (hx : p.tables.exec = Jvm.exec) (hb : c.code = cc) (hr : meth.sig.returnType = some .int) (hlocks : meth.locks = false) (hq : Q s.heap (some (.int v)) H) (hf : ∀ q ∈ locs, free q.base) (hc : cells ≤ mc) (hs : slots ≤ ms) (hdg : decode cc pc = .ok (.ireturn, 1)) : W p l e R s m args below meth c H locs cells slots (MQ below (QQ Q) args s mc ms free) (F0 m pc ls [.int v]) :=
  W.widen hc hs (W.iret hx hb hr (fun t ht _ => ⟨_, rfl, by rw [ht]; exact hq⟩) hf hdg hlocks)
theorem ret_z {v : Int32} {ty : FieldType} (hx : p.tables.exec = Jvm.exec) (hb : c.code = cc) (hr : meth.sig.returnType = some ty) (hn : narrow ty (.int v) = .int v) (hlocks : meth.locks = false) (hq : Q s.heap (some (.int v)) H) (hf : ∀ q ∈ locs, free q.base) (hc : cells ≤ mc) (hs : slots ≤ ms) (hdg : decode cc pc = .ok (.ireturn, 1)) : W p l e R s m args below meth c H locs cells slots (MQ below (QQ Q) args s mc ms free) (F0 m pc ls [.int v]) :=
  W.widen hc hs (W.zret hx hb hr hn (fun t ht _ => ⟨_, rfl, by rw [ht]; exact hq⟩) hf hdg hlocks)
theorem ret_l {v : Int64} (hx : p.tables.exec = Jvm.exec) (hb : c.code = cc) (hr : meth.sig.returnType = some .long) (hlocks : meth.locks = false) (hq : Q s.heap (some (.long v)) H) (hf : ∀ q ∈ locs, free q.base) (hc : cells ≤ mc) (hs : slots ≤ ms) (hdg : decode cc pc = .ok (.lreturn, 1)) : W p l e R s m args below meth c H locs cells slots (MQ below (QQ Q) args s mc ms free) (F0 m pc ls [.long v]) :=
  W.widen hc hs (W.lret hx hb hr (fun t ht _ => ⟨_, rfl, by rw [ht]; exact hq⟩) hf hdg hlocks)
theorem ret_v (hx : p.tables.exec = Jvm.exec) (hb : c.code = cc) (hr : meth.sig.returnType = none) (hlocks : meth.locks = false) (hq : Q s.heap none H) (hf : ∀ q ∈ locs, free q.base) (hc : cells ≤ mc) (hs : slots ≤ ms) (hdg : decode cc pc = .ok (.return_, 1)) : W p l e R s m args below meth c H locs cells slots (MQ below (QQ Q) args s mc ms free) (F0 m pc ls []) :=
  W.widen hc hs (W.vret hx hb hr (fun t ht _ => ⟨_, rfl, by rw [ht]; exact hq⟩) hf hdg hlocks)
theorem ret_a {v : Value} {rt : FieldType} (hx : p.tables.exec = Jvm.exec) (hb : c.code = cc) (hr : meth.sig.returnType = some rt) (hrt : (∃ n, rt = .object n) ∨ ∃ t, rt = .array t) (hv : v = .null ∨ ∃ a, v = .ref a) (hlocks : meth.locks = false) (hq : Q s.heap (some v) H) (hf : ∀ q ∈ locs, free q.base) (hc : cells ≤ mc) (hs : slots ≤ ms) (hdg : decode cc pc = .ok (.areturn, 1)) : W p l e R s m args below meth c H locs cells slots (MQ below (QQ Q) args s mc ms free) (F0 m pc ls [v]) :=
  W.widen hc hs (W.aret hx hb hr hrt hv (fun t ht _ => ⟨_, rfl, by rw [ht]; exact hq⟩) hf hdg hlocks)
theorem go_call {av : Array Value} (hr : va_Run p l e R s m args below meth c H locs cells slots mc ms (F0 m pc ls st0) rest (QQ Q av) free)
    (kk : ∀ (v : Option Value) (H1 : Heap) (L : List Loc), Q H v H1 → (∀ q ∈ L, free q.base) → W p l e R s m args below meth c H1 (locs ++ L) (cells + mc) (slots + ms) Qf (F0 m (pc + 3) ls (v.toList ++ rest))) : W p l e R s m args below meth c H locs cells slots Qf (F0 m pc ls st0) := by
  intro T hT X
  obtain ⟨v, st₀, t, T', L, h0, X', hL, e1, e2, ⟨v', hv, hq⟩, st⟩ := hr T hT X
  cases hv
  rw [h0, ← e1] at hq
  obtain ⟨t2, a1, b1⟩ := kk v T'.heap L hq hL T' rfl X'
  exact ⟨t2, st t2 a1, b1⟩
theorem pu_call {av : Array Value} {post : Option Value → Prop} (hr : va_Run p l e R s m args below meth c H locs cells slots 0 0 (F0 m pc ls st0) rest (QQ (Pu post) av) noF)
    (kk : ∀ v : Option Value, post v → W p l e R s m args below meth c H locs cells slots Qf (F0 m (pc + 3) ls (v.toList ++ rest))) : W p l e R s m args below meth c H locs cells slots Qf (F0 m pc ls st0) := by
  refine go_call hr (fun v H1 L hq hL => ?_)
  obtain ⟨rfl, hp⟩ := hq
  cases L with
  | nil => rw [List.append_nil]; exact kk v hp
  | cons q L => exact (hL q List.mem_cons_self).elim
theorem pu_calli {av : Array Value} {post : Int32 → Prop} (hr : va_Run p l e R s m args below meth c H locs cells slots 0 0 (F0 m pc ls st0) rest (QQ (PuI post) av) noF)
    (kk : ∀ r : Int32, post r → W p l e R s m args below meth c H locs cells slots Qf (F0 m (pc + 3) ls (.int r :: rest))) : W p l e R s m args below meth c H locs cells slots Qf (F0 m pc ls st0) := by
  refine pu_call hr (fun v hv => ?_)
  obtain ⟨r, rfl, h⟩ := hv
  exact kk r h
theorem pu_calll {av : Array Value} {post : Int64 → Prop} (hr : va_Run p l e R s m args below meth c H locs cells slots 0 0 (F0 m pc ls st0) rest (QQ (PuL post) av) noF)
    (kk : ∀ r : Int64, post r → W p l e R s m args below meth c H locs cells slots Qf (F0 m (pc + 3) ls (.long r :: rest))) : W p l e R s m args below meth c H locs cells slots Qf (F0 m pc ls st0) := by
  refine pu_call hr (fun v hv => ?_)
  obtain ⟨r, rfl, h⟩ := hv
  exact kk r h
/-- behind a call that changes its own world: the rest of the caller's cells, and what came back -/
theorem fw_call {av : Array Value} {S : Type} {post : Option Value → S → Prop} {w1 : S → va_W} {wc wr : va_W} (hr : va_Run p l e R s m args below meth c H locs cells slots mc ms (F0 m pc ls st0) rest (QQ (QW D (va_A wc H.size) post w1) av) (va_A wc H.size))
    (hP : va_P D vwCl ws H) (hD : va_D A ws) (hS : va_S A H0 H locs) (hA : ∀ q, H0.size ≤ q → A q) (isC isR : List Nat) (hC : isC.map (fun i => ws[i]?) = wc.map some) (hR : isR.map (fun i => ws[i]?) = wr.map some) (hn : va_nd isR = true) (hdis : ∀ i ∈ isR, i ∉ isC)
    (kk : ∀ (v : Option Value) (u : S) (H1 : Heap) (locs1 : List Loc), post v u → va_P D vwCl (wr ++ w1 u) H1 → va_D A (wr ++ w1 u) → va_S A H0 H1 locs1 → W p l e R s m args below meth c H1 locs1 (cells + mc) (slots + ms) Qf (F0 m (pc + 3) ls (v.toList ++ rest))) : W p l e R s m args below meth c H locs cells slots Qf (F0 m pc ls st0) := by
  refine go_call hr (fun v H1 L hq hL => ?_)
  obtain ⟨⟨hz, hk⟩, u, hp, hP1, hD1⟩ := hq
  have hF := va_free (wc := wc) hD hS hA isC hC
  obtain ⟨hP2, hD2⟩ := va_join (wr := wr) (w1 := w1 u) hP hD isC isR hC hR hn hdis hk hF hP1 hD1
  refine kk v u H1 (locs ++ L) hp hP2 hD2 ⟨Nat.le_trans hS.1 hz, fun q h1 h2 => ?_, fun q hq => ?_⟩
  · rw [hk q (Nat.lt_of_lt_of_le h1 hS.1) (fun z => h2 (hF q z))]
    exact hS.2.1 q h1 h2
  · rcases List.mem_append.mp hq with h | h
    · exact hS.2.2 q h
    · exact hF _ (hL q h)
variable {y : MethodName} {cy0 : Nat → ClassId} {bytes : ByteArray} {maxL nL n index d : Nat} {ret : Option FieldType} {own : String} {b : Addr} {As : List Value} {P : Heap → Prop}
abbrev Dn (y : MethodName) (n : Nat) : Prop := y.cls ≠ "java/lang/invoke/MethodHandle" ∧ y.cls ≠ "java/lang/invoke/VarHandle" ∧ (parseMethodDescriptor y.desc).map (fun d => d.parameters.length) = some n
def SiteV (own : String) (index : Nat) (y : MethodName) (bytes : ByteArray) (maxL : Nat) (ret : Option FieldType) (n : Nat) : Prop := Cond.methodLink own index y ∈ GW ∧ Cond.instanceMethod y ∈ GW ∧ Cond.selects y.cls y y ∈ GW ∧ Cond.initialized y.cls ∈ GW ∧ Cond.code y bytes maxL ret ∈ GW ∧ Dn y n
def SiteS (own : String) (index : Nat) (y : MethodName) (bytes : ByteArray) (maxL : Nat) (ret : Option FieldType) (n : Nat) : Prop := Cond.methodLink own index y ∈ GW ∧ Cond.static y ∈ GW ∧ Cond.initialized y.cls ∈ GW ∧ Cond.code y bytes maxL ret ∈ GW ∧ Dn y n
def SiteI (own : String) (index : Nat) (y : MethodName) (bytes : ByteArray) (maxL : Nat) (n : Nat) : Prop := Cond.methodLink own index y ∈ GW ∧ Cond.instanceMethod y ∈ GW ∧ Cond.initialized y.cls ∈ GW ∧ Cond.code y bytes maxL none ∈ GW ∧ y.name = "<init>" ∧ Dn y n
def SiteN (own : String) (index : Nat) (y : MethodName) (bytes : ByteArray) (maxL : Nat) (n : Nat) : Prop := (own, index, y) ∈ nwL ∧ Cond.instanceMethod y ∈ GW ∧ Cond.initialized y.cls ∈ GW ∧ Cond.code y bytes maxL none ∈ GW ∧ y.name = "<init>" ∧ Dn y n
theorem runV (S : CallFix p m c cc nL s args GW own) (hM : MM l y bytes maxL ret d mc ms D cy (.ref b :: As) P Q free) (hs : SiteV own index y bytes maxL ret n) (hK : KK D cy s) (hrec : ∃ cell : Cell, H[b]? = some cell ∧ cell.vm.isStatics = false ∧ s.vm.findClass y.cls = some cell.cls) (hp : P H)
    (hd : d + 1 ≤ R.frames ∧ 8 + (maxL + 11) + 100 * d ≤ R.locals) (hn : As.length = n) (hsize : ls.size = nL) (hstack : st0 = As.reverse ++ .ref b :: rest) (hW : (rest.map fun v => v.category).sum ≤ 8) (hdg : decode cc pc = .ok (.invokevirtual index, 3)) (hf : cells + mc ≤ R.cells ∧ slots + ms ≤ R.slots) :
    va_Run p l e R s m args below meth c H locs cells slots mc ms (F0 m pc ls st0) rest (QQ Q (Value.ref b :: As).toArray) free := by
  obtain ⟨h1, h2, h3, h4, h5, h6⟩ := hs
  have ht := S.2.2.2.2
  exact va_runV S hM ⟨callB_of n ht (goodG h5) rfl rfl rfl (ht _ h4) (ht _ h1) h6 hd, ht _ h2, ht _ h3⟩ ⟨PP.blind, hrec, fun U hU hW => ⟨rfl, by rw [hU]; exact hp, hK.moved hW⟩⟩ rfl hn hsize hstack (lv_room hW) hdg hf
theorem runS (S : CallFix p m c cc nL s args GW own) (hM : MM l y bytes maxL ret d mc ms D cy As P Q free) (hs : SiteS own index y bytes maxL ret n) (hK : KK D cy s) (hp : P H)
    (hd : d + 1 ≤ R.frames ∧ 8 + (maxL + 11) + 100 * d ≤ R.locals) (hn : As.length = n) (hsize : ls.size = nL) (hstack : st0 = As.reverse ++ rest) (hW : (rest.map fun v => v.category).sum ≤ 8) (hdg : decode cc pc = .ok (.invokestatic index, 3)) (hf : cells + mc ≤ R.cells ∧ slots + ms ≤ R.slots) :
    va_Run p l e R s m args below meth c H locs cells slots mc ms (F0 m pc ls st0) rest (QQ Q As.toArray) free := by
  obtain ⟨h1, h2, h4, h5, h6⟩ := hs
  have ht := S.2.2.2.2
  exact va_runS S hM ⟨callB_of n ht (goodG h5) rfl rfl rfl (ht _ h4) (ht _ h1) h6 hd, ht _ h2⟩ ⟨PP.blind, fun U hU hW => ⟨rfl, by rw [hU]; exact hp, hK.moved hW⟩⟩ rfl hn hsize hstack (lv_room hW) hdg hf
theorem runI (S : CallFix p m c cc nL s args GW own) (hM : MM l y bytes maxL none d mc ms D cy (.ref b :: As) P Q free) (hs : SiteI own index y bytes maxL n) (hK : KK D cy s) (hp : P H)
    (hd : d + 1 ≤ R.frames ∧ 8 + (maxL + 11) + 100 * d ≤ R.locals) (hn : As.length = n) (hsize : ls.size = nL) (hstack : st0 = As.reverse ++ .ref b :: rest) (hW : (rest.map fun v => v.category).sum ≤ 8) (hdg : decode cc pc = .ok (.invokespecial index, 3)) (hf : cells + mc ≤ R.cells ∧ slots + ms ≤ R.slots) :
    va_Run p l e R s m args below meth c H locs cells slots mc ms (F0 m pc ls st0) rest (QQ Q (Value.ref b :: As).toArray) free := by
  obtain ⟨h1, h2, h4, h5, hnm, h6⟩ := hs
  have ht := S.2.2.2.2
  exact va_runI S hM ⟨callB_of n ht (goodG h5) rfl rfl rfl (ht _ h4) (ht _ h1) h6 hd, hnm, ht _ h2⟩ ⟨PP.blind, fun U hU hW => ⟨rfl, by rw [hU]; exact hp, hK.moved hW⟩⟩ rfl hn hsize hstack (lv_room hW) hdg hf
theorem runN (S : CallFix p m c cc nL s args GW own) (hM : MM l y bytes maxL none d mc ms D cy (.ref b :: As) P Q free) (hs : SiteN own index y bytes maxL n) (hK : KK D cy s) (hp : P H)
    (hd : d + 1 ≤ R.frames ∧ 8 + (maxL + 11) + 100 * d ≤ R.locals) (hn : As.length = n) (hsize : ls.size = nL) (hstack : st0 = As.reverse ++ .ref b :: rest) (hW : (rest.map fun v => v.category).sum ≤ 8) (hdg : decode cc pc = .ok (.invokespecial index, 3)) (hf : cells + mc ≤ R.cells ∧ slots + ms ≤ R.slots) :
    va_Run p l e R s m args below meth c H locs cells slots mc ms (F0 m pc ls st0) rest (QQ Q (Value.ref b :: As).toArray) free := by
  obtain ⟨h1, h2, h4, h5, hnm, h6⟩ := hs
  have ht := S.2.2.2.2
  exact va_runIN S hM ⟨va_cnB n ht (goodG h5) rfl rfl rfl (hK.2.1 _ h1) (ht _ h4) h6 hd, hnm, ht _ h2⟩ ⟨PP.blind, fun U hU hW => ⟨rfl, by rw [hU]; exact hp, hK.moved hW⟩⟩ rfl hn hsize hstack (lv_room hW) hdg hf
theorem PW.of {wc : va_W} (hP : va_P D vwCl ws H) (hD : va_D A ws) (isC : List Nat) (hn : va_nd isC = true) (h1 : isC.filterMap (fun i => ws[i]?) = wc) (h2 : isC.map (fun i => ws[i]?) = wc.map some) : PW D wc H.size H := ⟨rfl, hP.sub isC h1, (hD.sub isC hn h2).weaken (fun _ _ _ _ => trivial)⟩
/-- a new array of a kind whose class is known -/
theorem newp {atype : ArrayType} {ty : FieldType} (t0 : Nat) {cA : ClassId} (hx : p.tables.exec = Jvm.exec) (hb : c.code = cc) (hts : ∀ w ∈ GW, w.before args s = true) (harr : Cond.arrayClass (newarray.typeOf atype) ∈ GW) (hty : newarray.typeOf atype = ty) (hK : KK D cy s) (hk : (tyL cy)[t0]? = some (cA, ty)) (hone : ∀ c : ClassId, va_RA s c ty → s.vm.findClass ("[" ++ ty.toString) = some c) (hP : va_P D vwCl ws H) (hD : va_D A ws) (hS : va_S A H0 H locs) (hA : ∀ q, H0.size ≤ q → A q)
    {k : Int32} {N' : Nat} {a0 : vp_A} (ha : ∀ cA : ClassId, vp_cell cA a0 = arrV cA N' (fun _ => defaultValue ty)) (hn : ¬ k < 0) (hN : k.toNatClampNeg = N') (hbytes : N' * componentBytes ty ≤ 536870912) (hcells : cells + 1 ≤ R.cells) (hslots : slots + N' ≤ R.slots) (hdg : decode cc pc = .ok (.newarray atype, 2))
    (kk : ∀ (q : Nat) (H1 : Heap), va_P D vwCl (ws ++ [(q, .inl (cA, a0))]) H1 → va_D A (ws ++ [(q, .inl (cA, a0))]) → va_S A H0 H1 locs →
      W p l e R s m args below meth c H1 locs (cells + 1) (slots + N') Qf (F0 m (pc + 2) ls (.ref q :: rest))) : W p l e R s m args below meth c H locs cells slots Qf (F0 m pc ls (.int k :: rest)) := by
  refine va_newa hx hb (hts _ harr) hty hK.1 hP hD hS hA ha hn hN hbytes hcells hslots hdg (fun q cB H1 hK2 hP2 hD2 hS2 => ?_)
  have e1 := hone cB (hK2.2 (tyL cy).length (cB, ty) (by rw [List.getElem?_append_right (Nat.le_refl _), Nat.sub_self]; rfl)).2
  have e2 := hone cA (hK.1.2 t0 (cA, ty) hk).2
  have e3 : cB = cA := Option.some.inj (e1.symm.trans e2)
  subst e3
  exact kk q H1 hP2 hD2 hS2
theorem newq {C : String} (t0 : Nat) {cA : ClassId} (hx : p.tables.exec = Jvm.exec) (hb : c.code = cc) (hts : ∀ w ∈ GW, w.before args s = true) (hown : s.vm.findClass own = some m.cls) (hcl : Cond.classLink own index C ∈ GW) (hAO : va_AO C s) (hK : KK D cy s) (hk : (tyL cy)[t0]? = some (cA, .object C)) (hP : va_P D vwCl ws H) (hD : va_D A ws) (hS : va_S A H0 H locs) (hA : ∀ q, H0.size ≤ q → A q)
    {k : Int32} {N' : Nat} (hn : ¬ k < 0) (hN : k.toNatClampNeg = N') (hbytes : N' * 4 ≤ 536870912) (hcells : cells + 1 ≤ R.cells) (hslots : slots + N' ≤ R.slots) (hdg : decode cc pc = .ok (.anewarray index, 3))
    (kk : ∀ (q : Nat) (H1 : Heap), va_P D vwCl (ws ++ [(q, .inl (cA, N', .inr (.inr (.inr (.inr (fun _ => none))))))]) H1 → va_D A (ws ++ [(q, .inl (cA, N', .inr (.inr (.inr (.inr (fun _ => none))))))]) → va_S A H0 H1 locs →
      W p l e R s m args below meth c H1 locs (cells + 1) (slots + N') Qf (F0 m (pc + 3) ls (.ref q :: rest))) : W p l e R s m args below meth c H locs cells slots Qf (F0 m pc ls (.int k :: rest)) := by
  refine va_newq hx hb hown (hts _ hcl) hAO hK.1 hP hD hS hA hn hN hbytes hcells hslots hdg (fun q cB H1 hK2 hP2 hD2 hS2 => ?_)
  obtain ⟨_, _, _, _, _, e1⟩ := (hK2.2 (tyL cy).length (cB, .object C) (by rw [List.getElem?_append_right (Nat.le_refl _), Nat.sub_self]; rfl)).2
  obtain ⟨_, _, _, _, _, e2⟩ := (hK.1.2 t0 (cA, .object C) hk).2
  have e3 : cB = cA := Option.some.inj (e1.symm.trans e2)
  subst e3
  exact kk q H1 hP2 hD2 hS2
end BASE
