/-! ===== the String constants ===== -/
def kS : List Nat := [108, 114, 122, 126, 130, 45, 141, 145, 149, 54, 157, 162, 163, 59, 171, 176, 181, 64, 69, 74]
def txS : List String := ["winter", "days", "first", "snow", "clear", "thing", "price", "harm", "back", "valley", "shut", "room", "wants", "lorry", "many", "carry", "cost", "plane", "mule", "path"]
def lenS : List Nat := [6, 4, 5, 4, 5, 5, 5, 4, 4, 6, 4, 4, 5, 5, 4, 5, 4, 5, 4, 4]
def bytS : List (List Int32) := [[119, 105, 110, 116, 101, 114], [100, 97, 121, 115], [102, 105, 114, 115, 116], [115, 110, 111, 119], [99, 108, 101, 97, 114], [116, 104, 105, 110, 103], [112, 114, 105, 99, 101], [104, 97, 114, 109], [98, 97, 99, 107], [118, 97, 108, 108, 101, 121], [115, 104, 117, 116], [114, 111, 111, 109], [119, 97, 110, 116, 115], [108, 111, 114, 114, 121], [109, 97, 110, 121], [99, 97, 114, 114, 121], [99, 111, 115, 116], [112, 108, 97, 110, 101], [109, 117, 108, 101], [112, 97, 116, 104]]
theorem lenS_le : ∀ i : Nat, lenS.getD i 0 ≤ 6 := fun i => match i with
  | 0 => by decide
  | 1 => by decide
  | 2 => by decide
  | 3 => by decide
  | 4 => by decide
  | 5 => by decide
  | 6 => by decide
  | 7 => by decide
  | 8 => by decide
  | 9 => by decide
  | 10 => by decide
  | 11 => by decide
  | 12 => by decide
  | 13 => by decide
  | 14 => by decide
  | 15 => by decide
  | 16 => by decide
  | 17 => by decide
  | 18 => by decide
  | 19 => by decide
  | i + 20 => by show ([] : List Nat).getD i 0 ≤ 6; simp
theorem lenS_lt (i : Nat) : lenS.getD i 0 < 2 ^ 31 := by have := lenS_le i; omega
/-- the Strings, COMPACT_STRINGS and the formatter, below the base -/
def SS (adK adV : Nat → Nat) (base : Nat) (U : State) (H : Heap) : Prop :=
  (∀ i : Nat, i < 20 → va_O "java/lang/String" (adK i) (RA base) U H ∧ va_OF "java/lang/String" "coder" "B" (.int 0) (adK i) (RA base) U H ∧ va_OF "java/lang/String" "value" "[B" (.ref (adV i)) (adK i) (RA base) U H ∧ va_T .byte (adV i) (lenS.getD i 0) (fun j => .int ((bytS.getD i []).getD j 0)) (RA base) U H) ∧ (∀ i : Nat, i < 20 → vk_R RX4 (kS.getD i 0) (txS.getD i "") (adK i) U) ∧ va_Z "java/lang/String" "COMPACT_STRINGS" "Z" (.int 1) (RA base) U H ∧ va_Zq "jdk/internal/util/Preconditions" "SIOOBE_FORMATTER" "Ljava/util/function/BiFunction;" (RA base) U H
theorem SS.at {adK adV : Nat → Nat} {base : Nat} {s U : State} {H : Heap} {locs : List Loc} (h : SS adK adV base s s.heap) (hW : s.WarmedH U.vm) (hS : va_S (RA base) s.heap H locs) (hU : U.heap = H) : SS adK adV base U U.heap := by
  obtain ⟨h1, h2, h3, h4⟩ := h
  rw [hU]
  exact ⟨fun i hi => ⟨(va_O.moved hW.alike (h1 i hi).1).kept hS.2.1, (va_OF.moved hW.alike (h1 i hi).2.1).kept hS.2.1, (va_OF.moved hW.alike (h1 i hi).2.2.1).kept hS.2.1, (va_T.moved hW.alike (h1 i hi).2.2.2).kept hS.2.1⟩, fun i hi => (h2 i hi).warm hW, (va_Z.moved hW.alike h3).kept hS.2.1, (va_Zq.moved hW.alike h4).kept hS.2.1⟩
theorem SS.blind {adK adV : Nat → Nat} {base : Nat} {U : State} {g : JFrame} {mk : MethodId} {a : Array Value} (h : SS adK adV base U U.heap) : SS adK adV base (U.calling g mk a) (U.calling g mk a).heap := by
  obtain ⟨h1, h2, h3, h4⟩ := h
  have hv : U.vm.Alike (U.calling g mk a).vm := Vm.Alike.refl U.vm
  exact ⟨fun i hi => ⟨va_O.moved (u := U) (U := U.calling g mk a) hv (h1 i hi).1, va_OF.moved (u := U) (U := U.calling g mk a) hv (h1 i hi).2.1, va_OF.moved (u := U) (U := U.calling g mk a) hv (h1 i hi).2.2.1, va_T.moved (u := U) (U := U.calling g mk a) hv (h1 i hi).2.2.2⟩, fun i hi => vk_R.same (u := U) (U := U.calling g mk a) rfl (h2 i hi), va_Z.moved (u := U) (U := U.calling g mk a) hv h3, va_Zq.moved (u := U) (U := U.calling g mk a) hv h4⟩
theorem ss_of {args : Array Value} {s : State} {tm : Nat → Term} {A : Nat → Prop} (hex : ∀ i : Nat, i < 20 → (Cond.exactly (tm i) "java/lang/String").before args s = true) (hco : ∀ i : Nat, i < 20 → (Cond.eq (.field (tm i) "java/lang/String" "coder" "B") (.int 0)).before args s = true)
    (har : ∀ i : Nat, i < 20 → (Cond.arrayOf (.field (tm i) "java/lang/String" "value" "[B") .byte).before args s = true) (hle : ∀ i : Nat, i < 20 → (Cond.eq (.length (.field (tm i) "java/lang/String" "value" "[B")) (.int (Int32.ofNat (lenS.getD i 0)))).before args s = true)
    (hel : ∀ i : Nat, i < 20 → ∀ j : Nat, j < lenS.getD i 0 → (Cond.eq (.elem (.field (tm i) "java/lang/String" "value" "[B") (.int (Int32.ofNat j))) (.int ((bytS.getD i []).getD j 0))).before args s = true) (hA : ∀ a : Nat, a < s.heap.size → ¬ A a) :
    ∃ adK adV : Nat → Nat, (∀ i : Nat, i < 20 → va_O "java/lang/String" (adK i) A s s.heap ∧ va_OF "java/lang/String" "coder" "B" (.int 0) (adK i) A s s.heap ∧ va_OF "java/lang/String" "value" "[B" (.ref (adV i)) (adK i) A s s.heap ∧ va_T .byte (adV i) (lenS.getD i 0) (fun j => .int ((bytS.getD i []).getD j 0)) A s s.heap) ∧ ∀ i : Nat, i < 20 → (tm i).eval args s none [] s = some (.ref (adK i)) := by
  have h0 : ∀ i : Nat, ∃ q : Nat × Nat, i < 20 → (tm i).eval args s none [] s = some (.ref q.1) ∧ va_O "java/lang/String" q.1 A s s.heap ∧ va_OF "java/lang/String" "coder" "B" (.int 0) q.1 A s s.heap ∧ va_OF "java/lang/String" "value" "[B" (.ref q.2) q.1 A s s.heap ∧ va_T .byte q.2 (lenS.getD i 0) (fun j => .int ((bytS.getD i []).getD j 0)) A s s.heap := by
    intro i
    by_cases hi : i < 20
    · obtain ⟨a, c, cA, kA, q1, q2, q3, q4, q5, q6, -⟩ := Cond.exactly_spec (args := args) (first := s) (o := none) (s := s) (idx := []) (t := tm i) (cls := "java/lang/String") (hex i hi)
      obtain ⟨t, ht, hT⟩ := va_Tof (f := fun j => .int ((bytS.getD i []).getD j 0)) (A := A) (lenS_lt i) (har i hi) (va_eqt (hle i hi)) (fun j hj => va_eqt (hel i hi j hj)) hA
      exact ⟨(a, t), fun _ => ⟨q1, ⟨cA, q3, q5, by rw [q6]; exact q2, hA a (Array.getElem?_eq_some_iff.mp q3).1⟩, vk_OFof q1 (va_eqt (hco i hi)) hA, vk_OFof q1 ht hA, hT⟩⟩
    · exact ⟨(0, 0), fun h => absurd h hi⟩
  obtain ⟨ad, had⟩ := Classical.axiomOfChoice h0
  exact ⟨fun i => (ad i).1, fun i => (ad i).2, fun i hi => (had i hi).2, fun i hi => (had i hi).1⟩
/-- a contract that speaks of the Strings too -/
def MS (l : Launch) (y : MethodName) (cc : ByteArray) (maxL : Nat) (ret : Option FieldType) (d mc ms : Nat) (D : va_G) (cy : Nat → ClassId) (adK adV : Nat → Nat) (base : Nat) (av : List Value) (P : Heap → Prop) (Q : Heap → Option Value → Heap → Prop) (free : Addr → Prop) : Prop :=
  Met l y (Cond.code y cc maxL ret :: GW) (RM d mc ms) (fun v U => v = av.toArray ∧ P U.heap ∧ KK D cy U ∧ SS adK adV base U U.heap) (QQ Q) mc ms free
theorem PS.blind {av : List Value} {P : Heap → Prop} {D : va_G} {cy : Nat → ClassId} {adK adV : Nat → Nat} {base : Nat} : FrameBlind (fun v U => v = av.toArray ∧ P U.heap ∧ KK D cy U ∧ SS adK adV base U U.heap) := fun _ _ _ _ h => ⟨h.1, h.2.1, h.2.2.1.blind, h.2.2.2.blind⟩
theorem MS.of {l : Launch} {y : MethodName} {cc : ByteArray} {maxL : Nat} {ret : Option FieldType} {d mc ms : Nat} {D : va_G} {cy : Nat → ClassId} {adK adV : Nat → Nat} {base : Nat} {av : List Value} {P : Heap → Prop} {Q : Heap → Option Value → Heap → Prop} {free : Addr → Prop} (hy : plainName y.cls = true) (hlen : (lg_sl av).length ≤ maxL)
    (body : ∀ (p : Program) (e : Env) (s : State) (m : MethodId) (below : List Frame) (meth : Method) (c : Code), CX p s m meth c y cc maxL ret av D cy → P s.heap → SS adK adV base s s.heap → ∀ ls : Array Slot, lv_has ls maxL (lv_args 0 av) → W p l e (RM d mc ms) s m av.toArray below meth c s.heap [] 0 0 (MQ below (QQ Q) av.toArray s mc ms free) (F0 m 0 ls [])) : MS l y cc maxL ret d mc ms D cy adK adV base av P Q free := by
  refine Met.ofW (cc := cc) (maxL := maxL) (ret := ret) hy rfl ?_
  intro p e s m args below meth c s₁ B hml hv
  obtain ⟨rfl, hP, hK, hSS⟩ := hv
  have hts := atoms_spec (ws := Cond.code y cc maxL ret :: GW) B.pre
  have hl := lv_entry av (n := maxL) hlen
  rw [lg_entry_eq]
  exact body p e s m below meth c ⟨B.exec, B.bytes, B.returns, hml, findClass_of_methodNamed B.named, fun w h => hts w (List.mem_cons_of_mem _ h), B.notSynchronized, hK, (name_of_methodNamed B.named B.method).1⟩ hP hSS _ hl
section STRC
variable {p : Program} {l : Launch} {e : Env} {R : Room} {s : State} {m : MethodId} {args : Array Value} {below : List Frame} {meth : Method} {c : Code} {H : Heap} {locs : List Loc} {cells slots : Nat} {Qf : State → Prop}
variable {cc : ByteArray} {pc : Nat} {ls : Array Slot} {rest st0 : List Value} {D : va_G} {cy : Nat → ClassId} {mc ms : Nat} {free : Addr → Prop} {Q : Heap → Option Value → Heap → Prop} {adK adV : Nat → Nat} {base : Nat}
variable {y : MethodName} {bytes : ByteArray} {maxL nL n index d : Nat} {ret : Option FieldType} {own : String} {b : Addr} {As : List Value} {P : Heap → Prop}
theorem runVs (S : CallFix p m c cc nL s args GW own) (hM : MS l y bytes maxL ret d mc ms D cy adK adV base (.ref b :: As) P Q free) (hs : SiteV own index y bytes maxL ret n) (hK : KK D cy s) (hSS : SS adK adV base s s.heap) (hS : va_S (RA base) s.heap H locs) (hrec : ∃ cell : Cell, H[b]? = some cell ∧ cell.vm.isStatics = false ∧ s.vm.findClass y.cls = some cell.cls) (hp : P H)
    (hd : d + 1 ≤ R.frames ∧ 8 + (maxL + 11) + 100 * d ≤ R.locals) (hn : As.length = n) (hsize : ls.size = nL) (hstack : st0 = As.reverse ++ .ref b :: rest) (hW : (rest.map fun v => v.category).sum ≤ 8) (hdg : decode cc pc = .ok (.invokevirtual index, 3)) (hf : cells + mc ≤ R.cells ∧ slots + ms ≤ R.slots) :
    va_Run p l e R s m args below meth c H locs cells slots mc ms (F0 m pc ls st0) rest (QQ Q (Value.ref b :: As).toArray) free := by
  obtain ⟨h1, h2, h3, h4, h5, h6⟩ := hs
  have ht := S.2.2.2.2
  exact va_runV S hM ⟨callB_of n ht (goodG h5) rfl rfl rfl (ht _ h4) (ht _ h1) h6 hd, ht _ h2, ht _ h3⟩ ⟨PS.blind, hrec, fun U hU hW => ⟨rfl, by rw [hU]; exact hp, hK.moved hW, hSS.at hW hS hU⟩⟩ rfl hn hsize hstack (lv_room hW) hdg hf
theorem runSs (S : CallFix p m c cc nL s args GW own) (hM : MS l y bytes maxL ret d mc ms D cy adK adV base As P Q free) (hs : SiteS own index y bytes maxL ret n) (hK : KK D cy s) (hSS : SS adK adV base s s.heap) (hS : va_S (RA base) s.heap H locs) (hp : P H)
    (hd : d + 1 ≤ R.frames ∧ 8 + (maxL + 11) + 100 * d ≤ R.locals) (hn : As.length = n) (hsize : ls.size = nL) (hstack : st0 = As.reverse ++ rest) (hW : (rest.map fun v => v.category).sum ≤ 8) (hdg : decode cc pc = .ok (.invokestatic index, 3)) (hf : cells + mc ≤ R.cells ∧ slots + ms ≤ R.slots) :
    va_Run p l e R s m args below meth c H locs cells slots mc ms (F0 m pc ls st0) rest (QQ Q As.toArray) free := by
  obtain ⟨h1, h2, h4, h5, h6⟩ := hs
  have ht := S.2.2.2.2
  exact va_runS S hM ⟨callB_of n ht (goodG h5) rfl rfl rfl (ht _ h4) (ht _ h1) h6 hd, ht _ h2⟩ ⟨PS.blind, fun U hU hW => ⟨rfl, by rw [hU]; exact hp, hK.moved hW, hSS.at hW hS hU⟩⟩ rfl hn hsize hstack (lv_room hW) hdg hf
theorem so_recv {a : Nat} {E : String} (h : va_O E a (RA base) s s.heap) (hS : va_S (RA base) s.heap H locs) : ∃ cell : Cell, H[a]? = some cell ∧ cell.vm.isStatics = false ∧ s.vm.findClass E = some cell.cls := by
  obtain ⟨cell, h1, h2, h3, -⟩ := h.kept hS.2.1
  exact ⟨cell, h1, h2, h3⟩
end STRC
theorem lenS_t {i : Nat} {z : Int32} (h : Int32.ofNat (lenS.getD i 0) = z) : z.toInt = (lenS.getD i 0 : Nat) ∧ lenS.getD i 0 ≤ 6 := by
  have h6 := lenS_le i
  rw [← h, Int32.toInt_ofNat_of_lt (by omega)]
  exact ⟨rfl, h6⟩
theorem shr0_t {x z : Int32} (h : z = x >>> ((0 : Int32) &&& 31)) : z = x := by
  rw [h, show (0 : Int32) &&& 31 = 0 from rfl]
  apply Int32.toBitVec_inj.mp
  simp
theorem nar_char {x v : Int32} (h : (x.toUInt32 % 65536).toInt32 = v) : narrow .char (.int v) = .int v := by
  subst h
  have h9 : x.toUInt32 % 65536 % 65536 = x.toUInt32 % 65536 := by
    apply UInt32.toNat_inj.mp
    rw [UInt32.toNat_mod, UInt32.toNat_mod]
    exact Nat.mod_mod _ _
  show Value.int _ = Value.int _
  congr 1
  simp
  rw [h9]
theorem tb_t1 {w : Cond} (h : w ∈ tables_1_1) : w ∈ lw_tbl := List.mem_append_right _ (show w ∈ tables_1 from (List.mem_append_left _ h))
theorem tb_t2 {w : Cond} (h : w ∈ tables_1_2) : w ∈ lw_tbl := List.mem_append_right _ (show w ∈ tables_1 from (List.mem_append_right _ (List.mem_append_left _ h)))
theorem tb_t3 {w : Cond} (h : w ∈ tables_1_3) : w ∈ lw_tbl := List.mem_append_right _ (show w ∈ tables_1 from (List.mem_append_right _ (List.mem_append_right _ (List.mem_append_left _ h))))
theorem tb_t4 {w : Cond} (h : w ∈ tables_1_4) : w ∈ lw_tbl := List.mem_append_right _ (show w ∈ tables_1 from (List.mem_append_right _ (List.mem_append_right _ (List.mem_append_right _ (List.mem_append_left _ h)))))
theorem tb_t5 {w : Cond} (h : w ∈ tables_1_5) : w ∈ lw_tbl := List.mem_append_right _ (show w ∈ tables_1 from (List.mem_append_right _ (List.mem_append_right _ (List.mem_append_right _ (List.mem_append_right _ (List.mem_append_left _ h))))))
theorem tb_t6 {w : Cond} (h : w ∈ tables_1_6) : w ∈ lw_tbl := List.mem_append_right _ (show w ∈ tables_1 from (List.mem_append_right _ (List.mem_append_right _ (List.mem_append_right _ (List.mem_append_right _ (List.mem_append_right _ (List.mem_append_left _ h)))))))
theorem tb_t7 {w : Cond} (h : w ∈ tables_1_7) : w ∈ lw_tbl := List.mem_append_right _ (show w ∈ tables_1 from (List.mem_append_right _ (List.mem_append_right _ (List.mem_append_right _ (List.mem_append_right _ (List.mem_append_right _ (List.mem_append_right _ (List.mem_append_left _ h))))))))
theorem tb_t8 {w : Cond} (h : w ∈ tables_1_8) : w ∈ lw_tbl := List.mem_append_right _ (show w ∈ tables_1 from (List.mem_append_right _ (List.mem_append_right _ (List.mem_append_right _ (List.mem_append_right _ (List.mem_append_right _ (List.mem_append_right _ (List.mem_append_right _ h))))))))
theorem ba {a b : Cond} {args : Array Value} {s : State} (h : (Cond.and a b).before args s = true) : a.before args s = true ∧ b.before args s = true := by
  rw [Cond.before_and, Bool.and_eq_true] at h; exact h
theorem sn_ex {args : Array Value} {s : State} (h : narrow_1.before args s = true) : ∀ i : Nat, i < 20 → (Cond.exactly (Term.string "RoadShut$Reader" (kS.getD i 0)) "java/lang/String").before args s = true := fun i hi => match i, hi with
  | 0, _ => (ba (ba (ba (ba (ba (ba (ba (ba (ba h).1).1).1).2).1).1).2).2).2
  | 1, _ => (ba (ba (ba (ba (ba (ba (ba (ba h).1).1).1).2).2).1).2).1
  | 2, _ => (ba (ba (ba (ba (ba (ba (ba (ba h).1).1).2).1).1).1).1).1
  | 3, _ => (ba (ba (ba (ba (ba (ba (ba (ba (ba h).1).1).2).1).1).2).2).2).2
  | 4, _ => (ba (ba (ba (ba (ba (ba (ba (ba (ba h).1).1).2).1).2).2).2).2).1
  | 5, _ => (ba (ba (ba (ba (ba (ba (ba (ba (ba h).1).1).2).2).1).2).2).2).2
  | 6, _ => (ba (ba (ba (ba (ba (ba (ba (ba h).1).2).1).1).1).1).1).1
  | 7, _ => (ba (ba (ba (ba (ba (ba (ba (ba h).1).2).1).1).2).1).2).1
  | 8, _ => (ba (ba (ba (ba (ba (ba (ba (ba h).1).2).1).2).1).2).1).1
  | 9, _ => (ba (ba (ba (ba (ba (ba (ba (ba (ba h).1).2).1).2).2).2).2).1).2
  | 10, _ => (ba (ba (ba (ba (ba (ba (ba (ba (ba h).1).2).2).1).2).1).2).2).1
  | 11, _ => (ba (ba (ba (ba (ba (ba (ba (ba (ba h).1).2).2).2).1).2).2).2).1
  | 12, _ => (ba (ba (ba (ba (ba (ba (ba (ba (ba h).2).1).1).1).1).1).2).2).1
  | 13, _ => (ba (ba (ba (ba (ba (ba (ba (ba (ba h).2).1).1).2).1).1).1).2).1
  | 14, _ => (ba (ba (ba (ba (ba (ba (ba (ba (ba h).2).1).1).2).2).2).2).2).1
  | 15, _ => (ba (ba (ba (ba (ba (ba (ba (ba (ba h).2).1).2).1).2).2).1).2).2
  | 16, _ => (ba (ba (ba (ba (ba (ba (ba (ba (ba h).2).1).2).2).2).2).1).2).2
  | 17, _ => (ba (ba (ba (ba (ba (ba (ba (ba (ba h).2).2).1).1).2).2).1).2).1
  | 18, _ => (ba (ba (ba (ba (ba (ba (ba (ba (ba h).2).2).1).2).2).2).2).1).1
  | 19, _ => (ba (ba (ba (ba (ba (ba (ba (ba (ba h).2).2).2).1).2).2).2).2).1
  | i + 20, hi => absurd hi (by omega)
theorem sn_co {args : Array Value} {s : State} (h : narrow_1.before args s = true) : ∀ i : Nat, i < 20 → (Cond.eq (.field (Term.string "RoadShut$Reader" (kS.getD i 0)) "java/lang/String" "coder" "B") (.int 0)).before args s = true := fun i hi => match i, hi with
  | 0, _ => (ba (ba (ba (ba (ba (ba (ba (ba h).1).1).1).2).1).2).1).1
  | 1, _ => (ba (ba (ba (ba (ba (ba (ba (ba (ba h).1).1).1).2).2).1).2).2).1
  | 2, _ => (ba (ba (ba (ba (ba (ba (ba (ba (ba h).1).1).2).1).1).1).1).2).1
  | 3, _ => (ba (ba (ba (ba (ba (ba (ba (ba h).1).1).2).1).2).1).1).1
  | 4, _ => (ba (ba (ba (ba (ba (ba (ba (ba (ba h).1).1).2).1).2).2).2).2).2
  | 5, _ => (ba (ba (ba (ba (ba (ba (ba (ba h).1).1).2).2).2).1).1).1
  | 6, _ => (ba (ba (ba (ba (ba (ba (ba (ba (ba h).1).2).1).1).1).1).1).2).1
  | 7, _ => (ba (ba (ba (ba (ba (ba (ba (ba (ba h).1).2).1).1).2).1).2).2).1
  | 8, _ => (ba (ba (ba (ba (ba (ba (ba (ba (ba h).1).2).1).2).1).2).1).2).1
  | 9, _ => (ba (ba (ba (ba (ba (ba (ba (ba (ba h).1).2).1).2).2).2).2).2).1
  | 10, _ => (ba (ba (ba (ba (ba (ba (ba (ba (ba h).1).2).2).1).2).1).2).2).2
  | 11, _ => (ba (ba (ba (ba (ba (ba (ba (ba (ba h).1).2).2).2).1).2).2).2).2
  | 12, _ => (ba (ba (ba (ba (ba (ba (ba (ba (ba h).2).1).1).1).1).1).2).2).2
  | 13, _ => (ba (ba (ba (ba (ba (ba (ba (ba (ba h).2).1).1).2).1).1).1).2).2
  | 14, _ => (ba (ba (ba (ba (ba (ba (ba (ba (ba h).2).1).1).2).2).2).2).2).2
  | 15, _ => (ba (ba (ba (ba (ba (ba (ba (ba h).2).1).2).1).2).2).2).1
  | 16, _ => (ba (ba (ba (ba (ba (ba (ba (ba (ba h).2).1).2).2).2).2).2).1).1
  | 17, _ => (ba (ba (ba (ba (ba (ba (ba (ba (ba h).2).2).1).1).2).2).1).2).2
  | 18, _ => (ba (ba (ba (ba (ba (ba (ba (ba (ba h).2).2).1).2).2).2).2).1).2
  | 19, _ => (ba (ba (ba (ba (ba (ba (ba (ba (ba h).2).2).2).1).2).2).2).2).2
  | i + 20, hi => absurd hi (by omega)
theorem sn_ar {args : Array Value} {s : State} (h : narrow_1.before args s = true) : ∀ i : Nat, i < 20 → (Cond.arrayOf (.field (Term.string "RoadShut$Reader" (kS.getD i 0)) "java/lang/String" "value" "[B") .byte).before args s = true := fun i hi => match i, hi with
  | 0, _ => (ba (ba (ba (ba (ba (ba (ba (ba (ba h).1).1).1).2).1).2).1).2).1
  | 1, _ => (ba (ba (ba (ba (ba (ba (ba (ba (ba h).1).1).1).2).2).1).2).2).2
  | 2, _ => (ba (ba (ba (ba (ba (ba (ba (ba (ba h).1).1).2).1).1).1).1).2).2
  | 3, _ => (ba (ba (ba (ba (ba (ba (ba (ba (ba h).1).1).2).1).2).1).1).2).1
  | 4, _ => (ba (ba (ba (ba (ba (ba (ba (ba h).1).1).2).2).1).1).1).1
  | 5, _ => (ba (ba (ba (ba (ba (ba (ba (ba (ba h).1).1).2).2).2).1).1).2).1
  | 6, _ => (ba (ba (ba (ba (ba (ba (ba (ba (ba h).1).2).1).1).1).1).1).2).2
  | 7, _ => (ba (ba (ba (ba (ba (ba (ba (ba (ba h).1).2).1).1).2).1).2).2).2
  | 8, _ => (ba (ba (ba (ba (ba (ba (ba (ba (ba h).1).2).1).2).1).2).1).2).2
  | 9, _ => (ba (ba (ba (ba (ba (ba (ba (ba (ba h).1).2).1).2).2).2).2).2).2
  | 10, _ => (ba (ba (ba (ba (ba (ba (ba (ba h).1).2).2).1).2).2).1).1
  | 11, _ => (ba (ba (ba (ba (ba (ba (ba (ba h).1).2).2).2).2).1).1).1
  | 12, _ => (ba (ba (ba (ba (ba (ba (ba (ba h).2).1).1).1).1).2).1).1
  | 13, _ => (ba (ba (ba (ba (ba (ba (ba (ba h).2).1).1).2).1).1).2).1
  | 14, _ => (ba (ba (ba (ba (ba (ba (ba (ba h).2).1).2).1).1).1).1).1
  | 15, _ => (ba (ba (ba (ba (ba (ba (ba (ba (ba h).2).1).2).1).2).2).2).2).1
  | 16, _ => (ba (ba (ba (ba (ba (ba (ba (ba (ba h).2).1).2).2).2).2).2).1).2
  | 17, _ => (ba (ba (ba (ba (ba (ba (ba (ba h).2).2).1).1).2).2).2).1
  | 18, _ => (ba (ba (ba (ba (ba (ba (ba (ba (ba h).2).2).1).2).2).2).2).2).1
  | 19, _ => (ba (ba (ba (ba (ba (ba (ba (ba h).2).2).2).2).1).1).1).1
  | i + 20, hi => absurd hi (by omega)
theorem sn_le {args : Array Value} {s : State} (h : narrow_1.before args s = true) : ∀ i : Nat, i < 20 → (Cond.eq (.length (.field (Term.string "RoadShut$Reader" (kS.getD i 0)) "java/lang/String" "value" "[B")) (.int (Int32.ofNat (lenS.getD i 0)))).before args s = true := fun i hi => match i, hi with
  | 0, _ => (ba (ba (ba (ba (ba (ba (ba (ba (ba h).1).1).1).2).1).2).1).2).2
  | 1, _ => (ba (ba (ba (ba (ba (ba (ba (ba h).1).1).1).2).2).2).1).1
  | 2, _ => (ba (ba (ba (ba (ba (ba (ba (ba h).1).1).2).1).1).1).2).1
  | 3, _ => (ba (ba (ba (ba (ba (ba (ba (ba (ba h).1).1).2).1).2).1).1).2).2
  | 4, _ => (ba (ba (ba (ba (ba (ba (ba (ba (ba h).1).1).2).2).1).1).1).2).1
  | 5, _ => (ba (ba (ba (ba (ba (ba (ba (ba (ba h).1).1).2).2).2).1).1).2).2
  | 6, _ => (ba (ba (ba (ba (ba (ba (ba (ba h).1).2).1).1).1).1).2).1
  | 7, _ => (ba (ba (ba (ba (ba (ba (ba (ba h).1).2).1).1).2).2).1).1
  | 8, _ => (ba (ba (ba (ba (ba (ba (ba (ba h).1).2).1).2).1).2).2).1
  | 9, _ => (ba (ba (ba (ba (ba (ba (ba (ba h).1).2).2).1).1).1).1).1
  | 10, _ => (ba (ba (ba (ba (ba (ba (ba (ba (ba h).1).2).2).1).2).2).1).2).1
  | 11, _ => (ba (ba (ba (ba (ba (ba (ba (ba (ba h).1).2).2).2).2).1).1).2).1
  | 12, _ => (ba (ba (ba (ba (ba (ba (ba (ba (ba h).2).1).1).1).1).2).1).2).1
  | 13, _ => (ba (ba (ba (ba (ba (ba (ba (ba (ba h).2).1).1).2).1).1).2).2).1
  | 14, _ => (ba (ba (ba (ba (ba (ba (ba (ba (ba h).2).1).2).1).1).1).1).2).1
  | 15, _ => (ba (ba (ba (ba (ba (ba (ba (ba (ba h).2).1).2).1).2).2).2).2).2
  | 16, _ => (ba (ba (ba (ba (ba (ba (ba (ba (ba h).2).1).2).2).2).2).2).2).1
  | 17, _ => (ba (ba (ba (ba (ba (ba (ba (ba (ba h).2).2).1).1).2).2).2).2).1
  | 18, _ => (ba (ba (ba (ba (ba (ba (ba (ba (ba h).2).2).1).2).2).2).2).2).2
  | 19, _ => (ba (ba (ba (ba (ba (ba (ba (ba (ba h).2).2).2).2).1).1).1).2).1
  | i + 20, hi => absurd hi (by omega)
theorem sn_el {args : Array Value} {s : State} (h : narrow_1.before args s = true) : ∀ i : Nat, i < 20 → ∀ j : Nat, j < lenS.getD i 0 → (Cond.eq (.elem (.field (Term.string "RoadShut$Reader" (kS.getD i 0)) "java/lang/String" "value" "[B") (.int (Int32.ofNat j))) (.int ((bytS.getD i []).getD j 0))).before args s = true := fun i hi j hj => match i, hi, j, hj with
  | 0, _, 0, _ => (ba (ba (ba (ba (ba (ba (ba (ba h).1).1).1).2).1).2).2).1
  | 0, _, 1, _ => (ba (ba (ba (ba (ba (ba (ba (ba (ba h).1).1).1).2).1).2).2).2).1
  | 0, _, 2, _ => (ba (ba (ba (ba (ba (ba (ba (ba (ba h).1).1).1).2).1).2).2).2).2
  | 0, _, 3, _ => (ba (ba (ba (ba (ba (ba (ba (ba h).1).1).1).2).2).1).1).1
  | 0, _, 4, _ => (ba (ba (ba (ba (ba (ba (ba (ba (ba h).1).1).1).2).2).1).1).2).1
  | 0, _, 5, _ => (ba (ba (ba (ba (ba (ba (ba (ba (ba h).1).1).1).2).2).1).1).2).2
  | 0, _, j + 6, hj => absurd hj (by show ¬ j + 6 < 6; omega)
  | 1, _, 0, _ => (ba (ba (ba (ba (ba (ba (ba (ba (ba h).1).1).1).2).2).2).1).2).1
  | 1, _, 1, _ => (ba (ba (ba (ba (ba (ba (ba (ba (ba h).1).1).1).2).2).2).1).2).2
  | 1, _, 2, _ => (ba (ba (ba (ba (ba (ba (ba (ba h).1).1).1).2).2).2).2).1
  | 1, _, 3, _ => (ba (ba (ba (ba (ba (ba (ba (ba (ba h).1).1).1).2).2).2).2).2).1
  | 1, _, j + 4, hj => absurd hj (by show ¬ j + 4 < 4; omega)
  | 2, _, 0, _ => (ba (ba (ba (ba (ba (ba (ba (ba (ba h).1).1).2).1).1).1).2).2).1
  | 2, _, 1, _ => (ba (ba (ba (ba (ba (ba (ba (ba (ba h).1).1).2).1).1).1).2).2).2
  | 2, _, 2, _ => (ba (ba (ba (ba (ba (ba (ba (ba h).1).1).2).1).1).2).1).1
  | 2, _, 3, _ => (ba (ba (ba (ba (ba (ba (ba (ba (ba h).1).1).2).1).1).2).1).2).1
  | 2, _, 4, _ => (ba (ba (ba (ba (ba (ba (ba (ba (ba h).1).1).2).1).1).2).1).2).2
  | 2, _, j + 5, hj => absurd hj (by show ¬ j + 5 < 5; omega)
  | 3, _, 0, _ => (ba (ba (ba (ba (ba (ba (ba (ba h).1).1).2).1).2).1).2).1
  | 3, _, 1, _ => (ba (ba (ba (ba (ba (ba (ba (ba (ba h).1).1).2).1).2).1).2).2).1
  | 3, _, 2, _ => (ba (ba (ba (ba (ba (ba (ba (ba (ba h).1).1).2).1).2).1).2).2).2
  | 3, _, 3, _ => (ba (ba (ba (ba (ba (ba (ba (ba h).1).1).2).1).2).2).1).1
  | 3, _, j + 4, hj => absurd hj (by show ¬ j + 4 < 4; omega)
  | 4, _, 0, _ => (ba (ba (ba (ba (ba (ba (ba (ba (ba h).1).1).2).2).1).1).1).2).2
  | 4, _, 1, _ => (ba (ba (ba (ba (ba (ba (ba (ba h).1).1).2).2).1).1).2).1
  | 4, _, 2, _ => (ba (ba (ba (ba (ba (ba (ba (ba (ba h).1).1).2).2).1).1).2).2).1
  | 4, _, 3, _ => (ba (ba (ba (ba (ba (ba (ba (ba (ba h).1).1).2).2).1).1).2).2).2
  | 4, _, 4, _ => (ba (ba (ba (ba (ba (ba (ba (ba h).1).1).2).2).1).2).1).1
  | 4, _, j + 5, hj => absurd hj (by show ¬ j + 5 < 5; omega)
  | 5, _, 0, _ => (ba (ba (ba (ba (ba (ba (ba (ba h).1).1).2).2).2).1).2).1
  | 5, _, 1, _ => (ba (ba (ba (ba (ba (ba (ba (ba (ba h).1).1).2).2).2).1).2).2).1
  | 5, _, 2, _ => (ba (ba (ba (ba (ba (ba (ba (ba (ba h).1).1).2).2).2).1).2).2).2
  | 5, _, 3, _ => (ba (ba (ba (ba (ba (ba (ba (ba h).1).1).2).2).2).2).1).1
  | 5, _, 4, _ => (ba (ba (ba (ba (ba (ba (ba (ba (ba h).1).1).2).2).2).2).1).2).1
  | 5, _, j + 5, hj => absurd hj (by show ¬ j + 5 < 5; omega)
  | 6, _, 0, _ => (ba (ba (ba (ba (ba (ba (ba (ba (ba h).1).2).1).1).1).1).2).2).1
  | 6, _, 1, _ => (ba (ba (ba (ba (ba (ba (ba (ba (ba h).1).2).1).1).1).1).2).2).2
  | 6, _, 2, _ => (ba (ba (ba (ba (ba (ba (ba (ba h).1).2).1).1).1).2).1).1
  | 6, _, 3, _ => (ba (ba (ba (ba (ba (ba (ba (ba (ba h).1).2).1).1).1).2).1).2).1
  | 6, _, 4, _ => (ba (ba (ba (ba (ba (ba (ba (ba (ba h).1).2).1).1).1).2).1).2).2
  | 6, _, j + 5, hj => absurd hj (by show ¬ j + 5 < 5; omega)
  | 7, _, 0, _ => (ba (ba (ba (ba (ba (ba (ba (ba (ba h).1).2).1).1).2).2).1).2).1
  | 7, _, 1, _ => (ba (ba (ba (ba (ba (ba (ba (ba (ba h).1).2).1).1).2).2).1).2).2
  | 7, _, 2, _ => (ba (ba (ba (ba (ba (ba (ba (ba h).1).2).1).1).2).2).2).1
  | 7, _, 3, _ => (ba (ba (ba (ba (ba (ba (ba (ba (ba h).1).2).1).1).2).2).2).2).1
  | 7, _, j + 4, hj => absurd hj (by show ¬ j + 4 < 4; omega)
  | 8, _, 0, _ => (ba (ba (ba (ba (ba (ba (ba (ba (ba h).1).2).1).2).1).2).2).2).1
  | 8, _, 1, _ => (ba (ba (ba (ba (ba (ba (ba (ba (ba h).1).2).1).2).1).2).2).2).2
  | 8, _, 2, _ => (ba (ba (ba (ba (ba (ba (ba (ba h).1).2).1).2).2).1).1).1
  | 8, _, 3, _ => (ba (ba (ba (ba (ba (ba (ba (ba (ba h).1).2).1).2).2).1).1).2).1
  | 8, _, j + 4, hj => absurd hj (by show ¬ j + 4 < 4; omega)
  | 9, _, 0, _ => (ba (ba (ba (ba (ba (ba (ba (ba (ba h).1).2).2).1).1).1).1).2).1
  | 9, _, 1, _ => (ba (ba (ba (ba (ba (ba (ba (ba (ba h).1).2).2).1).1).1).1).2).2
  | 9, _, 2, _ => (ba (ba (ba (ba (ba (ba (ba (ba h).1).2).2).1).1).1).2).1
  | 9, _, 3, _ => (ba (ba (ba (ba (ba (ba (ba (ba (ba h).1).2).2).1).1).1).2).2).1
  | 9, _, 4, _ => (ba (ba (ba (ba (ba (ba (ba (ba (ba h).1).2).2).1).1).1).2).2).2
  | 9, _, 5, _ => (ba (ba (ba (ba (ba (ba (ba (ba h).1).2).2).1).1).2).1).1
  | 9, _, j + 6, hj => absurd hj (by show ¬ j + 6 < 6; omega)
  | 10, _, 0, _ => (ba (ba (ba (ba (ba (ba (ba (ba (ba h).1).2).2).1).2).2).1).2).2
  | 10, _, 1, _ => (ba (ba (ba (ba (ba (ba (ba (ba h).1).2).2).1).2).2).2).1
  | 10, _, 2, _ => (ba (ba (ba (ba (ba (ba (ba (ba (ba h).1).2).2).1).2).2).2).2).1
  | 10, _, 3, _ => (ba (ba (ba (ba (ba (ba (ba (ba (ba h).1).2).2).1).2).2).2).2).2
  | 10, _, j + 4, hj => absurd hj (by show ¬ j + 4 < 4; omega)
  | 11, _, 0, _ => (ba (ba (ba (ba (ba (ba (ba (ba (ba h).1).2).2).2).2).1).1).2).2
  | 11, _, 1, _ => (ba (ba (ba (ba (ba (ba (ba (ba h).1).2).2).2).2).1).2).1
  | 11, _, 2, _ => (ba (ba (ba (ba (ba (ba (ba (ba (ba h).1).2).2).2).2).1).2).2).1
  | 11, _, 3, _ => (ba (ba (ba (ba (ba (ba (ba (ba (ba h).1).2).2).2).2).1).2).2).2
  | 11, _, j + 4, hj => absurd hj (by show ¬ j + 4 < 4; omega)
  | 12, _, 0, _ => (ba (ba (ba (ba (ba (ba (ba (ba (ba h).2).1).1).1).1).2).1).2).2
  | 12, _, 1, _ => (ba (ba (ba (ba (ba (ba (ba (ba h).2).1).1).1).1).2).2).1
  | 12, _, 2, _ => (ba (ba (ba (ba (ba (ba (ba (ba (ba h).2).1).1).1).1).2).2).2).1
  | 12, _, 3, _ => (ba (ba (ba (ba (ba (ba (ba (ba (ba h).2).1).1).1).1).2).2).2).2
  | 12, _, 4, _ => (ba (ba (ba (ba (ba (ba (ba (ba h).2).1).1).1).2).1).1).1
  | 12, _, j + 5, hj => absurd hj (by show ¬ j + 5 < 5; omega)
  | 13, _, 0, _ => (ba (ba (ba (ba (ba (ba (ba (ba (ba h).2).1).1).2).1).1).2).2).2
  | 13, _, 1, _ => (ba (ba (ba (ba (ba (ba (ba (ba h).2).1).1).2).1).2).1).1
  | 13, _, 2, _ => (ba (ba (ba (ba (ba (ba (ba (ba (ba h).2).1).1).2).1).2).1).2).1
  | 13, _, 3, _ => (ba (ba (ba (ba (ba (ba (ba (ba (ba h).2).1).1).2).1).2).1).2).2
  | 13, _, 4, _ => (ba (ba (ba (ba (ba (ba (ba (ba h).2).1).1).2).1).2).2).1
  | 13, _, j + 5, hj => absurd hj (by show ¬ j + 5 < 5; omega)
  | 14, _, 0, _ => (ba (ba (ba (ba (ba (ba (ba (ba (ba h).2).1).2).1).1).1).1).2).2
  | 14, _, 1, _ => (ba (ba (ba (ba (ba (ba (ba (ba h).2).1).2).1).1).1).2).1
  | 14, _, 2, _ => (ba (ba (ba (ba (ba (ba (ba (ba (ba h).2).1).2).1).1).1).2).2).1
  | 14, _, 3, _ => (ba (ba (ba (ba (ba (ba (ba (ba (ba h).2).1).2).1).1).1).2).2).2
  | 14, _, j + 4, hj => absurd hj (by show ¬ j + 4 < 4; omega)
  | 15, _, 0, _ => (ba (ba (ba (ba (ba (ba (ba (ba h).2).1).2).2).1).1).1).1
  | 15, _, 1, _ => (ba (ba (ba (ba (ba (ba (ba (ba (ba h).2).1).2).2).1).1).1).2).1
  | 15, _, 2, _ => (ba (ba (ba (ba (ba (ba (ba (ba (ba h).2).1).2).2).1).1).1).2).2
  | 15, _, 3, _ => (ba (ba (ba (ba (ba (ba (ba (ba h).2).1).2).2).1).1).2).1
  | 15, _, 4, _ => (ba (ba (ba (ba (ba (ba (ba (ba (ba h).2).1).2).2).1).1).2).2).1
  | 15, _, j + 5, hj => absurd hj (by show ¬ j + 5 < 5; omega)
  | 16, _, 0, _ => (ba (ba (ba (ba (ba (ba (ba (ba (ba h).2).1).2).2).2).2).2).2).2
  | 16, _, 1, _ => (ba (ba (ba (ba (ba (ba (ba (ba h).2).2).1).1).1).1).1).1
  | 16, _, 2, _ => (ba (ba (ba (ba (ba (ba (ba (ba (ba h).2).2).1).1).1).1).1).2).1
  | 16, _, 3, _ => (ba (ba (ba (ba (ba (ba (ba (ba (ba h).2).2).1).1).1).1).1).2).2
  | 16, _, j + 4, hj => absurd hj (by show ¬ j + 4 < 4; omega)
  | 17, _, 0, _ => (ba (ba (ba (ba (ba (ba (ba (ba (ba h).2).2).1).1).2).2).2).2).2
  | 17, _, 1, _ => (ba (ba (ba (ba (ba (ba (ba (ba h).2).2).1).2).1).1).1).1
  | 17, _, 2, _ => (ba (ba (ba (ba (ba (ba (ba (ba (ba h).2).2).1).2).1).1).1).2).1
  | 17, _, 3, _ => (ba (ba (ba (ba (ba (ba (ba (ba (ba h).2).2).1).2).1).1).1).2).2
  | 17, _, 4, _ => (ba (ba (ba (ba (ba (ba (ba (ba h).2).2).1).2).1).1).2).1
  | 17, _, j + 5, hj => absurd hj (by show ¬ j + 5 < 5; omega)
  | 18, _, 0, _ => (ba (ba (ba (ba (ba (ba (ba (ba h).2).2).2).1).1).1).1).1
  | 18, _, 1, _ => (ba (ba (ba (ba (ba (ba (ba (ba (ba h).2).2).2).1).1).1).1).2).1
  | 18, _, 2, _ => (ba (ba (ba (ba (ba (ba (ba (ba (ba h).2).2).2).1).1).1).1).2).2
  | 18, _, 3, _ => (ba (ba (ba (ba (ba (ba (ba (ba h).2).2).2).1).1).1).2).1
  | 18, _, j + 4, hj => absurd hj (by show ¬ j + 4 < 4; omega)
  | 19, _, 0, _ => (ba (ba (ba (ba (ba (ba (ba (ba (ba h).2).2).2).2).1).1).1).2).2
  | 19, _, 1, _ => (ba (ba (ba (ba (ba (ba (ba (ba h).2).2).2).2).1).1).2).1
  | 19, _, 2, _ => (ba (ba (ba (ba (ba (ba (ba (ba (ba h).2).2).2).2).1).1).2).2).1
  | 19, _, 3, _ => (ba (ba (ba (ba (ba (ba (ba (ba (ba h).2).2).2).2).1).1).2).2).2
  | 19, _, j + 4, hj => absurd hj (by show ¬ j + 4 < 4; omega)
  | i + 20, hi, _, _ => absurd hi (by omega)
theorem sn_cs {args : Array Value} {s : State} (h : narrow_1.before args s = true) : (Cond.eq (.static "java/lang/String" "COMPACT_STRINGS" "Z") (.int 1)).before args s = true := (ba (ba (ba (ba (ba (ba (ba (ba (ba h).1).1).1).1).1).1).1).2).2
theorem sn_fm {args : Array Value} {s : State} (h : narrow_1.before args s = true) : (Cond.isRef (.static "jdk/internal/util/Preconditions" "SIOOBE_FORMATTER" "Ljava/util/function/BiFunction;")).before args s = true := (ba (ba (ba (ba (ba (ba (ba (ba h).1).1).1).1).1).1).2).1
theorem sn_rf {args : Array Value} {s : State} (h : ∀ w ∈ lw_tbl, w.before args s = true) : ∀ i : Nat, i < 20 → (Cond.stringRef RX4 (kS.getD i 0) (txS.getD i "")).before args s = true := fun i hi => match i, hi with
  | 0, _ => h _ (tb_t2 (List.mem_of_getElem? (i := 159) rfl))
  | 1, _ => h _ (tb_t2 (List.mem_of_getElem? (i := 220) rfl))
  | 2, _ => h _ (tb_t2 (List.mem_of_getElem? (i := 229) rfl))
  | 3, _ => h _ (tb_t2 (List.mem_of_getElem? (i := 230) rfl))
  | 4, _ => h _ (tb_t2 (List.mem_of_getElem? (i := 231) rfl))
  | 5, _ => h _ (tb_t2 (List.mem_of_getElem? (i := 232) rfl))
  | 6, _ => h _ (tb_t2 (List.mem_of_getElem? (i := 237) rfl))
  | 7, _ => h _ (tb_t2 (List.mem_of_getElem? (i := 238) rfl))
  | 8, _ => h _ (tb_t2 (List.mem_of_getElem? (i := 239) rfl))
  | 9, _ => h _ (tb_t3 (List.mem_of_getElem? (i := 0) rfl))
  | 10, _ => h _ (tb_t3 (List.mem_of_getElem? (i := 5) rfl))
  | 11, _ => h _ (tb_t3 (List.mem_of_getElem? (i := 6) rfl))
  | 12, _ => h _ (tb_t3 (List.mem_of_getElem? (i := 7) rfl))
  | 13, _ => h _ (tb_t3 (List.mem_of_getElem? (i := 8) rfl))
  | 14, _ => h _ (tb_t3 (List.mem_of_getElem? (i := 13) rfl))
  | 15, _ => h _ (tb_t3 (List.mem_of_getElem? (i := 14) rfl))
  | 16, _ => h _ (tb_t3 (List.mem_of_getElem? (i := 15) rfl))
  | 17, _ => h _ (tb_t3 (List.mem_of_getElem? (i := 16) rfl))
  | 18, _ => h _ (tb_t3 (List.mem_of_getElem? (i := 21) rfl))
  | 19, _ => h _ (tb_t3 (List.mem_of_getElem? (i := 26) rfl))
  | i + 20, hi => absurd hi (by omega)
theorem sn_start {s : State} {b : Nat} (hts : ∀ w ∈ lw_tbl, w.before #[Value.ref b] s = true) (h : narrow_1.before #[Value.ref b] s = true) : ∃ adK adV : Nat → Nat, SS adK adV s.heap.size s s.heap := by
  have hA : ∀ a : Nat, a < s.heap.size → ¬ RA s.heap.size a := fun a h1 h2 => absurd h1 (Nat.not_lt.mpr h2)
  obtain ⟨adK, adV, h1, h2⟩ := ss_of (tm := fun i => Term.string "RoadShut$Reader" (kS.getD i 0)) (sn_ex h) (sn_co h) (sn_ar h) (sn_le h) (sn_el h) hA
  refine ⟨adK, adV, h1, fun i hi => vk_R.of (A := #[Value.ref b]) (sn_rf hts i hi) (h2 i hi), va_Zof (hts _ (tb_t2 (List.mem_of_getElem? (i := 177) rfl))) (hts _ (tb_t1 (List.mem_of_getElem? (i := 11) rfl))) (va_eqt (sn_cs h)) hA, va_Zqof (hts _ (tb_t2 (List.mem_of_getElem? (i := 193) rfl))) (hts _ (tb_t1 (List.mem_of_getElem? (i := 13) rfl))) (sn_fm h) hA⟩
