/-! ===== numbers ===== -/
theorem bm64 {z : Int} (h1 : -9223372036854775808 ≤ z) (h2 : z < 9223372036854775808) : z.bmod (2 ^ 64) = z := by
  rw [Int.bmod_eq_of_le] <;> omega
theorem add_t64 {x y z : Int64} (h : z = x + y) (h1 : -9223372036854775808 ≤ x.toInt + y.toInt) (h2 : x.toInt + y.toInt < 9223372036854775808) : z.toInt = x.toInt + y.toInt := by
  rw [h, Int64.toInt_add]; exact bm64 h1 h2
theorem sub_t64 {x y z : Int64} (h : z = x - y) (h1 : -9223372036854775808 ≤ x.toInt - y.toInt) (h2 : x.toInt - y.toInt < 9223372036854775808) : z.toInt = x.toInt - y.toInt := by
  rw [h, Int64.toInt_sub]; exact bm64 h1 h2
theorem mul_t64 {x y z : Int64} (h : z = x * y) (h1 : -9223372036854775808 ≤ x.toInt * y.toInt) (h2 : x.toInt * y.toInt < 9223372036854775808) : z.toInt = x.toInt * y.toInt := by
  rw [h, Int64.toInt_mul]; exact bm64 h1 h2
theorem mulb {x y a b : Int} (h1 : 0 ≤ x) (h2 : x ≤ a) (h3 : 0 ≤ y) (h4 : y ≤ b) : 0 ≤ x * y ∧ x * y ≤ a * b :=
  ⟨Int.mul_nonneg h1 h3, Int.mul_le_mul h2 h4 h3 (Int.le_trans h1 h2)⟩
theorem mulb_t {a b n : Int} {x y z : Int32} (h : z = x * y) (h1 : 0 ≤ x.toInt) (h2 : x.toInt ≤ a) (h3 : 0 ≤ y.toInt) (h4 : y.toInt ≤ b) (hn : a * b = n ∧ n < 2147483648) : 0 ≤ z.toInt ∧ z.toInt ≤ n ∧ z.toInt = x.toInt * y.toInt := by
  have q := mulb h1 h2 h3 h4
  have e := mul_t h (by omega) (by omega)
  omega
theorem mulb_t64 {a b n : Int} {x y z : Int64} (h : z = x * y) (h1 : 0 ≤ x.toInt) (h2 : x.toInt ≤ a) (h3 : 0 ≤ y.toInt) (h4 : y.toInt ≤ b) (hn : a * b = n ∧ n < 9223372036854775808) : 0 ≤ z.toInt ∧ z.toInt ≤ n ∧ z.toInt = x.toInt * y.toInt := by
  have q := mulb h1 h2 h3 h4
  have e := mul_t64 h (by omega) (by omega)
  omega
theorem mmax_t {x y z : Int32} (h : z = if x < y then y else x) : x.toInt ≤ z.toInt ∧ y.toInt ≤ z.toInt ∧ (z.toInt = x.toInt ∨ z.toInt = y.toInt) := by
  by_cases q : x < y
  · rw [if_pos q] at h; have := (fa_lt _ _).mp q; subst h; omega
  · rw [if_neg q] at h; have : ¬ x.toInt < y.toInt := fun z => q ((fa_lt _ _).mpr z); subst h; omega
theorem mmin_t {x y z : Int32} (h : z = if y < x then y else x) : x.toInt ≥ z.toInt ∧ y.toInt ≥ z.toInt ∧ (z.toInt = x.toInt ∨ z.toInt = y.toInt) := by
  by_cases q : y < x
  · rw [if_pos q] at h; have := (fa_lt _ _).mp q; subst h; omega
  · rw [if_neg q] at h; have : ¬ y.toInt < x.toInt := fun z => q ((fa_lt _ _).mpr z); subst h; omega
theorem len_t {n : Nat} {z : Int32} (h : z = Int32.ofNat n) (hn : n ≤ 1600) : z.toInt = n := by
  rw [h, Int32.toInt_ofNat_of_lt (by omega)]
theorem ne0_i {y : Int32} (h : y.toInt ≠ 0) : ¬ y = 0 := fun q => h (by rw [q]; rfl)
theorem ne0_l {y : Int64} (h : y.toInt ≠ 0) : ¬ y = 0 := fun q => h (by rw [q]; rfl)
theorem and_t {x y z : Int32} (h : z = x &&& y) (hy : 0 ≤ y.toInt) : 0 ≤ z.toInt ∧ z.toInt ≤ y.toInt := by
  have e1 : z.toBitVec = x.toBitVec &&& y.toBitVec := by rw [h]; rfl
  have hz : z.toInt = z.toBitVec.toInt := rfl
  have hy' : y.toInt = y.toBitVec.toInt := rfl
  have hm : y.toBitVec.msb = false := by
    rw [hy'] at hy
    rw [BitVec.msb_eq_toInt]
    simp; omega
  have hm2 : z.toBitVec.msb = false := by rw [e1, BitVec.msb_and, hm, Bool.and_false]
  rw [hz, hy', BitVec.toInt_eq_toNat_of_msb hm2, BitVec.toInt_eq_toNat_of_msb hm, e1, BitVec.toNat_and]
  have := Nat.and_le_right (n := x.toBitVec.toNat) (m := y.toBitVec.toNat)
  omega
theorem shl6_t {y z : Int32} (h : z = 1 <<< (y &&& 31)) (h0 : 0 ≤ y.toInt) (h1 : y.toInt ≤ 6) : 1 ≤ z.toInt ∧ z.toInt ≤ 64 := by
  have hy : ∀ k : Int32, y.toInt = k.toInt → y = k := fun k q => (fa_eq _ _).mpr q
  rcases (show y.toInt = 0 ∨ y.toInt = 1 ∨ y.toInt = 2 ∨ y.toInt = 3 ∨ y.toInt = 4 ∨ y.toInt = 5 ∨ y.toInt = 6 by omega) with q | q | q | q | q | q | q
  · rw [hy 0 q] at h; subst h; decide
  · rw [hy 1 q] at h; subst h; decide
  · rw [hy 2 q] at h; subst h; decide
  · rw [hy 3 q] at h; subst h; decide
  · rw [hy 4 q] at h; subst h; decide
  · rw [hy 5 q] at h; subst h; decide
  · rw [hy 6 q] at h; subst h; decide
theorem div_t {x y z : Int32} (h : z = x / y) (h0 : 0 ≤ x.toInt) (hy : 0 < y.toInt) : z.toInt = x.toInt / y.toInt := by
  have hx2 : x.toInt < 2147483648 := Int32.toInt_lt x
  have e : z.toInt = (x.toInt.tdiv y.toInt).bmod (2 ^ 32) := by rw [h, Int32.toInt_div]
  rw [e, Int.tdiv_eq_ediv_of_nonneg h0]
  have a1 : 0 ≤ x.toInt / y.toInt := Int.ediv_nonneg h0 (by omega)
  have a2 : x.toInt / y.toInt ≤ x.toInt := Int.ediv_le_self _ h0
  exact bm_t (by omega) (by omega)
theorem st_math_maxl : Cond.static Lib.MathLoose.max_long.x ∈ GW := st_J9_max_f86c9
theorem co_math_maxl : Cond.code Lib.MathLoose.max_long.x Lib.MathLoose.max_long.code 4 (some .long) ∈ GW := co_J9_max_f86c9
theorem st_math_minl : Cond.static Lib.MathLoose.min_long.x ∈ GW := st_J9_min_f86c9
theorem co_math_minl : Cond.code Lib.MathLoose.min_long.x Lib.MathLoose.min_long.code 4 (some .long) ∈ GW := co_J9_min_f86c9
theorem min_t (x : Int32) : -2147483648 ≤ x.toInt := by first | (have := Int32.le_toInt x; omega) | (have := Int32.minValue_le_toInt x; simp at this; omega) | (have := BitVec.le_toInt x.toBitVec; exact this)
theorem max_t (x : Int32) : x.toInt ≤ 2147483647 := by have := Int32.toInt_lt x; omega
theorem l2i_t {x : Int64} {z : Int32} (h : z = x.toInt32) (h1 : -2147483648 ≤ x.toInt) (h2 : x.toInt ≤ 2147483647) : z.toInt = x.toInt := by
  rw [h, Int64.toInt_toInt32]; exact bm_t h1 (by omega)
theorem divb_t64 {x y z : Int64} (h : z = x / y) (h0 : 0 ≤ x.toInt) (hy : 0 < y.toInt) : 0 ≤ z.toInt ∧ z.toInt ≤ x.toInt := by
  have hx2 : x.toInt < 9223372036854775808 := Int64.toInt_lt x
  have a1 : 0 ≤ x.toInt / y.toInt := Int.ediv_nonneg h0 (by omega)
  have a2 : x.toInt / y.toInt ≤ x.toInt := Int.ediv_le_self _ h0
  have e : z.toInt = x.toInt / y.toInt := by
    rw [h, Int64.toInt_div, Int.tdiv_eq_ediv_of_nonneg h0]
    exact bm64 (by omega) (by omega)
  omega
/-! ===== a row of longs copied ===== -/
theorem nat_copy : Cond.native arraycopyName ∈ GW := gw_t3 (List.mem_of_getElem? (i := 134) rfl) rfl
theorem sta_copy : Cond.static arraycopyName ∈ GW := gw_t3 (List.mem_of_getElem? (i := 133) rfl) rfl
theorem ini_sys : Cond.initialized "java/lang/System" ∈ GW := gw_t1 (List.mem_of_getElem? (i := 16) rfl) rfl
def wLA (G : Gh) (a : Nat) (f : Nat → Int64) : Gh := (G.1, fun b => if b = a then f else G.2.1 b, G.2.2)
theorem wLA_at (G : Gh) (a : Nat) (f : Nat → Int64) : (wLA G a f).2.1 a = f := by simp [wLA]
theorem wLA_o {G : Gh} {a b : Nat} {f : Nat → Int64} (h : b ≠ a) : (wLA G a f).2.1 b = G.2.1 b := by
  show (if b = a then f else G.2.1 b) = _
  rw [if_neg h]
theorem Fr.wLA {τ : Nat → Nat} {S : List Nat} {G G1 G2 : Gh} {a t : Nat} {f : Nat → Int64} (h : Fr τ S G G1) (e : G2 = wLA G1 a f) (ha : τ a = t) (hs : S.contains t = true) : Fr τ S G G2 := fun b hb => by
  obtain ⟨x1, x2, x3⟩ := h b hb
  rw [e]
  refine ⟨fun hn => ?_, x2, x3⟩
  have hba : b ≠ a := fun q => hn (by rw [q, ha]; exact List.contains_iff_mem.mp hs)
  exact ⟨(x1 hn).1, (wLA_o hba).trans (x1 hn).2⟩
section TCOPY
variable {p : Program} {l : Launch} {e : Env} {R : Room} {s : State} {m : MethodId} {args : Array Value} {below : List Frame} {meth : Method} {c : Code} {H : Heap} {locs : List Loc} {cells slots : Nat} {Qf : State → Prop}
variable {cc : ByteArray} {pc : Nat} {ls : Array Slot} {rest : List Value} {D : va_G} {cy : Nat → ClassId} {base : Nat} {τ : Nat → Nat} {G : Gh} {H0 : Heap} {own : String} {index a a0 t t0 : Nat}
theorem t_copyl {n0 n1 : Nat} {sp dp n : Int32} (af0 : shp t0 = .inr 2) (ht0 : t0 ≠ 0) (af : shp t = .inr 2) (ht : t ≠ 0) (hx : p.tables.exec = Jvm.exec) (hb : c.code = cc) (hml : c.maxLocals = ls.size) (hown : s.vm.findClass own = some m.cls) (hlink : (Cond.methodLink own index arraycopyName).before args s = true) (hts : ∀ w ∈ GW, w.before args s = true) (hK : KK D cy s) (hT : TY D cy base τ G H) (hS : va_S (RA base) H0 H locs) (ha0 : τ a0 = t0) (ha : τ a = t) (hn0 : G.2.2.2 a0 = n0) (hn1 : G.2.2.2 a = n1) (h1 : 0 ≤ sp.toInt) (h2 : 0 ≤ dp.toInt) (h3 : 0 ≤ n.toInt) (h4 : sp.toInt + n.toInt ≤ n0) (h5 : dp.toInt + n.toInt ≤ n1)
    (hframes : 1 ≤ R.frames) (hlocals : (rest.map fun v => v.category).sum + (nativeFrameWords "java/lang/System" "arraycopy" 5 + 11) ≤ R.locals) (hdg : decode cc pc = .ok (.invokestatic index, 3))
    (kk : ∀ (H1 : Heap) (locs1 : List Loc) (G1 : Gh) (f : Nat → Int64), G1 = wLA G a f → TY D cy base τ G1 H1 → va_S (RA base) H0 H1 locs1 → W p l e R s m args below meth c H1 locs1 cells slots Qf (F0 m (pc + 3) ls rest)) : W p l e R s m args below meth c H locs cells slots Qf (F0 m pc ls (.int n :: .int dp :: .ref a :: .int sp :: .ref a0 :: rest)) := by
  obtain ⟨ws, hP, hD, hO, hR⟩ := hT
  obtain ⟨j, hj⟩ := ty_arr (cy := cy) af ht ha hO
  obtain ⟨j0, hj0⟩ := ty_arr (cy := cy) af0 ht0 ha0 hO
  have nn : ∀ z : Int32, 0 ≤ z.toInt → ¬ z < 0 := fun z h q => by have := (fa_lt _ _).mp q; have e0 : (0 : Int32).toInt = 0 := rfl; omega
  have cl : ∀ z : Int32, z.toNatClampNeg = z.toInt.toNat := fun z => rfl
  refine va_copyl hx hb hml hown hlink (hts _ nat_copy) (hts _ sta_copy) (hts _ ini_sys) hK.1 hP hD hS j0 j 2 2 (n0 := G.2.2.2 a0) (n1 := G.2.2.2 a) (f := G.2.1 a0) (g := G.2.1 a) (ty := .long) hj0 hj rfl rfl rfl (nn _ h1) (nn _ h2) (nn _ h3) (by rw [cl, cl, hn0]; omega) (by rw [cl, cl, hn1]; omega) (fun i _ => rfl) hframes hlocals hdg (fun H1 l1 hP1 hD1 hS1 => kk H1 l1 _ (va_cpy (G.2.1 a0) (G.2.1 a) sp.toNatClampNeg dp.toNatClampNeg n.toNatClampNeg) rfl (ty_set (by rw [ENT_a ha af]; exact hj) hP1 hD1 hO ?_ (fun b hb => ENT_congr rfl (wLA_o hb) rfl rfl) hR) hS1)
  rw [ENT_a ha af]; unfold arE; rw [wLA_at]; rfl
end TCOPY
theorem or6_t {x y z : Int32} (h : z = x ||| y) (h1 : 0 ≤ x.toInt) (h2 : x.toInt ≤ 63) (h3 : 0 ≤ y.toInt) (h4 : y.toInt ≤ 63) : 0 ≤ z.toInt ∧ z.toInt ≤ 63 := by
  have hb : ∀ w : Int32, 0 ≤ w.toInt → w.toBitVec.msb = false := fun w hw => by
    have e : w.toInt = w.toBitVec.toInt := rfl
    rw [e] at hw
    rw [BitVec.msb_eq_toInt]
    simp; omega
  have hn : ∀ w : Int32, 0 ≤ w.toInt → w.toInt = (w.toBitVec.toNat : Int) := fun w hw => by
    have e : w.toInt = w.toBitVec.toInt := rfl
    rw [e, BitVec.toInt_eq_toNat_of_msb (hb w hw)]
  have e1 : z.toBitVec = x.toBitVec ||| y.toBitVec := by rw [h]; rfl
  have hz : z.toBitVec.msb = false := by rw [e1, BitVec.msb_or, hb x h1, hb y h3]; rfl
  have e2 : z.toInt = (z.toBitVec.toNat : Int) := by
    have e : z.toInt = z.toBitVec.toInt := rfl
    rw [e, BitVec.toInt_eq_toNat_of_msb hz]
  rw [hn x h1] at h2
  rw [hn y h3] at h4
  have q : x.toBitVec.toNat ||| y.toBitVec.toNat < 2 ^ 6 := Nat.or_lt_two_pow (by omega) (by omega)
  rw [e2, e1, BitVec.toNat_or]
  omega
theorem shl5_t {y z : Int32} (h : z = 1 <<< (y &&& 31)) (h0 : 0 ≤ y.toInt) (h1 : y.toInt ≤ 5) : 1 ≤ z.toInt ∧ z.toInt ≤ 32 := by
  have hy : ∀ k : Int32, y.toInt = k.toInt → y = k := fun k q => (fa_eq _ _).mpr q
  rcases (show y.toInt = 0 ∨ y.toInt = 1 ∨ y.toInt = 2 ∨ y.toInt = 3 ∨ y.toInt = 4 ∨ y.toInt = 5 by omega) with q | q | q | q | q | q
  · rw [hy 0 q] at h; subst h; decide
  · rw [hy 1 q] at h; subst h; decide
  · rw [hy 2 q] at h; subst h; decide
  · rw [hy 3 q] at h; subst h; decide
  · rw [hy 4 q] at h; subst h; decide
  · rw [hy 5 q] at h; subst h; decide
