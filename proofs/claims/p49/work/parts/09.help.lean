/-! ===== numbers ===== -/
theorem bm64 {z : Int} (h1 : -9223372036854775808 ≤ z) (h2 : z < 9223372036854775808) : z.bmod (2 ^ 64) = z := by
  rw [Int.bmod_eq_of_le] <;> omega
theorem add_t64 {x y z : Int64} (h : z = x + y) (h1 : -9223372036854775808 ≤ x.toInt + y.toInt) (h2 : x.toInt + y.toInt < 9223372036854775808) : z.toInt = x.toInt + y.toInt := by
  rw [h, Int64.toInt_add]; exact bm64 h1 h2
theorem sub_t64 {x y z : Int64} (h : z = x - y) (h1 : -9223372036854775808 ≤ x.toInt - y.toInt) (h2 : x.toInt - y.toInt < 9223372036854775808) : z.toInt = x.toInt - y.toInt := by
  rw [h, Int64.toInt_sub]; exact bm64 h1 h2
theorem mul_t64 {x y z : Int64} (h : z = x * y) (h1 : -9223372036854775808 ≤ x.toInt * y.toInt) (h2 : x.toInt * y.toInt < 9223372036854775808) : z.toInt = x.toInt * y.toInt := by
  rw [h, Int64.toInt_mul]; exact bm64 h1 h2
theorem mulb {x y a b : Int} (h1 : 0 ≤ x) (h2 : x ≤ a) (h3 : 0 ≤ y) (h4 : y ≤ b) : 0 ≤ x * y ∧ x * y ≤ a * b :=
  ⟨Int.mul_nonneg h1 h3, Int.mul_le_mul h2 h4 h3 (Int.le_trans h1 h2)⟩
theorem mulb_t {a b n : Int} {x y z : Int32} (h : z = x * y) (h1 : 0 ≤ x.toInt) (h2 : x.toInt ≤ a) (h3 : 0 ≤ y.toInt) (h4 : y.toInt ≤ b) (hn : a * b = n ∧ n < 2147483648) : 0 ≤ z.toInt ∧ z.toInt ≤ n ∧ z.toInt = x.toInt * y.toInt := by
  have q := mulb h1 h2 h3 h4
  have e := mul_t h (by omega) (by omega)
  omega
theorem mulb_t64 {a b n : Int} {x y z : Int64} (h : z = x * y) (h1 : 0 ≤ x.toInt) (h2 : x.toInt ≤ a) (h3 : 0 ≤ y.toInt) (h4 : y.toInt ≤ b) (hn : a * b = n ∧ n < 9223372036854775808) : 0 ≤ z.toInt ∧ z.toInt ≤ n ∧ z.toInt = x.toInt * y.toInt := by
  have q := mulb h1 h2 h3 h4
  have e := mul_t64 h (by omega) (by omega)
  omega
theorem mmax_t {x y z : Int32} (h : z = if x < y then y else x) : x.toInt ≤ z.toInt ∧ y.toInt ≤ z.toInt ∧ (z.toInt = x.toInt ∨ z.toInt = y.toInt) := by
  by_cases q : x < y
  · rw [if_pos q] at h; have := (fa_lt _ _).mp q; subst h; omega
  · rw [if_neg q] at h; have : ¬ x.toInt < y.toInt := fun z => q ((fa_lt _ _).mpr z); subst h; omega
theorem mmin_t {x y z : Int32} (h : z = if y < x then y else x) : x.toInt ≥ z.toInt ∧ y.toInt ≥ z.toInt ∧ (z.toInt = x.toInt ∨ z.toInt = y.toInt) := by
  by_cases q : y < x
  · rw [if_pos q] at h; have := (fa_lt _ _).mp q; subst h; omega
  · rw [if_neg q] at h; have : ¬ y.toInt < x.toInt := fun z => q ((fa_lt _ _).mpr z); subst h; omega
theorem len_t {n : Nat} {z : Int32} (h : z = Int32.ofNat n) (hn : n ≤ 1600) : z.toInt = n := by
  rw [h, Int32.toInt_ofNat_of_lt (by omega)]
theorem ne0_i {y : Int32} (h : y.toInt ≠ 0) : ¬ y = 0 := fun q => h (by rw [q]; rfl)
theorem ne0_l {y : Int64} (h : y.toInt ≠ 0) : ¬ y = 0 := fun q => h (by rw [q]; rfl)
theorem and_t {x y z : Int32} (h : z = x &&& y) (hy : 0 ≤ y.toInt) : 0 ≤ z.toInt ∧ z.toInt ≤ y.toInt := by
  have e1 : z.toBitVec = x.toBitVec &&& y.toBitVec := by rw [h]; rfl
  have hz : z.toInt = z.toBitVec.toInt := rfl
  have hy' : y.toInt = y.toBitVec.toInt := rfl
  have hm : y.toBitVec.msb = false := by
    rw [hy'] at hy
    rw [BitVec.msb_eq_toInt]
    simp; omega
  have hm2 : z.toBitVec.msb = false := by rw [e1, BitVec.msb_and, hm, Bool.and_false]
  rw [hz, hy', BitVec.toInt_eq_toNat_of_msb hm2, BitVec.toInt_eq_toNat_of_msb hm, e1, BitVec.toNat_and]
  have := Nat.and_le_right (n := x.toBitVec.toNat) (m := y.toBitVec.toNat)
  omega
theorem shl6_t {y z : Int32} (h : z = 1 <<< (y &&& 31)) (h0 : 0 ≤ y.toInt) (h1 : y.toInt ≤ 6) : 1 ≤ z.toInt ∧ z.toInt ≤ 64 := by
  have hy : ∀ k : Int32, y.toInt = k.toInt → y = k := fun k q => (fa_eq _ _).mpr q
  rcases (show y.toInt = 0 ∨ y.toInt = 1 ∨ y.toInt = 2 ∨ y.toInt = 3 ∨ y.toInt = 4 ∨ y.toInt = 5 ∨ y.toInt = 6 by omega) with q | q | q | q | q | q | q
  · rw [hy 0 q] at h; subst h; decide
  · rw [hy 1 q] at h; subst h; decide
  · rw [hy 2 q] at h; subst h; decide
  · rw [hy 3 q] at h; subst h; decide
  · rw [hy 4 q] at h; subst h; decide
  · rw [hy 5 q] at h; subst h; decide
  · rw [hy 6 q] at h; subst h; decide
theorem div_t {x y z : Int32} (h : z = x / y) (h0 : 0 ≤ x.toInt) (hy : 0 < y.toInt) : z.toInt = x.toInt / y.toInt := by
  have hx2 : x.toInt < 2147483648 := Int32.toInt_lt x
  have e : z.toInt = (x.toInt.tdiv y.toInt).bmod (2 ^ 32) := by rw [h, Int32.toInt_div]
  rw [e, Int.tdiv_eq_ediv_of_nonneg h0]
  have a1 : 0 ≤ x.toInt / y.toInt := Int.ediv_nonneg h0 (by omega)
  have a2 : x.toInt / y.toInt ≤ x.toInt := Int.ediv_le_self _ h0
  exact bm_t (by omega) (by omega)
theorem st_math_maxl : Cond.static Lib.MathLoose.max_long.x ∈ GW := st_J9_max_f86c9
theorem co_math_maxl : Cond.code Lib.MathLoose.max_long.x Lib.MathLoose.max_long.code 4 (some .long) ∈ GW := co_J9_max_f86c9
theorem st_math_minl : Cond.static Lib.MathLoose.min_long.x ∈ GW := st_J9_min_f86c9
theorem co_math_minl : Cond.code Lib.MathLoose.min_long.x Lib.MathLoose.min_long.code 4 (some .long) ∈ GW := co_J9_min_f86c9
theorem max_t (x : Int32) : x.toInt ≤ 2147483647 := by have := Int32.toInt_lt x; omega
