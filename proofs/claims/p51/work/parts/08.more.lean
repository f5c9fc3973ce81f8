/-! ===== sums and products without a wrap; loops ===== -/
theorem bm_t {z : Int} (h1 : -2147483648 ≤ z) (h2 : z < 2147483648) : z.bmod (2 ^ 32) = z := by
  rw [Int.bmod_eq_of_le] <;> omega
theorem add_t {x y z : Int32} (h : z = x + y) (h1 : -2147483648 ≤ x.toInt + y.toInt) (h2 : x.toInt + y.toInt < 2147483648) : z.toInt = x.toInt + y.toInt := by
  rw [h, Int32.toInt_add]; exact bm_t h1 h2
theorem sub_t {x y z : Int32} (h : z = x - y) (h1 : -2147483648 ≤ x.toInt - y.toInt) (h2 : x.toInt - y.toInt < 2147483648) : z.toInt = x.toInt - y.toInt := by
  rw [h, Int32.toInt_sub]; exact bm_t h1 h2
theorem mul_t {x y z : Int32} (h : z = x * y) (h1 : -2147483648 ≤ x.toInt * y.toInt) (h2 : x.toInt * y.toInt < 2147483648) : z.toInt = x.toInt * y.toInt := by
  rw [h, Int32.toInt_mul]; exact bm_t h1 h2
theorem max0_t {n : Int32} (h : 0 ≤ n.toInt) : (if (0 : Int32) < n then n else 0) = n := by
  by_cases h1 : (0 : Int32) < n
  · rw [if_pos h1]
  · rw [if_neg h1]
    have h2 : ¬ 0 < n.toInt := fun q => h1 ((fa_lt _ _).mpr q)
    exact (fa_eq _ _).mpr (show (0 : Int32).toInt = n.toInt from by have e : (0 : Int32).toInt = 0 := rfl; rw [e]; omega)
theorem clamp_lt {i : Int32} {n : Nat} (h0 : 0 ≤ i.toInt) (h1 : i.toInt < n) : i.toNatClampNeg < n := by
  show i.toInt.toNat < n
  omega
section LOOP
variable {p : Program} {l : Launch} {e : Env} {R : Room} {s : State} {m : MethodId} {args : Array Value} {below : List Frame} {meth : Method} {c : Code} {cells slots pc : Nat} {Q : State → Prop}
theorem W.loop {σ : Type} (I : σ → Heap → List Loc → Array Slot → Prop) (μ : σ → Nat)
    (step : ∀ (a : σ) (H : Heap) (locs : List Loc) (ls : Array Slot), I a H locs ls → (∀ (a' : σ) (H' : Heap) (locs' : List Loc) (ls' : Array Slot), μ a' < μ a → I a' H' locs' ls' → W p l e R s m args below meth c H' locs' cells slots Q (F0 m pc ls' [])) → W p l e R s m args below meth c H locs cells slots Q (F0 m pc ls []))
    (a : σ) (H : Heap) (locs : List Loc) (ls : Array Slot) (h : I a H locs ls) : W p l e R s m args below meth c H locs cells slots Q (F0 m pc ls []) := by
  have key : ∀ (n : Nat) (a : σ) (H : Heap) (locs : List Loc) (ls : Array Slot), μ a < n → I a H locs ls → W p l e R s m args below meth c H locs cells slots Q (F0 m pc ls []) := by
    intro n
    induction n with
    | zero => intro a H locs ls h1 _; exact absurd h1 (Nat.not_lt_zero _)
    | succ n ih => intro a H locs ls h1 h2; exact step a H locs ls h2 (fun a' H' locs' ls' h3 h4 => ih a' H' locs' ls' (by omega) h4)
  exact key (μ a + 1) a H locs ls (Nat.lt_succ_self _) h
end LOOP
