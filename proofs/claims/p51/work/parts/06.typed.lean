/-! ===== an abstract memory: tags of addresses, what typed cells hold ===== -/
abbrev Gh : Type := (Nat → Nat → Int32) × (Nat → Nat → Int64) × (Nat → Nat → Option Nat) × (Nat → Nat)
def vOf (G : Gh) (a k t : Nat) : Value := match t with
  | 0 => .int (G.1 a k)
  | 1 => .long (G.2.1 a k)
  | _ => va_rf (G.2.2.1 a k)
def obV (G : Gh) (a : Nat) : List Nat → Nat → List Value
  | [], _ => []
  | t :: ts, k => vOf G a k t :: obV G a ts (k + 1)
theorem obV_len (G : Gh) (a : Nat) : ∀ (ts : List Nat) (k : Nat), (obV G a ts k).length = ts.length
  | [], _ => rfl
  | _ :: ts, k => by rw [obV, List.length_cons, List.length_cons, obV_len G a ts (k + 1)]
theorem obV_get (G : Gh) (a : Nat) : ∀ (ts : List Nat) (j k : Nat), (obV G a ts j)[k]? = (ts[k]?).map (fun t => vOf G a (j + k) t)
  | [], j, k => by simp [obV]
  | t :: ts, j, 0 => by simp [obV]
  | t :: ts, j, k + 1 => by
    rw [obV, List.getElem?_cons_succ, List.getElem?_cons_succ, obV_get G a ts (j + 1) k, show j + 1 + k = j + (k + 1) by omega]
theorem obV_congr {G G' : Gh} {b : Nat} (h1 : G'.1 b = G.1 b) (h2 : G'.2.1 b = G.2.1 b) (h3 : G'.2.2.1 b = G.2.2.1 b) : ∀ (ts : List Nat) (j : Nat), obV G' b ts j = obV G b ts j
  | [], _ => rfl
  | t :: ts, j => by
    rw [obV, obV, obV_congr h1 h2 h3 ts (j + 1)]
    congr 1
    unfold vOf
    rw [h1, h2, h3]
def arE (G : Gh) (a et : Nat) : vp_A := (G.2.2.2 a, match et with
  | 2 => .inr (.inl (G.2.1 a))
  | 4 => .inr (.inr (.inr (.inr (G.2.2.1 a))))
  | 5 => .inr (.inr (.inr (.inr (G.2.2.1 a))))
  | _ => .inl (G.1 a))
def shp : Nat → (Nat × List Nat) ⊕ Nat
  | 1 => .inl (9, [2, 2, 2, 2, 2, 2, 2, 2, 2, 0, 2, 2, 0, 0])
  | 2 => .inl (4, [0, 0, 2, 0, 0, 0, 0, 0, 2, 0, 0, 0])
  | 3 => .inl (8, [2, 2, 0, 2, 2])
  | 4 => .inl (3, [2, 2, 2, 2, 0, 0, 0, 0, 0, 1])
  | 5 => .inl (7, [2])
  | 6 => .inl (0, [1])
  | 7 => .inl (2, [0, 0, 0, 0, 0, 0, 0, 0, 0, 0, 0, 0, 0, 0, 2, 2, 2, 2, 2, 2, 2])
  | 8 => .inl (5, [2, 2, 2, 2, 2, 2, 2])
  | 9 => .inl (6, [0, 2])
  | 10 => .inl (1, [2, 2])
  | 11 => .inl (10, [0, 2, 2, 2, 2, 2, 0, 0, 0, 0, 0, 1, 0, 0, 0, 0, 2, 2, 2, 2, 2, 2, 2, 2, 2, 2, 2, 2, 2, 2, 2, 2, 2, 2, 2, 2, 2, 2, 2, 2, 2, 2, 1])
  | 20 => .inr 0
  | 23 => .inr 4
  | 24 => .inr 5
  | 25 => .inr 1
  | 26 => .inr 1
  | 27 => .inr 1
  | 28 => .inr 1
  | 29 => .inr 1
  | 30 => .inr 2
  | 31 => .inr 1
  | 32 => .inr 2
  | 33 => .inr 2
  | 34 => .inr 2
  | 35 => .inr 2
  | 36 => .inr 2
  | 37 => .inr 2
  | 38 => .inr 1
  | 39 => .inr 1
  | 40 => .inr 2
  | 51 => .inr 1
  | 52 => .inr 1
  | 53 => .inr 2
  | 54 => .inr 2
  | 55 => .inr 0
  | 66 => .inr 1
  | 67 => .inr 1
  | 68 => .inr 1
  | 69 => .inr 1
  | 70 => .inr 1
  | 71 => .inr 1
  | 72 => .inr 1
  | 73 => .inr 1
  | 74 => .inr 1
  | 75 => .inr 3
  | 76 => .inr 1
  | 77 => .inr 1
  | 78 => .inr 3
  | 79 => .inr 2
  | 80 => .inr 2
  | 81 => .inr 2
  | 82 => .inr 2
  | 83 => .inr 2
  | 84 => .inr 2
  | 85 => .inr 2
  | 86 => .inr 2
  | 87 => .inr 2
  | 88 => .inr 2
  | 89 => .inr 2
  | 90 => .inr 1
  | 91 => .inr 1
  | _ => .inr 9
def Rgi : Nat → Nat → Int32 → Prop
  | 1, 9, x => 0 ≤ x.toInt ∧ x.toInt ≤ 1600
  | 2, 3, x => 0 ≤ x.toInt ∧ x.toInt ≤ 1600
  | 3, 2, x => 0 ≤ x.toInt ∧ x.toInt ≤ 1080
  | 4, 6, x => 0 ≤ x.toInt ∧ x.toInt ≤ 600
  | 4, 7, x => -1 ≤ x.toInt ∧ x.toInt ≤ 600
  | 4, 8, x => 1 ≤ x.toInt ∧ x.toInt ≤ 50
  | 7, 1, x => 0 ≤ x.toInt ∧ x.toInt ≤ 60
  | 7, 5, x => 0 ≤ x.toInt ∧ x.toInt ≤ 3
  | 7, 6, x => 0 ≤ x.toInt ∧ x.toInt ≤ 6
  | 7, 8, x => 1 ≤ x.toInt ∧ x.toInt ≤ 9
  | 7, 9, x => 1 ≤ x.toInt ∧ x.toInt ≤ 50
  | 11, 6, x => 0 ≤ x.toInt ∧ x.toInt ≤ 1600
  | 11, 7, x => 0 ≤ x.toInt ∧ x.toInt ≤ 1600
  | 39, _, x => 0 ≤ x.toInt ∧ x.toInt ≤ 999
  | 52, _, x => 0 ≤ x.toInt ∧ x.toInt ≤ 60
  | 68, _, x => 0 ≤ x.toInt ∧ x.toInt ≤ 3
  | 70, _, x => 0 ≤ x.toInt ∧ x.toInt ≤ 6
  | 72, _, x => 0 ≤ x.toInt ∧ x.toInt ≤ 8
  | 90, _, x => 0 ≤ x.toInt ∧ x.toInt ≤ 999
  | 51, _, x => -1 ≤ x.toInt ∧ x.toInt ≤ 3
  | 67, k, x => (k % 4 = 0 → 0 ≤ x.toInt ∧ x.toInt ≤ 60)
  | 71, k, x => (k % 5 = 1 → 0 ≤ x.toInt ∧ x.toInt ≤ 999) ∧ (k % 5 = 2 → 0 ≤ x.toInt ∧ x.toInt ≤ 9) ∧ (k % 5 = 3 → 0 ≤ x.toInt ∧ x.toInt ≤ 9) ∧ (k % 5 = 4 → 0 ≤ x.toInt ∧ x.toInt ≤ 9)
  | 74, k, x => (k % 6 = 0 → 0 ≤ x.toInt ∧ x.toInt ≤ 9) ∧ (k % 6 = 1 → 0 ≤ x.toInt ∧ x.toInt ≤ 50) ∧ (k % 6 = 3 → 0 ≤ x.toInt ∧ x.toInt ≤ 50)
  | _, _, _ => True
def Rgr (τ len : Nat → Nat) : Nat → Nat → Option Nat → Prop
  | 1, 0, o => ∃ q, o = some q ∧ τ q = 20 ∧ len q = 1600
  | 1, 1, o => ∃ q, o = some q ∧ τ q = 2
  | 1, 2, o => ∃ q, o = some q ∧ τ q = 3
  | 1, 3, o => ∃ q, o = some q ∧ τ q = 4
  | 1, 4, o => ∃ q, o = some q ∧ τ q = 5
  | 1, 5, o => ∃ q, o = some q ∧ τ q = 6
  | 1, 6, o => ∃ q, o = some q ∧ τ q = 25
  | 1, 7, o => ∃ q, o = some q ∧ τ q = 23
  | 1, 8, o => ∃ q, o = some q ∧ τ q = 24
  | 1, 10, o => ∃ q, o = some q ∧ τ q = 7
  | 1, 11, o => o = none ∨ ∃ q, o = some q ∧ τ q = 25
  | 2, 2, o => ∃ q, o = some q ∧ τ q = 20
  | 2, 8, o => ∃ q, o = some q ∧ τ q = 7
  | 3, 0, o => ∃ q, o = some q ∧ τ q = 8
  | 3, 1, o => ∃ q, o = some q ∧ τ q = 36
  | 3, 3, o => ∃ q, o = some q ∧ τ q = 37
  | 3, 4, o => ∃ q, o = some q ∧ τ q = 38
  | 4, 0, o => ∃ q, o = some q ∧ τ q = 30
  | 4, 1, o => ∃ q, o = some q ∧ τ q = 30
  | 4, 2, o => ∃ q, o = some q ∧ τ q = 31
  | 4, 3, o => ∃ q, o = some q ∧ τ q = 7
  | 5, 0, o => ∃ q, o = some q ∧ τ q = 39
  | 7, 14, o => ∃ q, o = some q ∧ τ q = 26
  | 7, 15, o => ∃ q, o = some q ∧ τ q = 26
  | 7, 16, o => ∃ q, o = some q ∧ τ q = 26
  | 7, 17, o => ∃ q, o = some q ∧ τ q = 27
  | 7, 18, o => ∃ q, o = some q ∧ τ q = 27
  | 7, 19, o => ∃ q, o = some q ∧ τ q = 28
  | 7, 20, o => ∃ q, o = some q ∧ τ q = 29
  | 8, 0, o => ∃ q, o = some q ∧ τ q = 32
  | 8, 1, o => ∃ q, o = some q ∧ τ q = 33
  | 8, 2, o => ∃ q, o = some q ∧ τ q = 34
  | 8, 3, o => ∃ q, o = some q ∧ τ q = 34
  | 8, 4, o => ∃ q, o = some q ∧ τ q = 35
  | 8, 5, o => ∃ q, o = some q ∧ τ q = 35
  | 8, 6, o => ∃ q, o = some q ∧ τ q = 35
  | 9, 1, o => ∃ q, o = some q ∧ τ q = 40
  | 10, 0, o => ∃ q, o = some q ∧ τ q = 7
  | 10, 1, o => o = none ∨ ∃ q, o = some q ∧ τ q = 25
  | 11, 1, o => ∃ q, o = some q ∧ τ q = 51
  | 11, 2, o => ∃ q, o = some q ∧ τ q = 52
  | 11, 3, o => ∃ q, o = some q ∧ τ q = 53
  | 11, 4, o => ∃ q, o = some q ∧ τ q = 54
  | 11, 5, o => ∃ q, o = some q ∧ τ q = 55
  | 11, 16, o => ∃ q, o = some q ∧ τ q = 66
  | 11, 17, o => ∃ q, o = some q ∧ τ q = 67
  | 11, 18, o => ∃ q, o = some q ∧ τ q = 68
  | 11, 19, o => ∃ q, o = some q ∧ τ q = 69
  | 11, 20, o => ∃ q, o = some q ∧ τ q = 70
  | 11, 21, o => ∃ q, o = some q ∧ τ q = 71
  | 11, 22, o => ∃ q, o = some q ∧ τ q = 72
  | 11, 23, o => ∃ q, o = some q ∧ τ q = 73
  | 11, 24, o => ∃ q, o = some q ∧ τ q = 74
  | 11, 25, o => ∃ q, o = some q ∧ τ q = 75
  | 11, 26, o => ∃ q, o = some q ∧ τ q = 76
  | 11, 27, o => ∃ q, o = some q ∧ τ q = 77
  | 11, 28, o => ∃ q, o = some q ∧ τ q = 78
  | 11, 29, o => ∃ q, o = some q ∧ τ q = 79
  | 11, 30, o => ∃ q, o = some q ∧ τ q = 80
  | 11, 31, o => ∃ q, o = some q ∧ τ q = 81
  | 11, 32, o => ∃ q, o = some q ∧ τ q = 82
  | 11, 33, o => ∃ q, o = some q ∧ τ q = 83
  | 11, 34, o => ∃ q, o = some q ∧ τ q = 84
  | 11, 35, o => ∃ q, o = some q ∧ τ q = 85
  | 11, 36, o => ∃ q, o = some q ∧ τ q = 86
  | 11, 37, o => ∃ q, o = some q ∧ τ q = 87
  | 11, 38, o => ∃ q, o = some q ∧ τ q = 88
  | 11, 39, o => ∃ q, o = some q ∧ τ q = 89
  | 11, 40, o => ∃ q, o = some q ∧ τ q = 90
  | 11, 41, o => ∃ q, o = some q ∧ τ q = 91
  | 23, _, o => o = none ∨ ∃ q, o = some q ∧ τ q = 9
  | 24, _, o => o = none ∨ ∃ q, o = some q ∧ τ q = 10
  | _, _, _ => True
def Rgn : Nat → Nat → Prop
  | 20, n => n ≤ 1600
  | 23, n => n = 4
  | 24, n => n = 3
  | 25, n => n = 6
  | 26, n => n = 3
  | 27, n => n = 6
  | 28, n => n = 18
  | 29, n => n = 36
  | 30, n => n = 601
  | 31, n => n = 601
  | 32, n => n = 61
  | 33, n => n = 3721
  | 34, n => n = 122
  | 35, n => n = 64
  | 36, n => n = 1081
  | 37, n => n = 3000
  | 38, n => n = 3
  | 39, n => n = 6
  | 40, n => n ≤ 60
  | 51, n => n = 4
  | 52, n => n = 4
  | 53, n => n = 240
  | 54, n => n = 60
  | 55, n => n = 1600
  | 66, n => n = 5
  | 67, n => n = 20
  | 68, n => n = 5
  | 69, n => n = 45
  | 70, n => n = 5
  | 71, n => n = 150
  | 72, n => n = 5
  | 73, n => n = 120
  | 74, n => n = 30
  | 75, n => n = 15
  | 76, n => n = 5
  | 77, n => n = 30
  | 78, n => n = 3
  | 79, n => n = 61
  | 80, n => n = 3721
  | 81, n => n = 3721
  | 82, n => n = 3721
  | 83, n => n = 64
  | 84, n => n = 64
  | 85, n => n = 64
  | 86, n => n = 3000
  | 87, n => n = 4000
  | 88, n => n = 75000
  | 89, n => n = 1100
  | 90, n => n = 6
  | 91, n => n = 6
  | _, _ => True
def ENT (cy : Nat → ClassId) (τ : Nat → Nat) (G : Gh) (a : Nat) : va_E := match shp (τ a) with
  | .inl o => .inr (o.1, obV G a o.2 0)
  | .inr et => .inl (cy et, arE G a et)
theorem ENT_congr {cy : Nat → ClassId} {τ : Nat → Nat} {G G' : Gh} {b : Nat} (h1 : G'.1 b = G.1 b) (h2 : G'.2.1 b = G.2.1 b) (h3 : G'.2.2.1 b = G.2.2.1 b) (h4 : G'.2.2.2 b = G.2.2.2 b) : ENT cy τ G' b = ENT cy τ G b := by
  unfold ENT
  cases shp (τ b) with
  | inl o => show Sum.inr _ = Sum.inr _; rw [obV_congr h1 h2 h3]
  | inr et => show Sum.inl _ = Sum.inl _; unfold arE; rw [h1, h2, h3, h4]
theorem ENT_o {cy : Nat → ClassId} {τ : Nat → Nat} {G : Gh} {a t ci : Nat} {ts : List Nat} (ha : τ a = t) (hs : shp t = .inl (ci, ts)) : ENT cy τ G a = .inr (ci, obV G a ts 0) := by
  unfold ENT; rw [ha, hs]
theorem ENT_a {cy : Nat → ClassId} {τ : Nat → Nat} {G : Gh} {a t et : Nat} (ha : τ a = t) (hs : shp t = .inr et) : ENT cy τ G a = .inl (cy et, arE G a et) := by
  unfold ENT; rw [ha, hs]
def wI (G : Gh) (a k : Nat) (x : Int32) : Gh := (fun b j => if b = a ∧ j = k then x else G.1 b j, G.2)
def wL (G : Gh) (a k : Nat) (x : Int64) : Gh := (G.1, fun b j => if b = a ∧ j = k then x else G.2.1 b j, G.2.2)
def wR (G : Gh) (a k : Nat) (x : Option Nat) : Gh := (G.1, G.2.1, fun b j => if b = a ∧ j = k then x else G.2.2.1 b j, G.2.2.2)
theorem wI_at (G : Gh) (a k : Nat) (x : Int32) : (wI G a k x).1 a k = x := by simp [wI]
theorem wL_at (G : Gh) (a k : Nat) (x : Int64) : (wL G a k x).2.1 a k = x := by simp [wL]
theorem wR_at (G : Gh) (a k : Nat) (x : Option Nat) : (wR G a k x).2.2.1 a k = x := by simp [wR]
theorem wI_ne {G : Gh} {a k b j : Nat} {x : Int32} (h : b ≠ a ∨ j ≠ k) : (wI G a k x).1 b j = G.1 b j := by
  show (if b = a ∧ j = k then x else G.1 b j) = _
  rw [if_neg (by omega)]
theorem wL_ne {G : Gh} {a k b j : Nat} {x : Int64} (h : b ≠ a ∨ j ≠ k) : (wL G a k x).2.1 b j = G.2.1 b j := by
  show (if b = a ∧ j = k then x else G.2.1 b j) = _
  rw [if_neg (by omega)]
theorem wR_ne {G : Gh} {a k b j : Nat} {x : Option Nat} (h : b ≠ a ∨ j ≠ k) : (wR G a k x).2.2.1 b j = G.2.2.1 b j := by
  show (if b = a ∧ j = k then x else G.2.2.1 b j) = _
  rw [if_neg (by omega)]
theorem wI_o {G : Gh} {a k b : Nat} {x : Int32} (h : b ≠ a) : (wI G a k x).1 b = G.1 b := funext fun _ => wI_ne (Or.inl h)
theorem wL_o {G : Gh} {a k b : Nat} {x : Int64} (h : b ≠ a) : (wL G a k x).2.1 b = G.2.1 b := funext fun _ => wL_ne (Or.inl h)
theorem wR_o {G : Gh} {a k b : Nat} {x : Option Nat} (h : b ≠ a) : (wR G a k x).2.2.1 b = G.2.2.1 b := funext fun _ => wR_ne (Or.inl h)
theorem wI_up (G : Gh) (a k : Nat) (x : Int32) : (wI G a k x).1 a = upd (G.1 a) k x := by
  funext j
  show (if a = a ∧ j = k then x else G.1 a j) = _
  unfold upd
  by_cases h : j = k
  · rw [if_pos ⟨rfl, h⟩, if_pos h]
  · rw [if_neg (fun q => h q.2), if_neg h]
theorem wL_up (G : Gh) (a k : Nat) (x : Int64) : (wL G a k x).2.1 a = vp_updL (G.2.1 a) k x := by
  funext j
  show (if a = a ∧ j = k then x else G.2.1 a j) = _
  unfold vp_updL
  by_cases h : j = k
  · rw [if_pos ⟨rfl, h⟩, if_pos h]
  · rw [if_neg (fun q => h q.2), if_neg h]
theorem wR_up (G : Gh) (a k : Nat) (x : Option Nat) : (wR G a k x).2.2.1 a = va_up (G.2.2.1 a) k x := by
  funext j
  show (if a = a ∧ j = k then x else G.2.2.1 a j) = _
  unfold va_up
  by_cases h : j = k
  · rw [if_pos ⟨rfl, h⟩, if_pos h]
  · rw [if_neg (fun q => h q.2), if_neg h]
theorem obV_set {G G' : Gh} {a k tv : Nat} {v : Value} {ts : List Nat} (hk : ts[k]? = some tv) (hv : vOf G' a k tv = v) (ho : ∀ j t, j ≠ k → vOf G' a j t = vOf G a j t) : (obV G a ts 0).set k v = obV G' a ts 0 := by
  apply List.ext_getElem?
  intro j
  by_cases h : k = j
  · subst h
    rw [List.getElem?_set_self (by rw [obV_len]; exact (List.getElem?_eq_some_iff.mp hk).1), obV_get, hk]
    show some v = some (vOf G' a (0 + k) tv)
    rw [Nat.zero_add, hv]
  · rw [List.getElem?_set_ne h, obV_get, obV_get]
    congr 1
    funext t
    rw [ho (0 + j) t (by omega)]
def RG (τ : Nat → Nat) (G : Gh) : Prop := ∀ a, τ a ≠ 0 → (∀ k, Rgi (τ a) k (G.1 a k)) ∧ (∀ k, Rgr τ G.2.2.2 (τ a) k (G.2.2.1 a k)) ∧ Rgn (τ a) (G.2.2.2 a)
theorem RG.wI {τ : Nat → Nat} {G : Gh} {a k t : Nat} {x : Int32} (h : RG τ G) (ha : τ a = t) (hx : Rgi t k x) : RG τ (wI G a k x) := by
  intro b hb
  obtain ⟨h1, h2, h3⟩ := h b hb
  refine ⟨fun j => ?_, h2, h3⟩
  by_cases q : b = a ∧ j = k
  · obtain ⟨rfl, rfl⟩ := q
    rw [wI_at, ha]; exact hx
  · rw [wI_ne (by omega)]; exact h1 j
theorem RG.wL {τ : Nat → Nat} {G : Gh} {a k : Nat} {x : Int64} (h : RG τ G) : RG τ (wL G a k x) := h
theorem RG.wR {τ : Nat → Nat} {G : Gh} {a k t : Nat} {x : Option Nat} (h : RG τ G) (ha : τ a = t) (hx : Rgr τ G.2.2.2 t k x) : RG τ (wR G a k x) := by
  intro b hb
  obtain ⟨h1, h2, h3⟩ := h b hb
  refine ⟨h1, fun j => ?_, h3⟩
  by_cases q : b = a ∧ j = k
  · obtain ⟨rfl, rfl⟩ := q
    rw [wR_at, ha]; exact hx
  · rw [wR_ne (by omega)]; exact h2 j
def RA (base : Nat) : Nat → Prop := fun q => base ≤ q
def TYR (D : va_G) (cy : Nat → ClassId) (base : Nat) (τ : Nat → Nat) (G : Gh) (ex : va_W) (H : Heap) : Prop := ∃ ws : va_W, va_P D vwCl (ws ++ ex) H ∧ va_D (RA base) (ws ++ ex) ∧ (∀ a, τ a ≠ 0 → ∃ i : Nat, ws[i]? = some (a, ENT cy τ G a)) ∧ RG τ G
def TY (D : va_G) (cy : Nat → ClassId) (base : Nat) (τ : Nat → Nat) (G : Gh) (H : Heap) : Prop := ∃ ws : va_W, va_P D vwCl ws H ∧ va_D (RA base) ws ∧ (∀ a, τ a ≠ 0 → ∃ i : Nat, ws[i]? = some (a, ENT cy τ G a)) ∧ RG τ G
theorem TY.toR {D : va_G} {cy : Nat → ClassId} {base : Nat} {τ : Nat → Nat} {G : Gh} {H : Heap} (h : TY D cy base τ G H) : TYR D cy base τ G [] H := by
  obtain ⟨ws, h1, h2, h3⟩ := h
  exact ⟨ws, by rw [List.append_nil]; exact h1, by rw [List.append_nil]; exact h2, h3⟩
theorem TYR.to {D : va_G} {cy : Nat → ClassId} {base : Nat} {τ : Nat → Nat} {G : Gh} {H : Heap} (h : TYR D cy base τ G [] H) : TY D cy base τ G H := by
  obtain ⟨ws, h1, h2, h3⟩ := h
  exact ⟨ws, by rw [List.append_nil] at h1; exact h1, by rw [List.append_nil] at h2; exact h2, h3⟩
theorem TY.rgi {D : va_G} {cy : Nat → ClassId} {base : Nat} {τ : Nat → Nat} {G : Gh} {H : Heap} (h : TY D cy base τ G H) {a t : Nat} (ha : τ a = t) (ht : t ≠ 0) (k : Nat) : Rgi t k (G.1 a k) := by
  obtain ⟨ws, h1, h2, h3, h4⟩ := h
  have := (h4 a (by rw [ha]; exact ht)).1 k
  rw [ha] at this; exact this
theorem TY.rgr {D : va_G} {cy : Nat → ClassId} {base : Nat} {τ : Nat → Nat} {G : Gh} {H : Heap} (h : TY D cy base τ G H) {a t : Nat} (ha : τ a = t) (ht : t ≠ 0) (k : Nat) : Rgr τ G.2.2.2 t k (G.2.2.1 a k) := by
  obtain ⟨ws, h1, h2, h3, h4⟩ := h
  have := (h4 a (by rw [ha]; exact ht)).2.1 k
  rw [ha] at this; exact this
theorem TY.len {D : va_G} {cy : Nat → ClassId} {base : Nat} {τ : Nat → Nat} {G : Gh} {H : Heap} (h : TY D cy base τ G H) {a t : Nat} (ha : τ a = t) (ht : t ≠ 0) : Rgn t (G.2.2.2 a) := by
  obtain ⟨ws, h1, h2, h3, h4⟩ := h
  have := (h4 a (by rw [ha]; exact ht)).2.2
  rw [ha] at this; exact this
theorem ty_set {D : va_G} {cy : Nat → ClassId} {base : Nat} {τ : Nat → Nat} {G G' : Gh} {H1 : Heap} {ws : va_W} {i a : Nat} {e1 : va_E} (hi : ws[i]? = some (a, ENT cy τ G a)) (hP1 : va_P D vwCl (ws.set i (a, e1)) H1) (hD1 : va_D (RA base) (ws.set i (a, e1))) (hO : ∀ b, τ b ≠ 0 → ∃ j : Nat, ws[j]? = some (b, ENT cy τ G b)) (he : e1 = ENT cy τ G' a) (hoth : ∀ b, b ≠ a → ENT cy τ G' b = ENT cy τ G b) (hR : RG τ G') : TY D cy base τ G' H1 := by
  refine ⟨ws.set i (a, e1), hP1, hD1, fun b hb => ?_, hR⟩
  by_cases hba : b = a
  · subst hba
    exact ⟨i, by rw [List.getElem?_set_self (List.getElem?_eq_some_iff.mp hi).1, he]⟩
  · obtain ⟨j, hj⟩ := hO b hb
    refine ⟨j, ?_⟩
    have hne : i ≠ j := fun h => hba (by subst h; rw [hi] at hj; exact (congrArg Prod.fst (Option.some.inj hj)).symm)
    rw [List.getElem?_set_ne hne, hj, hoth b hba]
/-- what is the same outside the tags S (t: ints and longs of a tag, t + 1000: its references) -/
def Fr (τ : Nat → Nat) (S : List Nat) (G G' : Gh) : Prop := ∀ b, τ b ≠ 0 → (τ b ∉ S → G'.1 b = G.1 b ∧ G'.2.1 b = G.2.1 b) ∧ (τ b + 1000 ∉ S → G'.2.2.1 b = G.2.2.1 b) ∧ G'.2.2.2 b = G.2.2.2 b
theorem Fr.rf {τ : Nat → Nat} {S : List Nat} {G : Gh} : Fr τ S G G := fun _ _ => ⟨fun _ => ⟨rfl, rfl⟩, fun _ => rfl, rfl⟩
theorem not_in_all {S S' : List Nat} {x : Nat} (hs : S'.all (fun t => S.contains t) = true) (hn : x ∉ S) : x ∉ S' := fun q => hn (List.contains_iff_mem.mp (List.all_eq_true.mp hs _ q))
theorem Fr.tr {τ : Nat → Nat} {S S' : List Nat} {G G1 G2 : Gh} (h : Fr τ S G G1) (h' : Fr τ S' G1 G2) (hs : S'.all (fun t => S.contains t) = true) : Fr τ S G G2 := fun b hb => by
  obtain ⟨x1, x2, x3⟩ := h b hb
  obtain ⟨y1, y2, y3⟩ := h' b hb
  exact ⟨fun hn => ⟨(y1 (not_in_all hs hn)).1.trans (x1 hn).1, (y1 (not_in_all hs hn)).2.trans (x1 hn).2⟩, fun hn => (y2 (not_in_all hs hn)).trans (x2 hn), y3.trans x3⟩
theorem Fr.wI {τ : Nat → Nat} {S : List Nat} {G G1 G2 : Gh} {a k t : Nat} {x : Int32} (h : Fr τ S G G1) (e : G2 = wI G1 a k x) (ha : τ a = t) (hs : S.contains t = true) : Fr τ S G G2 := fun b hb => by
  obtain ⟨x1, x2, x3⟩ := h b hb
  rw [e]
  refine ⟨fun hn => ?_, x2, x3⟩
  have hba : b ≠ a := fun q => hn (by rw [q, ha]; exact List.contains_iff_mem.mp hs)
  exact ⟨(wI_o hba).trans (x1 hn).1, (x1 hn).2⟩
theorem Fr.wL {τ : Nat → Nat} {S : List Nat} {G G1 G2 : Gh} {a k t : Nat} {x : Int64} (h : Fr τ S G G1) (e : G2 = wL G1 a k x) (ha : τ a = t) (hs : S.contains t = true) : Fr τ S G G2 := fun b hb => by
  obtain ⟨x1, x2, x3⟩ := h b hb
  rw [e]
  refine ⟨fun hn => ?_, x2, x3⟩
  have hba : b ≠ a := fun q => hn (by rw [q, ha]; exact List.contains_iff_mem.mp hs)
  exact ⟨(x1 hn).1, (wL_o hba).trans (x1 hn).2⟩
theorem Fr.wR {τ : Nat → Nat} {S : List Nat} {G G1 G2 : Gh} {a k t : Nat} {x : Option Nat} (h : Fr τ S G G1) (e : G2 = wR G1 a k x) (ha : τ a = t) (hs : S.contains (t + 1000) = true) : Fr τ S G G2 := fun b hb => by
  obtain ⟨x1, x2, x3⟩ := h b hb
  rw [e]
  refine ⟨x1, fun hn => ?_, x3⟩
  have hba : b ≠ a := fun q => hn (by rw [q, ha]; exact List.contains_iff_mem.mp hs)
  exact (wR_o hba).trans (x2 hn)
theorem not_in_c {S : List Nat} {x : Nat} (hs : S.contains x = false) : x ∉ S := fun q => by rw [List.contains_iff_mem.mpr q] at hs; cases hs
/-- a cell of a tag outside S -/
theorem Fr.i {τ : Nat → Nat} {S : List Nat} {G G' : Gh} (h : Fr τ S G G') {b t : Nat} (hb : τ b = t) (ht : t ≠ 0) (hs : S.contains t = false) (k : Nat) : G'.1 b k = G.1 b k := by
  rw [((h b (by rw [hb]; exact ht)).1 (by rw [hb]; exact not_in_c hs)).1]
theorem Fr.l {τ : Nat → Nat} {S : List Nat} {G G' : Gh} (h : Fr τ S G G') {b t : Nat} (hb : τ b = t) (ht : t ≠ 0) (hs : S.contains t = false) (k : Nat) : G'.2.1 b k = G.2.1 b k := by
  rw [((h b (by rw [hb]; exact ht)).1 (by rw [hb]; exact not_in_c hs)).2]
theorem Fr.r {τ : Nat → Nat} {S : List Nat} {G G' : Gh} (h : Fr τ S G G') {b t : Nat} (hb : τ b = t) (ht : t ≠ 0) (hs : S.contains (t + 1000) = false) (k : Nat) : G'.2.2.1 b k = G.2.2.1 b k := by
  rw [(h b (by rw [hb]; exact ht)).2.1 (by rw [hb]; exact not_in_c hs)]
theorem Fr.n {τ : Nat → Nat} {S : List Nat} {G G' : Gh} (h : Fr τ S G G') {b t : Nat} (hb : τ b = t) (ht : t ≠ 0) : G'.2.2.2 b = G.2.2.2 b := (h b (by rw [hb]; exact ht)).2.2
theorem tag_ne {τ : Nat → Nat} {a b t u : Nat} (ha : τ a = t) (hb : τ b = u) (h : t ≠ u) : b ≠ a := fun q => h (by rw [← ha, ← hb, q])
/-- a class's fields, as the tables have them -/
def CF (t : Nat) (C : String) (T : u_T) (N ci : Nat) (ts : List Nat) (ty : Nat → FieldType) : Prop := shp t = .inl (ci, ts) ∧ t ≠ 0 ∧ vwCl[ci]? = some (C, T, N) ∧ (∀ w ∈ u_ws C T N, w ∈ GW) ∧ ts.length = N ∧ (∀ k, k < N → parseFieldDescriptor (T k).2.2.1 = some (ty k)) ∧ (∀ a, a < N → ∀ b, b < N → a ≠ b → (T a).2.1 ≠ (T b).2.1)
theorem cf_1 : CF 1 RX9 TX9 14 9 [2, 2, 2, 2, 2, 2, 2, 2, 2, 0, 2, 2, 0, 0] tyX9 := ⟨rfl, by decide, rfl, lay_X9, rfl, tyX9_ok, nmX9⟩
theorem cf_2 : CF 2 RX4 TX4 12 4 [0, 0, 2, 0, 0, 0, 0, 0, 2, 0, 0, 0] tyX4 := ⟨rfl, by decide, rfl, lay_X4, rfl, tyX4_ok, nmX4⟩
theorem cf_3 : CF 3 RX8 TX8 5 8 [2, 2, 0, 2, 2] tyX8 := ⟨rfl, by decide, rfl, lay_X8, rfl, tyX8_ok, nmX8⟩
theorem cf_4 : CF 4 RX3 TX3 10 3 [2, 2, 2, 2, 0, 0, 0, 0, 0, 1] tyX3 := ⟨rfl, by decide, rfl, lay_X3, rfl, tyX3_ok, nmX3⟩
theorem cf_5 : CF 5 RX7 TX7 1 7 [2] tyX7 := ⟨rfl, by decide, rfl, lay_X7, rfl, tyX7_ok, nmX7⟩
theorem cf_6 : CF 6 RX0 TX0 1 0 [1] tyX0 := ⟨rfl, by decide, rfl, lay_X0, rfl, tyX0_ok, nmX0⟩
theorem cf_7 : CF 7 RX2 TX2 21 2 [0, 0, 0, 0, 0, 0, 0, 0, 0, 0, 0, 0, 0, 0, 2, 2, 2, 2, 2, 2, 2] tyX2 := ⟨rfl, by decide, rfl, lay_X2, rfl, tyX2_ok, nmX2⟩
theorem cf_8 : CF 8 RX5 TX5 7 5 [2, 2, 2, 2, 2, 2, 2] tyX5 := ⟨rfl, by decide, rfl, lay_X5, rfl, tyX5_ok, nmX5⟩
theorem cf_9 : CF 9 RX6 TX6 2 6 [0, 2] tyX6 := ⟨rfl, by decide, rfl, lay_X6, rfl, tyX6_ok, nmX6⟩
theorem cf_10 : CF 10 RX1 TX1 2 1 [2, 2] tyX1 := ⟨rfl, by decide, rfl, lay_X1, rfl, tyX1_ok, nmX1⟩
theorem cf_11 : CF 11 RX10 TX10 43 10 [0, 2, 2, 2, 2, 2, 0, 0, 0, 0, 0, 1, 0, 0, 0, 0, 2, 2, 2, 2, 2, 2, 2, 2, 2, 2, 2, 2, 2, 2, 2, 2, 2, 2, 2, 2, 2, 2, 2, 2, 2, 2, 1] tyX10 := ⟨rfl, by decide, rfl, lay_X10, rfl, tyX10_ok, nmX10⟩
/-- contracts over the typed memory -/
def PT (D : va_G) (cy : Nat → ClassId) (base : Nat) (τ : Nat → Nat) (G : Gh) : Heap → Prop := fun H => base ≤ H.size ∧ TY D cy base τ G H
def QT (D : va_G) (cy : Nat → ClassId) (base : Nat) (τ : Nat → Nat) (G : Gh) (S : List Nat) (post : Option Value → Gh → Prop) : Heap → Option Value → Heap → Prop := fun H v H1 => (H.size ≤ H1.size ∧ ∀ q : Nat, q < H.size → ¬ RA base q → H1[q]? = H[q]?) ∧ ∃ G' : Gh, Fr τ S G G' ∧ post v G' ∧ TY D cy base τ G' H1
section TYPED
variable {p : Program} {l : Launch} {e : Env} {R : Room} {s : State} {m : MethodId} {args : Array Value} {below : List Frame} {meth : Method} {c : Code} {H : Heap} {locs : List Loc} {cells slots : Nat} {Qf : State → Prop}
variable {cc : ByteArray} {pc : Nat} {ls : Array Slot} {rest st0 : List Value} {D : va_G} {cy : Nat → ClassId} {base : Nat} {τ : Nat → Nat} {G : Gh} {H0 : Heap} {own : String} {index a k t : Nat}
variable {C : String} {T : u_T} {N ci : Nat} {ts : List Nat} {ty : Nat → FieldType}
theorem t_get {ref : String} {tv : Nat} (cf : CF t C T N ci ts ty) (hx : p.tables.exec = Jvm.exec) (hb : c.code = cc) (hts : ∀ w ∈ GW, w.before args s = true) (hown : s.vm.findClass own = some m.cls) (hK : KK D cy s) (hT : TY D cy base τ G H) (ha : τ a = t) (hk : ts[k]? = some tv) (hlink : Cond.fieldLink own index ref (T k).2.1 (T k).2.2.1 ∈ GW) (hsame : ∀ x, s.fieldFound? (T k).1 (T k).2.1 (T k).2.2.1 = some x → s.fieldFound? ref (T k).2.1 (T k).2.2.1 = some x) (hdg : decode cc pc = .ok (.getfield index, 3))
    (kk : W p l e R s m args below meth c H locs cells slots Qf (F0 m (pc + 3) ls (vOf G a k tv :: rest))) : W p l e R s m args below meth c H locs cells slots Qf (F0 m pc ls (.ref a :: rest)) := by
  obtain ⟨c1, c2, c3, c4, c5, -, -⟩ := cf
  obtain ⟨ws, hP, hD, hO, hR⟩ := hT
  obtain ⟨i, hi⟩ := hO a (by rw [ha]; exact c2)
  rw [ENT_o ha c1] at hi
  have hkN : k < N := by rw [← c5]; exact (List.getElem?_eq_some_iff.mp hk).1
  exact va_get hx hb hts c4 hown hK.1 hP i hi c3 k hkN (hts _ hlink) hsame (v := vOf G a k tv) (by rw [obV_get, hk]; show some (vOf G a (0 + k) tv) = _; rw [Nat.zero_add]) hdg kk
theorem t_geti {ref : String} (cf : CF t C T N ci ts ty) (hx : p.tables.exec = Jvm.exec) (hb : c.code = cc) (hts : ∀ w ∈ GW, w.before args s = true) (hown : s.vm.findClass own = some m.cls) (hK : KK D cy s) (hT : TY D cy base τ G H) (ha : τ a = t) (hk : ts[k]? = some 0) (hlink : Cond.fieldLink own index ref (T k).2.1 (T k).2.2.1 ∈ GW) (hsame : ∀ x, s.fieldFound? (T k).1 (T k).2.1 (T k).2.2.1 = some x → s.fieldFound? ref (T k).2.1 (T k).2.2.1 = some x) (hdg : decode cc pc = .ok (.getfield index, 3))
    (kk : ∀ z : Int32, z = G.1 a k → Rgi t k z → W p l e R s m args below meth c H locs cells slots Qf (F0 m (pc + 3) ls (.int z :: rest))) : W p l e R s m args below meth c H locs cells slots Qf (F0 m pc ls (.ref a :: rest)) :=
  t_get cf hx hb hts hown hK hT ha hk hlink hsame hdg (kk _ rfl (hT.rgi ha cf.2.1 k))
theorem t_getl {ref : String} (cf : CF t C T N ci ts ty) (hx : p.tables.exec = Jvm.exec) (hb : c.code = cc) (hts : ∀ w ∈ GW, w.before args s = true) (hown : s.vm.findClass own = some m.cls) (hK : KK D cy s) (hT : TY D cy base τ G H) (ha : τ a = t) (hk : ts[k]? = some 1) (hlink : Cond.fieldLink own index ref (T k).2.1 (T k).2.2.1 ∈ GW) (hsame : ∀ x, s.fieldFound? (T k).1 (T k).2.1 (T k).2.2.1 = some x → s.fieldFound? ref (T k).2.1 (T k).2.2.1 = some x) (hdg : decode cc pc = .ok (.getfield index, 3))
    (kk : ∀ z : Int64, z = G.2.1 a k → W p l e R s m args below meth c H locs cells slots Qf (F0 m (pc + 3) ls (.long z :: rest))) : W p l e R s m args below meth c H locs cells slots Qf (F0 m pc ls (.ref a :: rest)) :=
  t_get cf hx hb hts hown hK hT ha hk hlink hsame hdg (kk _ rfl)
theorem t_getr {ref : String} {P : Nat → Prop} (cf : CF t C T N ci ts ty) (hx : p.tables.exec = Jvm.exec) (hb : c.code = cc) (hts : ∀ w ∈ GW, w.before args s = true) (hown : s.vm.findClass own = some m.cls) (hK : KK D cy s) (hT : TY D cy base τ G H) (ha : τ a = t) (hk : ts[k]? = some 2) (hr : ∀ o, Rgr τ G.2.2.2 t k o → ∃ q, o = some q ∧ P q) (hlink : Cond.fieldLink own index ref (T k).2.1 (T k).2.2.1 ∈ GW) (hsame : ∀ x, s.fieldFound? (T k).1 (T k).2.1 (T k).2.2.1 = some x → s.fieldFound? ref (T k).2.1 (T k).2.2.1 = some x) (hdg : decode cc pc = .ok (.getfield index, 3))
    (kk : ∀ q : Nat, G.2.2.1 a k = some q → P q → W p l e R s m args below meth c H locs cells slots Qf (F0 m (pc + 3) ls (.ref q :: rest))) : W p l e R s m args below meth c H locs cells slots Qf (F0 m pc ls (.ref a :: rest)) := by
  obtain ⟨q, hq, h⟩ := hr _ (hT.rgr ha cf.2.1 k)
  refine t_get cf hx hb hts hown hK hT ha hk hlink hsame hdg ?_
  show W p l e R s m args below meth c H locs cells slots Qf (F0 m (pc + 3) ls (va_rf (G.2.2.1 a k) :: rest))
  rw [hq]
  exact kk q hq h
theorem t_getn {ref : String} {P : Nat → Prop} (cf : CF t C T N ci ts ty) (hx : p.tables.exec = Jvm.exec) (hb : c.code = cc) (hts : ∀ w ∈ GW, w.before args s = true) (hown : s.vm.findClass own = some m.cls) (hK : KK D cy s) (hT : TY D cy base τ G H) (ha : τ a = t) (hk : ts[k]? = some 2) (hr : ∀ o, Rgr τ G.2.2.2 t k o → o = none ∨ ∃ q, o = some q ∧ P q) (hlink : Cond.fieldLink own index ref (T k).2.1 (T k).2.2.1 ∈ GW) (hsame : ∀ x, s.fieldFound? (T k).1 (T k).2.1 (T k).2.2.1 = some x → s.fieldFound? ref (T k).2.1 (T k).2.2.1 = some x) (hdg : decode cc pc = .ok (.getfield index, 3))
    (k0 : G.2.2.1 a k = none → W p l e R s m args below meth c H locs cells slots Qf (F0 m (pc + 3) ls (.null :: rest)))
    (kk : ∀ q : Nat, G.2.2.1 a k = some q → P q → W p l e R s m args below meth c H locs cells slots Qf (F0 m (pc + 3) ls (.ref q :: rest))) : W p l e R s m args below meth c H locs cells slots Qf (F0 m pc ls (.ref a :: rest)) := by
  refine t_get cf hx hb hts hown hK hT ha hk hlink hsame hdg ?_
  show W p l e R s m args below meth c H locs cells slots Qf (F0 m (pc + 3) ls (va_rf (G.2.2.1 a k) :: rest))
  rcases hr _ (hT.rgr ha cf.2.1 k) with hq | ⟨q, hq, h⟩
  · rw [hq]; exact k0 hq
  · rw [hq]; exact kk q hq h
theorem t_put {ref : String} {tv : Nat} {v : Value} {G1 : Gh} (cf : CF t C T N ci ts ty) (hx : p.tables.exec = Jvm.exec) (hb : c.code = cc) (hts : ∀ w ∈ GW, w.before args s = true) (hown : s.vm.findClass own = some m.cls) (hK : KK D cy s) (hT : TY D cy base τ G H) (hS : va_S (RA base) H0 H locs) (ha : τ a = t) (hk : ts[k]? = some tv) (hv : vOf G1 a k tv = v) (ho : ∀ j t, j ≠ k → vOf G1 a j t = vOf G a j t) (hoth : ∀ b, b ≠ a → ENT cy τ G1 b = ENT cy τ G b) (hR1 : RG τ G → RG τ G1) (hlink : Cond.fieldLink own index ref (T k).2.1 (T k).2.2.1 ∈ GW) (hsame : ∀ x, s.fieldFound? (T k).1 (T k).2.1 (T k).2.2.1 = some x → s.fieldFound? ref (T k).2.1 (T k).2.2.1 = some x) (hfin : (T k).2.2.2 = false) (hn : narrow (ty k) v = v) (hfit : fits (ty k) v = true) (hdg : decode cc pc = .ok (.putfield index, 3))
    (kk : ∀ (H1 : Heap) (locs1 : List Loc), TY D cy base τ G1 H1 → va_S (RA base) H0 H1 locs1 → W p l e R s m args below meth c H1 locs1 cells slots Qf (F0 m (pc + 3) ls rest)) : W p l e R s m args below meth c H locs cells slots Qf (F0 m pc ls (v :: .ref a :: rest)) := by
  obtain ⟨c1, c2, c3, c4, c5, c6, c7⟩ := cf
  obtain ⟨ws, hP, hD, hO, hR⟩ := hT
  obtain ⟨i, hi⟩ := hO a (by rw [ha]; exact c2)
  have hi0 := hi
  rw [ENT_o ha c1] at hi
  have hkN : k < N := by rw [← c5]; exact (List.getElem?_eq_some_iff.mp hk).1
  refine va_put hx hb hts c4 ty c6 c7 hown hK.1 hP hD hS i hi c3 k hkN (hts _ hlink) hsame hfin (ty := ty k) (c6 k hkN) hn hfit (by rw [obV_len, c5]; exact hkN) hdg (fun H1 locs1 hP1 hD1 hS1 => ?_)
  refine kk H1 locs1 (ty_set hi0 hP1 hD1 hO ?_ hoth (hR1 hR)) hS1
  rw [ENT_o ha c1, obV_set hk hv ho]
theorem t_puti {ref : String} {x : Int32} (cf : CF t C T N ci ts ty) (hx : p.tables.exec = Jvm.exec) (hb : c.code = cc) (hts : ∀ w ∈ GW, w.before args s = true) (hown : s.vm.findClass own = some m.cls) (hK : KK D cy s) (hT : TY D cy base τ G H) (hS : va_S (RA base) H0 H locs) (ha : τ a = t) (hk : ts[k]? = some 0) (hrg : Rgi t k x) (hlink : Cond.fieldLink own index ref (T k).2.1 (T k).2.2.1 ∈ GW) (hsame : ∀ x, s.fieldFound? (T k).1 (T k).2.1 (T k).2.2.1 = some x → s.fieldFound? ref (T k).2.1 (T k).2.2.1 = some x) (hfin : (T k).2.2.2 = false) (hn : narrow (ty k) (.int x) = .int x) (hfit : fits (ty k) (.int x) = true) (hdg : decode cc pc = .ok (.putfield index, 3))
    (kk : ∀ (H1 : Heap) (locs1 : List Loc) (G1 : Gh), G1 = wI G a k x → TY D cy base τ G1 H1 → va_S (RA base) H0 H1 locs1 → W p l e R s m args below meth c H1 locs1 cells slots Qf (F0 m (pc + 3) ls rest)) : W p l e R s m args below meth c H locs cells slots Qf (F0 m pc ls (.int x :: .ref a :: rest)) :=
  t_put (G1 := wI G a k x) cf hx hb hts hown hK hT hS ha hk (by show Value.int _ = _; rw [wI_at]) (fun j t hj => by unfold vOf; rw [wI_ne (Or.inr hj)]; rfl) (fun b hb => ENT_congr (wI_o hb) rfl rfl rfl) (fun h => h.wI ha hrg) hlink hsame hfin hn hfit hdg (fun H1 l1 h1 h2 => kk H1 l1 _ rfl h1 h2)
theorem t_putl {ref : String} {x : Int64} (cf : CF t C T N ci ts ty) (hx : p.tables.exec = Jvm.exec) (hb : c.code = cc) (hts : ∀ w ∈ GW, w.before args s = true) (hown : s.vm.findClass own = some m.cls) (hK : KK D cy s) (hT : TY D cy base τ G H) (hS : va_S (RA base) H0 H locs) (ha : τ a = t) (hk : ts[k]? = some 1) (hlink : Cond.fieldLink own index ref (T k).2.1 (T k).2.2.1 ∈ GW) (hsame : ∀ x, s.fieldFound? (T k).1 (T k).2.1 (T k).2.2.1 = some x → s.fieldFound? ref (T k).2.1 (T k).2.2.1 = some x) (hfin : (T k).2.2.2 = false) (hn : narrow (ty k) (.long x) = .long x) (hfit : fits (ty k) (.long x) = true) (hdg : decode cc pc = .ok (.putfield index, 3))
    (kk : ∀ (H1 : Heap) (locs1 : List Loc) (G1 : Gh), G1 = wL G a k x → TY D cy base τ G1 H1 → va_S (RA base) H0 H1 locs1 → W p l e R s m args below meth c H1 locs1 cells slots Qf (F0 m (pc + 3) ls rest)) : W p l e R s m args below meth c H locs cells slots Qf (F0 m pc ls (.long x :: .ref a :: rest)) :=
  t_put (G1 := wL G a k x) cf hx hb hts hown hK hT hS ha hk (by show Value.long _ = _; rw [wL_at]) (fun j t hj => by unfold vOf; rw [wL_ne (Or.inr hj)]; rfl) (fun b hb => ENT_congr rfl (wL_o hb) rfl rfl) (fun h => h.wL) hlink hsame hfin hn hfit hdg (fun H1 l1 h1 h2 => kk H1 l1 _ rfl h1 h2)
theorem t_putr {ref : String} {q : Nat} (cf : CF t C T N ci ts ty) (hx : p.tables.exec = Jvm.exec) (hb : c.code = cc) (hts : ∀ w ∈ GW, w.before args s = true) (hown : s.vm.findClass own = some m.cls) (hK : KK D cy s) (hT : TY D cy base τ G H) (hS : va_S (RA base) H0 H locs) (ha : τ a = t) (hk : ts[k]? = some 2) (hrg : Rgr τ G.2.2.2 t k (some q)) (hlink : Cond.fieldLink own index ref (T k).2.1 (T k).2.2.1 ∈ GW) (hsame : ∀ x, s.fieldFound? (T k).1 (T k).2.1 (T k).2.2.1 = some x → s.fieldFound? ref (T k).2.1 (T k).2.2.1 = some x) (hfin : (T k).2.2.2 = false) (hn : narrow (ty k) (.ref q) = .ref q) (hfit : fits (ty k) (.ref q) = true) (hdg : decode cc pc = .ok (.putfield index, 3))
    (kk : ∀ (H1 : Heap) (locs1 : List Loc) (G1 : Gh), G1 = wR G a k (some q) → TY D cy base τ G1 H1 → va_S (RA base) H0 H1 locs1 → W p l e R s m args below meth c H1 locs1 cells slots Qf (F0 m (pc + 3) ls rest)) : W p l e R s m args below meth c H locs cells slots Qf (F0 m pc ls (.ref q :: .ref a :: rest)) :=
  t_put (G1 := wR G a k (some q)) cf hx hb hts hown hK hT hS ha hk (by show va_rf _ = _; rw [wR_at]; rfl) (fun j t hj => by unfold vOf; rw [wR_ne (Or.inr hj)]; rfl) (fun b hb => ENT_congr rfl rfl (wR_o hb) rfl) (fun h => h.wR ha hrg) hlink hsame hfin hn hfit hdg (fun H1 l1 h1 h2 => kk H1 l1 _ rfl h1 h2)
theorem t_putn {ref : String} (cf : CF t C T N ci ts ty) (hx : p.tables.exec = Jvm.exec) (hb : c.code = cc) (hts : ∀ w ∈ GW, w.before args s = true) (hown : s.vm.findClass own = some m.cls) (hK : KK D cy s) (hT : TY D cy base τ G H) (hS : va_S (RA base) H0 H locs) (ha : τ a = t) (hk : ts[k]? = some 2) (hrg : Rgr τ G.2.2.2 t k none) (hlink : Cond.fieldLink own index ref (T k).2.1 (T k).2.2.1 ∈ GW) (hsame : ∀ x, s.fieldFound? (T k).1 (T k).2.1 (T k).2.2.1 = some x → s.fieldFound? ref (T k).2.1 (T k).2.2.1 = some x) (hfin : (T k).2.2.2 = false) (hn : narrow (ty k) .null = .null) (hfit : fits (ty k) .null = true) (hdg : decode cc pc = .ok (.putfield index, 3))
    (kk : ∀ (H1 : Heap) (locs1 : List Loc) (G1 : Gh), G1 = wR G a k none → TY D cy base τ G1 H1 → va_S (RA base) H0 H1 locs1 → W p l e R s m args below meth c H1 locs1 cells slots Qf (F0 m (pc + 3) ls rest)) : W p l e R s m args below meth c H locs cells slots Qf (F0 m pc ls (.null :: .ref a :: rest)) :=
  t_put (G1 := wR G a k none) cf hx hb hts hown hK hT hS ha hk (by show va_rf _ = _; rw [wR_at]; rfl) (fun j t hj => by unfold vOf; rw [wR_ne (Or.inr hj)]; rfl) (fun b hb => ENT_congr rfl rfl (wR_o hb) rfl) (fun h => h.wR ha hrg) hlink hsame hfin hn hfit hdg (fun H1 l1 h1 h2 => kk H1 l1 _ rfl h1 h2)
theorem ty_arr {et : Nat} (af : shp t = .inr et) (ht : t ≠ 0) (ha : τ a = t) {ws : va_W} (hO : ∀ b, τ b ≠ 0 → ∃ j : Nat, ws[j]? = some (b, ENT cy τ G b)) : ∃ i : Nat, ws[i]? = some (a, .inl (cy et, arE G a et)) := by
  obtain ⟨i, hi⟩ := hO a (by rw [ha]; exact ht)
  rw [ENT_a ha af] at hi
  exact ⟨i, hi⟩
theorem t_iald {n : Nat} {i : Int32} (af : shp t = .inr 1) (ht : t ≠ 0) (hx : p.tables.exec = Jvm.exec) (hb : c.code = cc) (hK : KK D cy s) (hT : TY D cy base τ G H) (ha : τ a = t) (hn : G.2.2.2 a = n) (hi : 0 ≤ i.toInt ∧ i.toInt < n) (hdg : decode cc pc = .ok (.iaload, 1))
    (kk : ∀ z : Int32, z = G.1 a i.toNatClampNeg → Rgi t i.toNatClampNeg z → W p l e R s m args below meth c H locs cells slots Qf (F0 m (pc + 1) ls (.int z :: rest))) : W p l e R s m args below meth c H locs cells slots Qf (F0 m pc ls (.int i :: .ref a :: rest)) := by
  have hrg := hT.rgi ha ht i.toNatClampNeg
  obtain ⟨ws, hP, hD, hO, hR⟩ := hT
  obtain ⟨j, hj⟩ := ty_arr (cy := cy) af ht ha hO
  exact va_iald hx hb hK.1 hP j 1 (n := G.2.2.2 a) (f := G.1 a) hj rfl (vp_in_iff.mpr (by rw [hn]; exact hi)) hdg (kk _ rfl hrg)
theorem t_bald {n : Nat} {i : Int32} (af : shp t = .inr 0) (ht : t ≠ 0) (hx : p.tables.exec = Jvm.exec) (hb : c.code = cc) (hK : KK D cy s) (hT : TY D cy base τ G H) (ha : τ a = t) (hn : G.2.2.2 a = n) (hi : 0 ≤ i.toInt ∧ i.toInt < n) (hdg : decode cc pc = .ok (.baload, 1))
    (kk : ∀ z : Int32, z = G.1 a i.toNatClampNeg → Rgi t i.toNatClampNeg z → W p l e R s m args below meth c H locs cells slots Qf (F0 m (pc + 1) ls (.int z :: rest))) : W p l e R s m args below meth c H locs cells slots Qf (F0 m pc ls (.int i :: .ref a :: rest)) := by
  have hrg := hT.rgi ha ht i.toNatClampNeg
  obtain ⟨ws, hP, hD, hO, hR⟩ := hT
  obtain ⟨j, hj⟩ := ty_arr (cy := cy) af ht ha hO
  exact va_bald hx hb hK.1 hP j 0 (n := G.2.2.2 a) (f := G.1 a) hj rfl (vp_in_iff.mpr (by rw [hn]; exact hi)) hdg (kk _ rfl hrg)
theorem t_zald {n : Nat} {i : Int32} (af : shp t = .inr 3) (ht : t ≠ 0) (hx : p.tables.exec = Jvm.exec) (hb : c.code = cc) (hK : KK D cy s) (hT : TY D cy base τ G H) (ha : τ a = t) (hn : G.2.2.2 a = n) (hi : 0 ≤ i.toInt ∧ i.toInt < n) (hdg : decode cc pc = .ok (.baload, 1))
    (kk : ∀ z : Int32, z = G.1 a i.toNatClampNeg → Rgi t i.toNatClampNeg z → W p l e R s m args below meth c H locs cells slots Qf (F0 m (pc + 1) ls (.int z :: rest))) : W p l e R s m args below meth c H locs cells slots Qf (F0 m pc ls (.int i :: .ref a :: rest)) := by
  have hrg := hT.rgi ha ht i.toNatClampNeg
  obtain ⟨ws, hP, hD, hO, hR⟩ := hT
  obtain ⟨j, hj⟩ := ty_arr (cy := cy) af ht ha hO
  exact va_zald hx hb hK.1 hP j 3 (n := G.2.2.2 a) (f := G.1 a) hj rfl (vp_in_iff.mpr (by rw [hn]; exact hi)) hdg (kk _ rfl hrg)
theorem t_lald {n : Nat} {i : Int32} (af : shp t = .inr 2) (ht : t ≠ 0) (hx : p.tables.exec = Jvm.exec) (hb : c.code = cc) (hK : KK D cy s) (hT : TY D cy base τ G H) (ha : τ a = t) (hn : G.2.2.2 a = n) (hi : 0 ≤ i.toInt ∧ i.toInt < n) (hdg : decode cc pc = .ok (.laload, 1))
    (kk : ∀ z : Int64, z = G.2.1 a i.toNatClampNeg → W p l e R s m args below meth c H locs cells slots Qf (F0 m (pc + 1) ls (.long z :: rest))) : W p l e R s m args below meth c H locs cells slots Qf (F0 m pc ls (.int i :: .ref a :: rest)) := by
  obtain ⟨ws, hP, hD, hO, hR⟩ := hT
  obtain ⟨j, hj⟩ := ty_arr (cy := cy) af ht ha hO
  exact va_lald hx hb hK.1 hP j 2 (n := G.2.2.2 a) (f := G.2.1 a) hj rfl (vp_in_iff.mpr (by rw [hn]; exact hi)) hdg (kk _ rfl)
theorem t_aald4 {n : Nat} {i : Int32} {P : Nat → Prop} (af : shp t = .inr 4) (ht : t ≠ 0) (hx : p.tables.exec = Jvm.exec) (hb : c.code = cc) (hK : KK D cy s) (hT : TY D cy base τ G H) (ha : τ a = t) (hn : G.2.2.2 a = n) (hi : 0 ≤ i.toInt ∧ i.toInt < n) (hr : ∀ k o, Rgr τ G.2.2.2 t k o → o = none ∨ ∃ q, o = some q ∧ P q) (hdg : decode cc pc = .ok (.aaload, 1))
    (k0 : G.2.2.1 a i.toNatClampNeg = none → W p l e R s m args below meth c H locs cells slots Qf (F0 m (pc + 1) ls (.null :: rest)))
    (kk : ∀ q : Nat, G.2.2.1 a i.toNatClampNeg = some q → P q → W p l e R s m args below meth c H locs cells slots Qf (F0 m (pc + 1) ls (.ref q :: rest))) : W p l e R s m args below meth c H locs cells slots Qf (F0 m pc ls (.int i :: .ref a :: rest)) := by
  have hrg := hT.rgr ha ht i.toNatClampNeg
  obtain ⟨ws, hP, hD, hO, hR⟩ := hT
  obtain ⟨j, hj⟩ := ty_arr (cy := cy) af ht ha hO
  refine va_aldq (C := RX6) hx hb hK.1 hP j 4 (n := G.2.2.2 a) (f := G.2.2.1 a) hj rfl (vp_in_iff.mpr (by rw [hn]; exact hi)) hdg ?_
  rcases hr _ _ hrg with hq | ⟨q, hq, h⟩
  · rw [hq]; exact k0 hq
  · rw [hq]; exact kk q hq h
theorem t_aald5 {n : Nat} {i : Int32} {P : Nat → Prop} (af : shp t = .inr 5) (ht : t ≠ 0) (hx : p.tables.exec = Jvm.exec) (hb : c.code = cc) (hK : KK D cy s) (hT : TY D cy base τ G H) (ha : τ a = t) (hn : G.2.2.2 a = n) (hi : 0 ≤ i.toInt ∧ i.toInt < n) (hr : ∀ k o, Rgr τ G.2.2.2 t k o → o = none ∨ ∃ q, o = some q ∧ P q) (hdg : decode cc pc = .ok (.aaload, 1))
    (k0 : G.2.2.1 a i.toNatClampNeg = none → W p l e R s m args below meth c H locs cells slots Qf (F0 m (pc + 1) ls (.null :: rest)))
    (kk : ∀ q : Nat, G.2.2.1 a i.toNatClampNeg = some q → P q → W p l e R s m args below meth c H locs cells slots Qf (F0 m (pc + 1) ls (.ref q :: rest))) : W p l e R s m args below meth c H locs cells slots Qf (F0 m pc ls (.int i :: .ref a :: rest)) := by
  have hrg := hT.rgr ha ht i.toNatClampNeg
  obtain ⟨ws, hP, hD, hO, hR⟩ := hT
  obtain ⟨j, hj⟩ := ty_arr (cy := cy) af ht ha hO
  refine va_aldq (C := RX1) hx hb hK.1 hP j 5 (n := G.2.2.2 a) (f := G.2.2.1 a) hj rfl (vp_in_iff.mpr (by rw [hn]; exact hi)) hdg ?_
  rcases hr _ _ hrg with hq | ⟨q, hq, h⟩
  · rw [hq]; exact k0 hq
  · rw [hq]; exact kk q hq h
theorem t_iast {n : Nat} {i x : Int32} (af : shp t = .inr 1) (ht : t ≠ 0) (hx : p.tables.exec = Jvm.exec) (hb : c.code = cc) (hK : KK D cy s) (hT : TY D cy base τ G H) (hS : va_S (RA base) H0 H locs) (ha : τ a = t) (hn : G.2.2.2 a = n) (hi : 0 ≤ i.toInt ∧ i.toInt < n) (hrg : Rgi t i.toNatClampNeg x) (hdg : decode cc pc = .ok (.iastore, 1))
    (kk : ∀ (H1 : Heap) (locs1 : List Loc) (G1 : Gh), G1 = wI G a i.toNatClampNeg x → TY D cy base τ G1 H1 → va_S (RA base) H0 H1 locs1 → W p l e R s m args below meth c H1 locs1 cells slots Qf (F0 m (pc + 1) ls rest)) : W p l e R s m args below meth c H locs cells slots Qf (F0 m pc ls (.int x :: .int i :: .ref a :: rest)) := by
  obtain ⟨ws, hP, hD, hO, hR⟩ := hT
  obtain ⟨j, hj⟩ := ty_arr (cy := cy) af ht ha hO
  refine va_iast hx hb hK.1 hP hD hS j 1 (n := G.2.2.2 a) (f := G.1 a) hj rfl (vp_in_iff.mpr (by rw [hn]; exact hi)) hdg (fun H1 l1 hP1 hD1 hS1 => kk H1 l1 _ rfl (ty_set (by rw [ENT_a ha af]; exact hj) hP1 hD1 hO ?_ (fun b hb => ENT_congr (wI_o hb) rfl rfl rfl) (hR.wI ha hrg)) hS1)
  rw [ENT_a ha af]; unfold arE; rw [wI_up]; rfl
theorem t_bast {n : Nat} {i x : Int32} (af : shp t = .inr 0) (ht : t ≠ 0) (hx : p.tables.exec = Jvm.exec) (hb : c.code = cc) (hK : KK D cy s) (hT : TY D cy base τ G H) (hS : va_S (RA base) H0 H locs) (ha : τ a = t) (hn : G.2.2.2 a = n) (hi : 0 ≤ i.toInt ∧ i.toInt < n) (hrg : Rgi t i.toNatClampNeg (vp_nar .byte x)) (hdg : decode cc pc = .ok (.bastore, 1))
    (kk : ∀ (H1 : Heap) (locs1 : List Loc) (G1 : Gh), G1 = wI G a i.toNatClampNeg (vp_nar .byte x) → TY D cy base τ G1 H1 → va_S (RA base) H0 H1 locs1 → W p l e R s m args below meth c H1 locs1 cells slots Qf (F0 m (pc + 1) ls rest)) : W p l e R s m args below meth c H locs cells slots Qf (F0 m pc ls (.int x :: .int i :: .ref a :: rest)) := by
  obtain ⟨ws, hP, hD, hO, hR⟩ := hT
  obtain ⟨j, hj⟩ := ty_arr (cy := cy) af ht ha hO
  refine va_bast hx hb hK.1 hP hD hS j 0 (n := G.2.2.2 a) (f := G.1 a) hj rfl (vp_in_iff.mpr (by rw [hn]; exact hi)) hdg (fun H1 l1 hP1 hD1 hS1 => kk H1 l1 _ rfl (ty_set (by rw [ENT_a ha af]; exact hj) hP1 hD1 hO ?_ (fun b hb => ENT_congr (wI_o hb) rfl rfl rfl) (hR.wI ha hrg)) hS1)
  rw [ENT_a ha af]; unfold arE; rw [wI_up]; rfl
theorem t_zast {n : Nat} {i x : Int32} (af : shp t = .inr 3) (ht : t ≠ 0) (hx : p.tables.exec = Jvm.exec) (hb : c.code = cc) (hK : KK D cy s) (hT : TY D cy base τ G H) (hS : va_S (RA base) H0 H locs) (ha : τ a = t) (hn : G.2.2.2 a = n) (hi : 0 ≤ i.toInt ∧ i.toInt < n) (hrg : Rgi t i.toNatClampNeg (vp_nar .boolean x)) (hdg : decode cc pc = .ok (.bastore, 1))
    (kk : ∀ (H1 : Heap) (locs1 : List Loc) (G1 : Gh), G1 = wI G a i.toNatClampNeg (vp_nar .boolean x) → TY D cy base τ G1 H1 → va_S (RA base) H0 H1 locs1 → W p l e R s m args below meth c H1 locs1 cells slots Qf (F0 m (pc + 1) ls rest)) : W p l e R s m args below meth c H locs cells slots Qf (F0 m pc ls (.int x :: .int i :: .ref a :: rest)) := by
  obtain ⟨ws, hP, hD, hO, hR⟩ := hT
  obtain ⟨j, hj⟩ := ty_arr (cy := cy) af ht ha hO
  refine va_zast hx hb hK.1 hP hD hS j 3 (n := G.2.2.2 a) (f := G.1 a) hj rfl (vp_in_iff.mpr (by rw [hn]; exact hi)) hdg (fun H1 l1 hP1 hD1 hS1 => kk H1 l1 _ rfl (ty_set (by rw [ENT_a ha af]; exact hj) hP1 hD1 hO ?_ (fun b hb => ENT_congr (wI_o hb) rfl rfl rfl) (hR.wI ha hrg)) hS1)
  rw [ENT_a ha af]; unfold arE; rw [wI_up]; rfl
theorem t_last {n : Nat} {i : Int32} {x : Int64} (af : shp t = .inr 2) (ht : t ≠ 0) (hx : p.tables.exec = Jvm.exec) (hb : c.code = cc) (hK : KK D cy s) (hT : TY D cy base τ G H) (hS : va_S (RA base) H0 H locs) (ha : τ a = t) (hn : G.2.2.2 a = n) (hi : 0 ≤ i.toInt ∧ i.toInt < n) (hdg : decode cc pc = .ok (.lastore, 1))
    (kk : ∀ (H1 : Heap) (locs1 : List Loc) (G1 : Gh), G1 = wL G a i.toNatClampNeg x → TY D cy base τ G1 H1 → va_S (RA base) H0 H1 locs1 → W p l e R s m args below meth c H1 locs1 cells slots Qf (F0 m (pc + 1) ls rest)) : W p l e R s m args below meth c H locs cells slots Qf (F0 m pc ls (.long x :: .int i :: .ref a :: rest)) := by
  obtain ⟨ws, hP, hD, hO, hR⟩ := hT
  obtain ⟨j, hj⟩ := ty_arr (cy := cy) af ht ha hO
  refine va_last hx hb hK.1 hP hD hS j 2 (n := G.2.2.2 a) (f := G.2.1 a) hj rfl (vp_in_iff.mpr (by rw [hn]; exact hi)) hdg (fun H1 l1 hP1 hD1 hS1 => kk H1 l1 _ rfl (ty_set (by rw [ENT_a ha af]; exact hj) hP1 hD1 hO ?_ (fun b hb => ENT_congr rfl (wL_o hb) rfl rfl) hR.wL) hS1)
  rw [ENT_a ha af]; unfold arE; rw [wL_up]; rfl
theorem t_alen {et : Nat} {fty : FieldType} {v : Int32} (af : shp t = .inr et) (ht : t ≠ 0) (hx : p.tables.exec = Jvm.exec) (hb : c.code = cc) (hK : KK D cy s) (hT : TY D cy base τ G H) (ha : τ a = t) (hty : (tyL cy)[et]? = some (cy et, fty)) (hv : Int32.ofNat (G.2.2.2 a) = v) (hdg : decode cc pc = .ok (.arraylength, 1))
    (kk : W p l e R s m args below meth c H locs cells slots Qf (F0 m (pc + 1) ls (.int v :: rest))) : W p l e R s m args below meth c H locs cells slots Qf (F0 m pc ls (.ref a :: rest)) := by
  obtain ⟨ws, hP, hD, hO, hR⟩ := hT
  obtain ⟨j, hj⟩ := ty_arr (cy := cy) af ht ha hO
  exact va_alen hx hb hK.1 hP j et hj hty (v := v) hv hdg kk
theorem t_recv (cf : CF t C T N ci ts ty) (hK : KK D cy s) (hT : TY D cy base τ G H) (ha : τ a = t) : ∃ cell : Cell, H[a]? = some cell ∧ cell.vm.isStatics = false ∧ s.vm.findClass C = some cell.cls := by
  obtain ⟨c1, c2, c3, c4, c5, -, -⟩ := cf
  obtain ⟨ws, hP, hD, hO, hR⟩ := hT
  obtain ⟨i, hi⟩ := hO a (by rw [ha]; exact c2)
  rw [ENT_o ha c1] at hi
  exact va_recv hK.1 hP c3 hi
theorem t_call {av : Array Value} {mc ms : Nat} {S : List Nat} {post : Option Value → Gh → Prop} (hr : va_Run p l e R s m args below meth c H locs cells slots mc ms (F0 m pc ls st0) rest (QQ (QT D cy base τ G S post) av) (RA base)) (hS : va_S (RA base) H0 H locs)
    (kk : ∀ (v : Option Value) (G1 : Gh) (H1 : Heap) (locs1 : List Loc), Fr τ S G G1 → post v G1 → TY D cy base τ G1 H1 → va_S (RA base) H0 H1 locs1 → W p l e R s m args below meth c H1 locs1 (cells + mc) (slots + ms) Qf (F0 m (pc + 3) ls (v.toList ++ rest))) : W p l e R s m args below meth c H locs cells slots Qf (F0 m pc ls st0) := by
  refine go_call hr (fun v H1 L hq hL => ?_)
  obtain ⟨⟨hz, hk⟩, G1, hF, hp, hT1⟩ := hq
  refine kk v G1 H1 (locs ++ L) hF hp hT1 ⟨Nat.le_trans hS.1 hz, fun q h1 h2 => ?_, fun q hq => ?_⟩
  · rw [hk q (Nat.lt_of_lt_of_le h1 hS.1) h2]
    exact hS.2.1 q h1 h2
  · rcases List.mem_append.mp hq with h | h
    · exact hS.2.2 q h
    · exact hL q h
theorem t_callv {av : Array Value} {mc ms : Nat} {S : List Nat} {post : Gh → Prop} (hr : va_Run p l e R s m args below meth c H locs cells slots mc ms (F0 m pc ls st0) rest (QQ (QT D cy base τ G S (fun v g => v = none ∧ post g)) av) (RA base)) (hS : va_S (RA base) H0 H locs)
    (kk : ∀ (G1 : Gh) (H1 : Heap) (locs1 : List Loc), Fr τ S G G1 → post G1 → TY D cy base τ G1 H1 → va_S (RA base) H0 H1 locs1 → W p l e R s m args below meth c H1 locs1 (cells + mc) (slots + ms) Qf (F0 m (pc + 3) ls rest)) : W p l e R s m args below meth c H locs cells slots Qf (F0 m pc ls st0) :=
  t_call hr hS (fun v G1 H1 l1 h1 h2 h3 h4 => by obtain ⟨rfl, h⟩ := h2; exact kk G1 H1 l1 h1 h h3 h4)
theorem t_calli {av : Array Value} {mc ms : Nat} {S : List Nat} {post : Int32 → Gh → Prop} (hr : va_Run p l e R s m args below meth c H locs cells slots mc ms (F0 m pc ls st0) rest (QQ (QT D cy base τ G S (fun v g => ∃ r : Int32, v = some (.int r) ∧ post r g)) av) (RA base)) (hS : va_S (RA base) H0 H locs)
    (kk : ∀ (r : Int32) (G1 : Gh) (H1 : Heap) (locs1 : List Loc), Fr τ S G G1 → post r G1 → TY D cy base τ G1 H1 → va_S (RA base) H0 H1 locs1 → W p l e R s m args below meth c H1 locs1 (cells + mc) (slots + ms) Qf (F0 m (pc + 3) ls (.int r :: rest))) : W p l e R s m args below meth c H locs cells slots Qf (F0 m pc ls st0) :=
  t_call hr hS (fun v G1 H1 l1 h1 h2 h3 h4 => by obtain ⟨r, rfl, h⟩ := h2; exact kk r G1 H1 l1 h1 h h3 h4)
theorem t_calll {av : Array Value} {mc ms : Nat} {S : List Nat} {post : Int64 → Gh → Prop} (hr : va_Run p l e R s m args below meth c H locs cells slots mc ms (F0 m pc ls st0) rest (QQ (QT D cy base τ G S (fun v g => ∃ r : Int64, v = some (.long r) ∧ post r g)) av) (RA base)) (hS : va_S (RA base) H0 H locs)
    (kk : ∀ (r : Int64) (G1 : Gh) (H1 : Heap) (locs1 : List Loc), Fr τ S G G1 → post r G1 → TY D cy base τ G1 H1 → va_S (RA base) H0 H1 locs1 → W p l e R s m args below meth c H1 locs1 (cells + mc) (slots + ms) Qf (F0 m (pc + 3) ls (.long r :: rest))) : W p l e R s m args below meth c H locs cells slots Qf (F0 m pc ls st0) :=
  t_call hr hS (fun v G1 H1 l1 h1 h2 h3 h4 => by obtain ⟨r, rfl, h⟩ := h2; exact kk r G1 H1 l1 h1 h h3 h4)
end TYPED
