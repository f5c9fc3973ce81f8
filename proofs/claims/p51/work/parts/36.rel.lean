/-! ===== what the class and the reference have in common: rows, images; the lorry's load ===== -/
def UNI (τ : Nat → Nat) : Prop := ∀ a b t : Nat, τ a = t → τ b = t → (t = 23 ∨ t = 24 ∨ t = 51 ∨ t = 52 ∨ t = 78) → a = b
def RS (τ : Nat → Nat) (G : Gh) (sl wd mn j : Nat) : Prop := (G.2.2.1 sl j = none ∧ G.1 wd j = -1) ∨ (∃ q y : Nat, G.2.2.1 sl j = some q ∧ τ q = 9 ∧ G.1 q 0 = G.1 wd j ∧ G.1 wd j ≠ -1 ∧ G.2.2.1 q 1 = some y ∧ τ y = 40 ∧ (G.2.2.2 y : Int) = (G.1 mn j).toInt)
def RI (G : Gh) (im ik j : Nat) : Prop := (G.2.2.1 im j = none ∧ G.1 ik j = 0) ∨ ((∃ q : Nat, G.2.2.1 im j = some q) ∧ G.1 ik j = 1)
def RLr (τ : Nat → Nat) (G : Gh) : Prop := ∀ sl wd mn : Nat, τ sl = 23 → τ wd = 51 → τ mn = 52 → ∀ j : Nat, j < 4 → RS τ G sl wd mn j
def RLi (τ : Nat → Nat) (G : Gh) : Prop := ∀ im ik : Nat, τ im = 24 → τ ik = 78 → ∀ j : Nat, j < 3 → RI G im ik j
def INM (τ : Nat → Nat) (G : Gh) (mo : Nat) : Prop := ∃ tha sa : Nat, G.2.2.1 mo 18 = some tha ∧ τ tha = 68 ∧ G.2.2.1 mo 24 = some sa ∧ τ sa = 74 ∧ INV G tha sa
def LI (τ : Nat → Nat) (G : Gh) (xo mo : Nat) : Prop := τ xo = 1 ∧ τ mo = 11 ∧ UNI τ ∧ INM τ G mo ∧ RLr τ G ∧ RLi τ G
theorem UNI.ex {τ τ' : Nat → Nat} (h : UNI τ) (hE : EX τ τ') : UNI τ' := by
  intro a b t ha hb ht
  have hn : NT.contains t = false := by
    rcases ht with rfl | rfl | rfl | rfl | rfl <;> decide
  exact h a b t (hE.back ha hn) (hE.back hb hn) ht
theorem RS.tr {τ τ' : Nat → Nat} {G G' : Gh} {sl wd mn j : Nat} (h : RS τ G sl wd mn j) (hE : EX τ τ') (h1 : G'.2.2.1 sl j = G.2.2.1 sl j) (h2 : G'.1 wd j = G.1 wd j) (h3 : G'.1 mn j = G.1 mn j) (h4 : ∀ q, τ q = 9 → G'.1 q 0 = G.1 q 0 ∧ G'.2.2.1 q 1 = G.2.2.1 q 1) (h5 : ∀ y, τ y = 40 → G'.2.2.2 y = G.2.2.2 y) : RS τ' G' sl wd mn j := by
  rcases h with ⟨a1, a2⟩ | ⟨q, y, a1, a2, a3, a4, a5, a6, a7⟩
  · exact Or.inl ⟨h1.trans a1, h2.trans a2⟩
  · exact Or.inr ⟨q, y, h1.trans a1, hE.tg a2 (by decide), by rw [(h4 q a2).1, h2]; exact a3, by rw [h2]; exact a4, (h4 q a2).2.trans a5, hE.tg a6 (by decide), by rw [h5 y a6, h3]; exact a7⟩
theorem RI.tr {G G' : Gh} {im ik j : Nat} (h : RI G im ik j) (h1 : G'.2.2.1 im j = G.2.2.1 im j) (h2 : G'.1 ik j = G.1 ik j) : RI G' im ik j := by
  rcases h with ⟨a1, a2⟩ | ⟨⟨q, a1⟩, a2⟩
  · exact Or.inl ⟨h1.trans a1, h2.trans a2⟩
  · exact Or.inr ⟨⟨q, h1.trans a1⟩, h2.trans a2⟩
/-- the tags that the relation speaks of are not among S -/
def okR (S : List Nat) : Bool := !(S.contains 9 || S.contains 1009 || S.contains 1023 || S.contains 51 || S.contains 52)
def okI (S : List Nat) : Bool := !(S.contains 1024 || S.contains 78)
def okN (S : List Nat) : Bool := !(S.contains 1011 || S.contains 68 || S.contains 74)
theorem RLr.fr {τ τ' : Nat → Nat} {S : List Nat} {G G' : Gh} (h : RLr τ G) (hE : EX τ τ') (hF : Fr τ S G G') (hs : okR S = true) : RLr τ' G' := by
  unfold okR at hs
  simp only [Bool.not_eq_true', Bool.or_eq_false_iff] at hs
  obtain ⟨⟨⟨⟨s1, s2⟩, s3⟩, s4⟩, s5⟩ := hs
  intro sl wd mn hsl hwd hmn j hj
  have hsl := hE.back hsl (by decide)
  have hwd := hE.back hwd (by decide)
  have hmn := hE.back hmn (by decide)
  exact (h sl wd mn hsl hwd hmn j hj).tr hE (hF.r hsl (by decide) s3 j) (hF.i hwd (by decide) s4 j) (hF.i hmn (by decide) s5 j) (fun q hq => ⟨hF.i hq (by decide) s1 0, hF.r hq (by decide) s2 1⟩) (fun y hy => hF.n hy (by decide))
theorem RLi.fr {τ τ' : Nat → Nat} {S : List Nat} {G G' : Gh} (h : RLi τ G) (hE : EX τ τ') (hF : Fr τ S G G') (hs : okI S = true) : RLi τ' G' := by
  unfold okI at hs
  simp only [Bool.not_eq_true', Bool.or_eq_false_iff] at hs
  intro im ik him hik j hj
  have him := hE.back him (by decide)
  have hik := hE.back hik (by decide)
  exact (h im ik him hik j hj).tr (hF.r him (by decide) hs.1 j) (hF.i hik (by decide) hs.2 j)
theorem INM.fr {τ τ' : Nat → Nat} {S : List Nat} {G G' : Gh} {mo : Nat} (h : INM τ G mo) (hm : τ mo = 11) (hE : EX τ τ') (hF : Fr τ S G G') (hs : okN S = true) : INM τ' G' mo := by
  unfold okN at hs
  simp only [Bool.not_eq_true', Bool.or_eq_false_iff] at hs
  obtain ⟨⟨s1, s2⟩, s3⟩ := hs
  obtain ⟨tha, sa, e1, h1, e2, h2, hI⟩ := h
  exact ⟨tha, sa, (hF.r hm (by decide) s1 _).trans e1, hE.tg h1 (by decide), (hF.r hm (by decide) s1 _).trans e2, hE.tg h2 (by decide), hI.same (fun j => hF.i h1 (by decide) s2 j) (fun j => hF.i h2 (by decide) s3 j)⟩
theorem INM.new {τ : Nat → Nat} {S : List Nat} {G G' : Gh} {mo tha sa : Nat} (hm : τ mo = 11) (hF : Fr τ S G G') (hs : S.contains 1011 = false) (e1 : G.2.2.1 mo 18 = some tha) (h1 : τ tha = 68) (e2 : G.2.2.1 mo 24 = some sa) (h2 : τ sa = 74) (hI : INV G' tha sa) : INM τ G' mo :=
  ⟨tha, sa, (hF.r hm (by decide) hs _).trans e1, h1, (hF.r hm (by decide) hs _).trans e2, h2, hI⟩
theorem LI.fr {τ τ' : Nat → Nat} {S : List Nat} {G G' : Gh} {xo mo : Nat} (h : LI τ G xo mo) (hE : EX τ τ') (hF : Fr τ S G G') (hs : (okR S && okI S && okN S) = true) : LI τ' G' xo mo := by
  simp only [Bool.and_eq_true] at hs
  obtain ⟨h1, h2, h3, h4, h5, h6⟩ := h
  exact ⟨hE.tg h1 (by decide), hE.tg h2 (by decide), h3.ex hE, h4.fr h2 hE hF hs.2, h5.fr hE hF hs.1.1, h6.fr hE hF hs.1.2⟩
theorem LI.frN {τ : Nat → Nat} {S : List Nat} {G G' : Gh} {xo mo : Nat} (h : LI τ G xo mo) (hF : Fr τ S G G') (hs : (okR S && okI S) = true) (hI : INM τ G' mo) : LI τ G' xo mo := by
  simp only [Bool.and_eq_true] at hs
  obtain ⟨h1, h2, h3, h4, h5, h6⟩ := h
  exact ⟨h1, h2, h3, hI, h5.fr EX.rf hF hs.1, h6.fr EX.rf hF hs.2⟩
theorem RLr.of {τ : Nat → Nat} {G : Gh} {sl wd mn : Nat} (hU : UNI τ) (h1 : τ sl = 23) (h2 : τ wd = 51) (h3 : τ mn = 52) (h : ∀ j : Nat, j < 4 → RS τ G sl wd mn j) : RLr τ G := by
  intro a b c ha hb hc
  rw [hU a sl 23 ha h1 (by decide), hU b wd 51 hb h2 (by decide), hU c mn 52 hc h3 (by decide)]
  exact h
theorem RLi.of {τ : Nat → Nat} {G : Gh} {im ik : Nat} (hU : UNI τ) (h1 : τ im = 24) (h2 : τ ik = 78) (h : ∀ j : Nat, j < 3 → RI G im ik j) : RLi τ G := by
  intro a b ha hb
  rw [hU a im 24 ha h1 (by decide), hU b ik 78 hb h2 (by decide)]
  exact h
theorem row_both {τ τ1 : Nat → Nat} {S1 S2 : List Nat} {G g1 g2 : Gh} {sl wd mn : Nat} {v0 v1 v2 r r' : Int32} (hR : RLr τ G) (hU : UNI τ) (hE : EX τ τ1) (hF : Fr τ S1 G g1) (hF2 : Fr τ1 S2 g1 g2) (hs1 : (S1.contains 9 || S1.contains 1009 || S1.contains 51 || S1.contains 52) = false) (hs2 : (S2.contains 9 || S2.contains 1009 || S2.contains 1023) = false) (hsl : τ sl = 23) (hwd : τ1 wd = 51) (hmn : τ1 mn = 52) (hx : (r = -2 ∧ (v0.toInt < 0 ∨ 3 < v0.toInt ∨ v1.toInt < 0 ∨ 3 < v1.toInt ∨ 60 < v2.toInt) ∧ (∀ j : Nat, g1.2.2.1 sl j = G.2.2.1 sl j)) ∨ (r = -3 ∧ 0 ≤ v0.toInt ∧ v0.toInt ≤ 3 ∧ 0 ≤ v1.toInt ∧ v1.toInt ≤ 3 ∧ v2.toInt < 0 ∧ (∀ j : Nat, g1.2.2.1 sl j = G.2.2.1 sl j)) ∨ (r = 0 ∧ 0 ≤ v0.toInt ∧ v0.toInt ≤ 3 ∧ 0 ≤ v1.toInt ∧ v1.toInt ≤ 3 ∧ 0 ≤ v2.toInt ∧ v2.toInt ≤ 60 ∧ ∃ q y : Nat, g1.2.2.1 sl v0.toNatClampNeg = some q ∧ τ1 q = 9 ∧ g1.1 q 0 = v1 ∧ g1.2.2.1 q 1 = some y ∧ τ1 y = 40 ∧ g1.2.2.2 y = v2.toInt.toNat ∧ ∀ j : Nat, j ≠ v0.toNatClampNeg → g1.2.2.1 sl j = G.2.2.1 sl j)) (hm : (r' = -2 ∧ (v0.toInt < 0 ∨ 3 < v0.toInt ∨ v1.toInt < 0 ∨ 3 < v1.toInt ∨ 60 < v2.toInt) ∧ (∀ j : Nat, g2.1 wd j = g1.1 wd j ∧ g2.1 mn j = g1.1 mn j)) ∨ (r' = -3 ∧ 0 ≤ v0.toInt ∧ v0.toInt ≤ 3 ∧ 0 ≤ v1.toInt ∧ v1.toInt ≤ 3 ∧ v2.toInt < 0 ∧ (∀ j : Nat, g2.1 wd j = g1.1 wd j ∧ g2.1 mn j = g1.1 mn j)) ∨ (r' = 0 ∧ 0 ≤ v0.toInt ∧ v0.toInt ≤ 3 ∧ 0 ≤ v1.toInt ∧ v1.toInt ≤ 3 ∧ 0 ≤ v2.toInt ∧ v2.toInt ≤ 60 ∧ g2.1 wd v0.toNatClampNeg = v1 ∧ g2.1 mn v0.toNatClampNeg = v2 ∧ ∀ j : Nat, j ≠ v0.toNatClampNeg → g2.1 wd j = g1.1 wd j ∧ g2.1 mn j = g1.1 mn j)) : r = r' ∧ RLr τ1 g2 := by
  simp only [Bool.or_eq_false_iff] at hs1 hs2
  obtain ⟨⟨⟨s1, s2⟩, s3⟩, s4⟩ := hs1
  obtain ⟨⟨t1, t2⟩, t3⟩ := hs2
  have hsl1 := hE.tg hsl (by decide)
  have hwd0 := hE.back hwd (by decide)
  have hmn0 := hE.back hmn (by decide)
  have U1 := hU.ex hE
  have old : ∀ j : Nat, j < 4 → g1.2.2.1 sl j = G.2.2.1 sl j → g2.1 wd j = g1.1 wd j ∧ g2.1 mn j = g1.1 mn j → RS τ1 g2 sl wd mn j := by
    intro j hj k1 k2
    refine (hR sl wd mn hsl hwd0 hmn0 j hj).tr hE ((hF2.r hsl1 (by decide) t3 j).trans k1) (k2.1.trans (hF.i hwd0 (by decide) s3 j)) (k2.2.trans (hF.i hmn0 (by decide) s4 j)) (fun q hq => ?_) (fun y hy => (hF2.n (hE.tg hy (by decide)) (by decide)).trans (hF.n hy (by decide)))
    have hq1 := hE.tg hq (by decide)
    exact ⟨(hF2.i hq1 (by decide) t1 0).trans (hF.i hq (by decide) s1 0), (hF2.r hq1 (by decide) t2 1).trans (hF.r hq (by decide) s2 1)⟩
  rcases hx with ⟨x1, x2, x3⟩ | ⟨x1, x2, x2b, x2c, x2d, x3, x4⟩ | ⟨x1, x2, x2', x3, x3', x4, x5, q, y, x6, x7, x8, x9, xa, xb, xc⟩ <;> rcases hm with ⟨m1, m2, m3⟩ | ⟨m1, m2, m2b, m2c, m2d, m3, m4⟩ | ⟨m1, m2, m2', m3, m3', m4, m5, m6, m7, m8⟩
  · exact ⟨x1.trans m1.symm, RLr.of U1 hsl1 hwd hmn (fun j hj => old j hj (x3 j) (m3 j))⟩
  · exfalso; omega
  · exfalso; omega
  · exfalso; omega
  · exact ⟨x1.trans m1.symm, RLr.of U1 hsl1 hwd hmn (fun j hj => old j hj (x4 j) (m4 j))⟩
  · exfalso; omega
  · exfalso; omega
  · exfalso; omega
  · refine ⟨x1.trans m1.symm, RLr.of U1 hsl1 hwd hmn (fun j hj => ?_)⟩
    by_cases e : j = v0.toNatClampNeg
    · subst e
      refine Or.inr ⟨q, y, (hF2.r hsl1 (by decide) t3 _).trans x6, x7, ?_, ?_, (hF2.r x7 (by decide) t2 1).trans x9, xa, ?_⟩
      · rw [hF2.i x7 (by decide) t1 0, x8, m6]
      · rw [m6]
        intro h
        have h2 : v1.toInt = (-1 : Int) := congrArg Int32.toInt h
        omega
      · rw [hF2.n xa (by decide), xb, m7]
        omega
    · exact old j hj (xc j e) (m8 j e)
theorem keep_both {τ τ1 : Nat → Nat} {S1 S2 : List Nat} {G g1 g2 : Gh} {im ik : Nat} {v0 r r' : Int32} (hR : RLi τ G) (hU : UNI τ) (hE : EX τ τ1) (hF : Fr τ S1 G g1) (hF2 : Fr τ1 S2 g1 g2) (hs1 : S1.contains 78 = false) (hs2 : S2.contains 1024 = false) (him : τ im = 24) (hik : τ1 ik = 78) (hx : (r = -2 ∧ (v0.toInt < 0 ∨ 2 < v0.toInt) ∧ (∀ j : Nat, g1.2.2.1 im j = G.2.2.1 im j)) ∨ (r = 0 ∧ 0 ≤ v0.toInt ∧ v0.toInt ≤ 2 ∧ ∃ q : Nat, g1.2.2.1 im v0.toNatClampNeg = some q ∧ ∀ j : Nat, j ≠ v0.toNatClampNeg → g1.2.2.1 im j = G.2.2.1 im j)) (hm : (r' = -2 ∧ (v0.toInt < 0 ∨ 2 < v0.toInt) ∧ (∀ j : Nat, g2.1 ik j = g1.1 ik j)) ∨ (r' = 0 ∧ 0 ≤ v0.toInt ∧ v0.toInt ≤ 2 ∧ g2.1 ik v0.toNatClampNeg = 1 ∧ ∀ j : Nat, j ≠ v0.toNatClampNeg → g2.1 ik j = g1.1 ik j)) : r = r' ∧ RLi τ1 g2 := by
  have him1 := hE.tg him (by decide)
  have hik0 := hE.back hik (by decide)
  have U1 := hU.ex hE
  have old : ∀ j : Nat, j < 3 → g1.2.2.1 im j = G.2.2.1 im j → g2.1 ik j = g1.1 ik j → RI g2 im ik j := fun j hj k1 k2 => (hR im ik him hik0 j hj).tr ((hF2.r him1 (by decide) hs2 j).trans k1) (k2.trans (hF.i hik0 (by decide) hs1 j))
  rcases hx with ⟨x1, x2, x3⟩ | ⟨x1, x2, x2', q, x3, x4⟩ <;> rcases hm with ⟨m1, m2, m3⟩ | ⟨m1, m2, m2', m3, m4⟩
  · exact ⟨x1.trans m1.symm, RLi.of U1 him1 hik (fun j hj => old j hj (x3 j) (m3 j))⟩
  · exfalso; omega
  · exfalso; omega
  · refine ⟨x1.trans m1.symm, RLi.of U1 him1 hik (fun j hj => ?_)⟩
    by_cases e : j = v0.toNatClampNeg
    · subst e
      exact Or.inr ⟨⟨q, (hF2.r him1 (by decide) hs2 _).trans x3⟩, m3⟩
    · exact old j hj (x4 j e) (m4 j e)
theorem back_both {τ : Nat → Nat} {S1 : List Nat} {G g1 : Gh} {im ik : Nat} {v0 r r' : Int32} (hR : RLi τ G) (hF : Fr τ S1 G g1) (hs1 : S1.contains 78 = false) (him : τ im = 24) (hik : τ ik = 78) (hx : (r = -2 ∧ (v0.toInt < 0 ∨ 2 < v0.toInt)) ∨ (r = -6 ∧ 0 ≤ v0.toInt ∧ v0.toInt ≤ 2 ∧ G.2.2.1 im v0.toNatClampNeg = none) ∨ (r = 0 ∧ 0 ≤ v0.toInt ∧ v0.toInt ≤ 2 ∧ ∃ q : Nat, G.2.2.1 im v0.toNatClampNeg = some q)) (hm : (r' = -2 ∧ (v0.toInt < 0 ∨ 2 < v0.toInt)) ∨ (r' = -6 ∧ 0 ≤ v0.toInt ∧ v0.toInt ≤ 2 ∧ g1.1 ik v0.toNatClampNeg = 0) ∨ (r' = 0 ∧ 0 ≤ v0.toInt ∧ v0.toInt ≤ 2 ∧ g1.1 ik v0.toNatClampNeg ≠ 0)) : r = r' := by
  rcases hx with ⟨x1, x2⟩ | ⟨x1, x2, x3, x4⟩ | ⟨x1, x2, x3, q, x4⟩ <;> rcases hm with ⟨m1, m2⟩ | ⟨m1, m2, m3, m4⟩ | ⟨m1, m2, m3, m4⟩ <;> first | exact x1.trans m1.symm | (exfalso; omega) | skip
  all_goals
    have hj : v0.toNatClampNeg < 3 := (show v0.toInt.toNat < 3 by omega)
    have e9 := hF.i hik (by decide) hs1 v0.toNatClampNeg
    rw [e9] at m4
    rcases hR im ik him hik _ hj with ⟨a1, a2⟩ | ⟨⟨q', a1⟩, a2⟩
  · exact absurd a2 m4
  · rw [x4] at a1; cases a1
  · rw [x4] at a1; cases a1
  · rw [a2] at m4; exact absurd m4 (by decide)
theorem write_both {τ : Nat → Nat} {S1 : List Nat} {G g1 : Gh} {sl wd mn : Nat} {v0 v1 r r' : Int32} (hR : RLr τ G) (hF : Fr τ S1 G g1) (hs1 : (S1.contains 51 || S1.contains 52) = false) (hsl : τ sl = 23) (hwd : τ wd = 51) (hmn : τ mn = 52) (hx : (r = -2 ∧ (v0.toInt < 0 ∨ 3 < v0.toInt)) ∨ (r = -6 ∧ 0 ≤ v0.toInt ∧ v0.toInt ≤ 3 ∧ G.2.2.1 sl v0.toNatClampNeg = none) ∨ (0 ≤ v0.toInt ∧ v0.toInt ≤ 3 ∧ ∃ q y : Nat, G.2.2.1 sl v0.toNatClampNeg = some q ∧ G.2.2.1 q 1 = some y ∧ ((r = -7 ∧ (v1.toInt < 0 ∨ (G.2.2.2 y : Int) ≤ v1.toInt)) ∨ (r = 0 ∧ 0 ≤ v1.toInt ∧ v1.toInt < G.2.2.2 y)))) (hm : (r' = -2 ∧ (v0.toInt < 0 ∨ 3 < v0.toInt)) ∨ (r' = -6 ∧ 0 ≤ v0.toInt ∧ v0.toInt ≤ 3 ∧ g1.1 wd v0.toNatClampNeg = -1) ∨ (0 ≤ v0.toInt ∧ v0.toInt ≤ 3 ∧ g1.1 wd v0.toNatClampNeg ≠ -1 ∧ ((r' = -7 ∧ (v1.toInt < 0 ∨ (g1.1 mn v0.toNatClampNeg).toInt ≤ v1.toInt)) ∨ (r' = 0 ∧ 0 ≤ v1.toInt ∧ v1.toInt < (g1.1 mn v0.toNatClampNeg).toInt)))) : r = r' := by
  simp only [Bool.or_eq_false_iff] at hs1
  have e1 := hF.i hwd (by decide) hs1.1 v0.toNatClampNeg
  have e2 := hF.i hmn (by decide) hs1.2 v0.toNatClampNeg
  rw [e1, e2] at hm
  by_cases hb : v0.toInt < 0 ∨ 3 < v0.toInt
  · rcases hx with ⟨x1, x2⟩ | ⟨x1, x2, x3, x4⟩ | ⟨x1, x2, q, y, x4, x5, x6⟩ <;> rcases hm with ⟨m1, m2⟩ | ⟨m1, m2, m3, m4⟩ | ⟨m1, m2, m3, m4⟩ <;> first | exact x1.trans m1.symm | (exfalso; omega)
  · have hj : v0.toNatClampNeg < 4 := (show v0.toInt.toNat < 4 by omega)
    rcases hR sl wd mn hsl hwd hmn _ hj with ⟨a1, a2⟩ | ⟨q', y', a1, a2, a3, a4, a5, a6, a7⟩
    · rcases hx with ⟨x1, x2⟩ | ⟨x1, x2, x3, x4⟩ | ⟨x1, x2, q, y, x4, x5, x6⟩
      · exact absurd x2 hb
      · rcases hm with ⟨m1, m2⟩ | ⟨m1, m2, m3, m4⟩ | ⟨m1, m2, m3, m4⟩
        · exact absurd m2 hb
        · exact x1.trans m1.symm
        · exact absurd a2 m3
      · rw [a1] at x4; cases x4
    · rcases hx with ⟨x1, x2⟩ | ⟨x1, x2, x3, x4⟩ | ⟨x1, x2, q, y, x4, x5, x6⟩
      · exact absurd x2 hb
      · rw [a1] at x4; cases x4
      · rw [a1] at x4
        cases x4
        rw [a5] at x5
        cases x5
        rcases hm with ⟨m1, m2⟩ | ⟨m1, m2, m3, m4⟩ | ⟨m1, m2, m3, m4⟩
        · exact absurd m2 hb
        · exact absurd m4 a4
        · rcases x6 with ⟨k1, k2⟩ | ⟨k1, k2, k3⟩ <;> rcases m4 with ⟨n1, n2⟩ | ⟨n1, n2, n3⟩ <;> first | exact k1.trans n1.symm | (exfalso; omega)
theorem paste_both {τ : Nat → Nat} {S1 : List Nat} {G g1 : Gh} {sl wd mn : Nat} {v0 v1 v2 v3 v4 r r' : Int32} (hR : RLr τ G) (hF : Fr τ S1 G g1) (hs1 : (S1.contains 51 || S1.contains 52) = false) (hsl : τ sl = 23) (hwd : τ wd = 51) (hmn : τ mn = 52) (hx : (r = -2 ∧ ((v0.toInt < 0 ∨ 3 < v0.toInt) ∨ (v2.toInt < 0 ∨ 3 < v2.toInt))) ∨ (r = -6 ∧ 0 ≤ v0.toInt ∧ v0.toInt ≤ 3 ∧ 0 ≤ v2.toInt ∧ v2.toInt ≤ 3 ∧ (G.2.2.1 sl v0.toNatClampNeg = none ∨ G.2.2.1 sl v2.toNatClampNeg = none)) ∨ (0 ≤ v0.toInt ∧ v0.toInt ≤ 3 ∧ 0 ≤ v2.toInt ∧ v2.toInt ≤ 3 ∧ ∃ q1 q2 y1 y2 : Nat, G.2.2.1 sl v0.toNatClampNeg = some q1 ∧ G.2.2.1 sl v2.toNatClampNeg = some q2 ∧ G.2.2.1 q1 1 = some y1 ∧ G.2.2.1 q2 1 = some y2 ∧ ((r = -8 ∧ G.1 q1 0 ≠ G.1 q2 0) ∨ (r = -7 ∧ G.1 q1 0 = G.1 q2 0 ∧ ¬ (0 ≤ v1.toInt ∧ 0 ≤ v3.toInt ∧ 0 ≤ v4.toInt ∧ v1.toInt + v4.toInt ≤ G.2.2.2 y1 ∧ v3.toInt + v4.toInt ≤ G.2.2.2 y2)) ∨ (r = 0 ∧ G.1 q1 0 = G.1 q2 0 ∧ (0 ≤ v1.toInt ∧ 0 ≤ v3.toInt ∧ 0 ≤ v4.toInt ∧ v1.toInt + v4.toInt ≤ G.2.2.2 y1 ∧ v3.toInt + v4.toInt ≤ G.2.2.2 y2))))) (hm : (r' = -2 ∧ ((v0.toInt < 0 ∨ 3 < v0.toInt) ∨ (v2.toInt < 0 ∨ 3 < v2.toInt))) ∨ (r' = -6 ∧ 0 ≤ v0.toInt ∧ v0.toInt ≤ 3 ∧ 0 ≤ v2.toInt ∧ v2.toInt ≤ 3 ∧ (g1.1 wd v0.toNatClampNeg = -1 ∨ g1.1 wd v2.toNatClampNeg = -1)) ∨ (0 ≤ v0.toInt ∧ v0.toInt ≤ 3 ∧ 0 ≤ v2.toInt ∧ v2.toInt ≤ 3 ∧ g1.1 wd v0.toNatClampNeg ≠ -1 ∧ g1.1 wd v2.toNatClampNeg ≠ -1 ∧ ((r' = -8 ∧ g1.1 wd v0.toNatClampNeg ≠ g1.1 wd v2.toNatClampNeg) ∨ (r' = -7 ∧ g1.1 wd v0.toNatClampNeg = g1.1 wd v2.toNatClampNeg ∧ ¬ (0 ≤ v1.toInt ∧ 0 ≤ v3.toInt ∧ 0 ≤ v4.toInt ∧ v1.toInt + v4.toInt ≤ (g1.1 mn v0.toNatClampNeg).toInt ∧ v3.toInt + v4.toInt ≤ (g1.1 mn v2.toNatClampNeg).toInt)) ∨ (r' = 0 ∧ g1.1 wd v0.toNatClampNeg = g1.1 wd v2.toNatClampNeg ∧ (0 ≤ v1.toInt ∧ 0 ≤ v3.toInt ∧ 0 ≤ v4.toInt ∧ v1.toInt + v4.toInt ≤ (g1.1 mn v0.toNatClampNeg).toInt ∧ v3.toInt + v4.toInt ≤ (g1.1 mn v2.toNatClampNeg).toInt))))) : r = r' := by
  simp only [Bool.or_eq_false_iff] at hs1
  rw [hF.i hwd (by decide) hs1.1 v0.toNatClampNeg, hF.i hwd (by decide) hs1.1 v2.toNatClampNeg, hF.i hmn (by decide) hs1.2 v0.toNatClampNeg, hF.i hmn (by decide) hs1.2 v2.toNatClampNeg] at hm
  by_cases hb : (v0.toInt < 0 ∨ 3 < v0.toInt) ∨ (v2.toInt < 0 ∨ 3 < v2.toInt)
  · rcases hx with ⟨x1, x2⟩ | ⟨x1, x2, x3, x4, x5, x6⟩ | ⟨x1, x2, x3, x4, x5⟩ <;> rcases hm with ⟨m1, m2⟩ | ⟨m1, m2, m3, m4, m5, m6⟩ | ⟨m1, m2, m3, m4, m5⟩ <;> first | exact x1.trans m1.symm | (exfalso; omega)
  · have hj : v0.toNatClampNeg < 4 := (show v0.toInt.toNat < 4 by omega)
    have hk : v2.toNatClampNeg < 4 := (show v2.toInt.toNat < 4 by omega)
    have A := hR sl wd mn hsl hwd hmn _ hj
    have B := hR sl wd mn hsl hwd hmn _ hk
    rcases hm with ⟨m1, m2⟩ | ⟨m1, -, -, -, -, m6⟩ | ⟨-, -, -, -, m5, m6, m7⟩
    · exact absurd m2 hb
    · rcases hx with ⟨x1, x2⟩ | ⟨x1, -⟩ | ⟨-, -, -, -, q1, q2, y1, y2, z1, z2, z3, z4, z5⟩
      · exact absurd x2 hb
      · exact x1.trans m1.symm
      · exfalso
        rcases m6 with m6 | m6
        · rcases A with ⟨a1, -⟩ | ⟨q', y', -, -, -, a4, -⟩
          · rw [a1] at z1; cases z1
          · exact a4 m6
        · rcases B with ⟨a1, -⟩ | ⟨q', y', -, -, -, a4, -⟩
          · rw [a1] at z2; cases z2
          · exact a4 m6
    · rcases hx with ⟨x1, x2⟩ | ⟨-, -, -, -, -, x6⟩ | ⟨-, -, -, -, q1, q2, y1, y2, z1, z2, z3, z4, z5⟩
      · exact absurd x2 hb
      · exfalso
        rcases x6 with x6 | x6
        · rcases A with ⟨-, a2⟩ | ⟨q', y', a1, -⟩
          · exact m5 a2
          · rw [x6] at a1; cases a1
        · rcases B with ⟨-, a2⟩ | ⟨q', y', a1, -⟩
          · exact m6 a2
          · rw [x6] at a1; cases a1
      · rcases A with ⟨-, a2⟩ | ⟨qa, ya, a1, -, a3, -, a5, -, a7⟩
        · exact absurd a2 m5
        · rcases B with ⟨-, b2⟩ | ⟨qb, yb, b1, -, b3, -, b5, -, b7⟩
          · exact absurd b2 m6
          · rw [a1] at z1; cases z1
            rw [b1] at z2; cases z2
            rw [a5] at z3; cases z3
            rw [b5] at z4; cases z4
            rw [a3, b3] at z5
            rcases z5 with ⟨k1, k2⟩ | ⟨k1, k2, k3⟩ | ⟨k1, k2, k3⟩ <;> rcases m7 with ⟨n1, n2⟩ | ⟨n1, n2, n3⟩ | ⟨n1, n2, n3⟩
            · exact k1.trans n1.symm
            · exact absurd n2 k2
            · exact absurd n2 k2
            · exact absurd k2 n2
            · exact k1.trans n1.symm
            · exfalso; omega
            · exact absurd k2 n2
            · exfalso; omega
            · exact k1.trans n1.symm
