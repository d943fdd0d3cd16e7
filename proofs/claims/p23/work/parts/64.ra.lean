/-- what both sides keep: how much is taped, the tape (as the class holds it), the fault, whether a vote goes on -/
abbrev gz : Type := Int32 × (Nat → Int32) × Int32 × Int32
noncomputable def laG (g : gz) : Int × Int := laE (tc g.2.1) g.1.toNatClampNeg
noncomputable def fvG (g : gz) : Int32 := Int32.ofInt (laG g).2
def prK (f v : Int) : Int := if f = -1 then (if v = 1 then 2 else 0) else 1
theorem prK_s (f v : Int) : (f ≠ -1 ∧ prK f v = 1) ∨ (f = -1 ∧ v = 1 ∧ prK f v = 2) ∨ (f = -1 ∧ v ≠ 1 ∧ prK f v = 0) := by
  unfold prK
  by_cases h : f = -1
  · rw [if_pos h]
    by_cases h2 : v = 1
    · rw [if_pos h2]
      exact Or.inr (Or.inl ⟨h, h2, rfl⟩)
    · rw [if_neg h2]
      exact Or.inr (Or.inr ⟨h, h2, rfl⟩)
  · rw [if_neg h]
    exact Or.inl ⟨h, rfl⟩
def pgP (g : gz) : Prop := (0 ≤ g.1.toInt ∧ g.1.toInt ≤ 400) ∧ (0 ≤ g.2.2.2.toInt ∧ g.2.2.2.toInt ≤ 1)
def fdF (g : gz) (a b c d e : Int32) : gz := if g.1.toInt ≤ 380 then (nI (g.1.toNatClampNeg + 20), fdU g.2.1 g.1.toNatClampNeg a b c d e, g.2.2) else g
def fdA (g : gz) : Int := if g.1.toInt ≤ 380 then g.1.toInt + 20 else -1
theorem fdF_1 {g : gz} {a b c d e : Int32} (h : g.1.toInt ≤ 380) : fdF g a b c d e = (nI (g.1.toNatClampNeg + 20), fdU g.2.1 g.1.toNatClampNeg a b c d e, g.2.2) := if_pos h
theorem fdF_0 {g : gz} {a b c d e : Int32} (h : 380 < g.1.toInt) : fdF g a b c d e = g := if_neg (by omega)
theorem fdA_1 {g : gz} (h : g.1.toInt ≤ 380) : fdA g = g.1.toInt + 20 := if_pos h
theorem fdA_0 {g : gz} (h : 380 < g.1.toInt) : fdA g = -1 := if_neg (by omega)
theorem nI_20 {x z : Int32} (h0 : 0 ≤ x.toInt) (h1 : x.toInt ≤ 400) (hz : z.toInt = x.toInt + 20) : z = nI (x.toNatClampNeg + 20) := by
  have q := tn_of (i := x) rfl h0
  exact Int32.toInt_inj.mp (by rw [nI_toInt (by omega)]; omega)
theorem pgP.fd1 {g : gz} {V : Nat → Int32} (h : pgP g) (q : g.1.toInt ≤ 380) : pgP (nI (g.1.toNatClampNeg + 20), V, g.2.2) := by
  have q2 := tn_of (i := g.1) rfl h.1.1
  have q3 : (nI (g.1.toNatClampNeg + 20)).toInt = ((g.1.toNatClampNeg + 20 : Nat) : Int) := nI_toInt (by omega)
  exact ⟨⟨by show 0 ≤ (nI (g.1.toNatClampNeg + 20)).toInt; omega, by show (nI (g.1.toNatClampNeg + 20)).toInt ≤ 400; omega⟩, h.2⟩
def enF (g : gz) (p : Int32) : gz := if 0 ≤ p.toInt ∧ p.toInt ≤ g.1.toInt then (p, g.2) else g
def enA (g : gz) (p : Int) : Int := if 0 ≤ p ∧ p ≤ g.1.toInt then 1 else 0
theorem enF_1 {g : gz} {p : Int32} (h : 0 ≤ p.toInt ∧ p.toInt ≤ g.1.toInt) : enF g p = (p, g.2) := if_pos h
theorem enF_0 {g : gz} {p : Int32} (h : ¬ (0 ≤ p.toInt ∧ p.toInt ≤ g.1.toInt)) : enF g p = g := if_neg h
theorem enA_1 {g : gz} {p : Int} (h : 0 ≤ p ∧ p ≤ g.1.toInt) : enA g p = 1 := if_pos h
theorem enA_0 {g : gz} {p : Int} (h : ¬ (0 ≤ p ∧ p ≤ g.1.toInt)) : enA g p = 0 := if_neg h
theorem pgP.en1 {g : gz} {p : Int32} (h : pgP g) (q : 0 ≤ p.toInt ∧ p.toInt ≤ g.1.toInt) : pgP (p, g.2) := ⟨⟨q.1, Int.le_trans q.2 h.1.2⟩, h.2⟩
noncomputable def foF (g : gz) : gz := (0, g.2.1, fvG g, g.2.2.2)
theorem pgP.fo {g : gz} (h : pgP g) : pgP (foF g) := ⟨⟨by show (0 : Int) ≤ (0 : Int32).toInt; decide, by show (0 : Int32).toInt ≤ 400; decide⟩, h.2⟩
noncomputable def prV (g : gz) : Int32 := if prK (laG g).2 g.2.2.2.toInt = 0 then 1 else g.2.2.2
theorem prV_s (g : gz) : (prK (laG g).2 g.2.2.2.toInt = 0 ∧ (prV g).toInt = 1) ∨ (prK (laG g).2 g.2.2.2.toInt ≠ 0 ∧ (prV g).toInt = g.2.2.2.toInt) := by
  unfold prV
  by_cases h : prK (laG g).2 g.2.2.2.toInt = 0
  · rw [if_pos h]
    exact Or.inl ⟨h, by decide⟩
  · rw [if_neg h]
    exact Or.inr ⟨h, rfl⟩
noncomputable def prF (g : gz) : gz := (0, g.2.1, fvG g, prV g)
theorem pgP.pr {g : gz} (h : pgP g) : pgP (prF g) := by
  have q := prV_s g
  have q2 := h.2
  exact ⟨⟨by show (0 : Int) ≤ (0 : Int32).toInt; decide, by show (0 : Int32).toInt ≤ 400; decide⟩, by show 0 ≤ (prV g).toInt; omega, by show (prV g).toInt ≤ 1; omega⟩
def clF (g : gz) : gz := (g.1, g.2.1, g.2.2.1, 0)
theorem pgP.cl {g : gz} (h : pgP g) : pgP (clF g) := ⟨h.1, by show (0 : Int) ≤ (0 : Int32).toInt; decide, by show (0 : Int32).toInt ≤ 1; decide⟩
theorem pgP.start : pgP ((0 : Int32), (fun _ => 0), (-1 : Int32), (0 : Int32)) := ⟨⟨by show (0 : Int) ≤ (0 : Int32).toInt; decide, by show (0 : Int32).toInt ≤ 400; decide⟩, by show (0 : Int) ≤ (0 : Int32).toInt; decide, by show (0 : Int32).toInt ≤ 1; decide⟩
theorem ofI {x : Int32} {a : Int} (h : x.toInt = a) : x = Int32.ofInt a := by rw [← h]; exact (Int32.ofInt_toInt x).symm
