/-- what both sides keep, as numbers: 0 0 the hour, 0 1 the image's hour, 0 2 whether there is an image, 0 3 the number of farms; 1 land, 2 the image's land, 3 squares of farms, 4 crops -/
abbrev gz : Type := Nat → Nat → Int
def gu (g : gz) (c i : Nat) (v : Int) : gz := fun c' i' => if c' = c ∧ i' = i then v else g c' i'
theorem gu_s {g : gz} {c i : Nat} {v : Int} : gu g c i v c i = v := if_pos ⟨rfl, rfl⟩
theorem gu_o {g : gz} {c i c' i' : Nat} {v : Int} (h : ¬ (c' = c ∧ i' = i)) : gu g c i v c' i' = g c' i' := if_neg h
def hoF (g : gz) (n : Int) : gz := if hoC n = 0 then gu g 0 0 (hoA (g 0 0) n) else g
theorem hoF_o {g : gz} {n : Int} {c i : Nat} (h : ¬ (c = 0 ∧ i = 0)) : hoF g n c i = g c i := by
  unfold hoF
  split
  · exact gu_o h
  · rfl
theorem hoF_h {g : gz} {n : Int} : (hoC n = 0 ∧ hoF g n 0 0 = hoA (g 0 0) n) ∨ (hoC n = 1 ∧ hoF g n 0 0 = g 0 0) := by
  unfold hoF
  split
  · exact Or.inl ⟨by assumption, gu_s⟩
  · exact Or.inr ⟨by have := hoC_s n; omega, rfl⟩
def keA (g : gz) : Int := if g 0 0 = 0 then 0 else 1
theorem keA_s (g : gz) : (keA g = 0 ∧ g 0 0 = 0) ∨ (keA g = 1 ∧ g 0 0 ≠ 0) := by
  unfold keA
  split
  · exact Or.inl ⟨rfl, by assumption⟩
  · exact Or.inr ⟨rfl, by assumption⟩
def keF (g : gz) : gz := if g 0 0 = 0 then g else fun c i => if c = 0 then (if i = 1 then g 0 0 else if i = 2 then 1 else g 0 i) else if c = 2 then g 1 i else g c i
theorem keF_0 {g : gz} (h : g 0 0 = 0) : keF g = g := if_pos h
theorem keF_1 {g : gz} (h : g 0 0 ≠ 0) : keF g = fun c i => if c = 0 then (if i = 1 then g 0 0 else if i = 2 then 1 else g 0 i) else if c = 2 then g 1 i else g c i := if_neg h
def baA (g : gz) : Int := if g 0 2 = 0 ∨ g 0 0 < g 0 1 then 0 else 1
theorem baA_s (g : gz) : (baA g = 0 ∧ (g 0 2 = 0 ∨ g 0 0 < g 0 1)) ∨ (baA g = 1 ∧ ¬ (g 0 2 = 0 ∨ g 0 0 < g 0 1)) := by
  unfold baA
  split
  · exact Or.inl ⟨rfl, by assumption⟩
  · exact Or.inr ⟨rfl, by assumption⟩
def baF (g : gz) : gz := if g 0 2 = 0 ∨ g 0 0 < g 0 1 then g else fun c i => if c = 0 then (if i = 0 then g 0 1 else g 0 i) else if c = 1 then g 2 i else g c i
theorem baF_0 {g : gz} (h : g 0 2 = 0 ∨ g 0 0 < g 0 1) : baF g = g := if_pos h
theorem baF_1 {g : gz} (h : ¬ (g 0 2 = 0 ∨ g 0 0 < g 0 1)) : baF g = fun c i => if c = 0 then (if i = 0 then g 0 1 else g 0 i) else if c = 1 then g 2 i else g c i := if_neg h
def laF (g : gz) (a b h s d : Int) : gz := if laC (g 0 0) a b h s d = 0 then fun c i => if c = 1 then (if inRb ((i : Nat) : Int) a b = true then 1 else g 1 i) else g c i else g
theorem laF_0 {g : gz} {a b h s d : Int} (q : laC (g 0 0) a b h s d = 0) : laF g a b h s d = fun c i => if c = 1 then (if inRb ((i : Nat) : Int) a b = true then 1 else g 1 i) else g c i := if_pos q
theorem laF_1 {g : gz} {a b h s d : Int} (q : laC (g 0 0) a b h s d ≠ 0) : laF g a b h s d = g := if_neg q
def faK (g : gz) (a b : Int) : Bool := decide (g 0 3 < 30) && fmK (g 1) (g 3) a b 96
def faA (g : gz) (a b : Int) : Int := if faK g a b = true then g 0 3 else -1
theorem faA_1 {g : gz} {a b : Int} (h : faK g a b = true) : faA g a b = g 0 3 := if_pos h
theorem faA_0 {g : gz} {a b : Int} (h : faK g a b = false) : faA g a b = -1 := if_neg (by rw [h]; decide)
def faF (g : gz) (a b : Int) : gz := if faC a b = 0 ∧ faK g a b = true then fun c i => if c = 0 then (if i = 3 then g 0 3 + 1 else g 0 i) else if c = 3 then (if inRb ((i : Nat) : Int) a b = true then 1 else g 3 i) else g c i else g
theorem faF_1 {g : gz} {a b : Int} (h : faC a b = 0) (k : faK g a b = true) : faF g a b = fun c i => if c = 0 then (if i = 3 then g 0 3 + 1 else g 0 i) else if c = 3 then (if inRb ((i : Nat) : Int) a b = true then 1 else g 3 i) else g c i := if_pos ⟨h, k⟩
theorem faF_0 {g : gz} {a b : Int} (h : faC a b ≠ 0 ∨ faK g a b = false) : faF g a b = g := if_neg (by rintro ⟨h1, h2⟩; rcases h with h | h; (· exact h h1); rw [h] at h2; cases h2)
def soA (g : gz) (a k : Int) : Int := if g 4 a.toNat = k then 0 else 1
theorem soA_s (g : gz) (a k : Int) : (soA g a k = 0 ∧ g 4 a.toNat = k) ∨ (soA g a k = 1 ∧ g 4 a.toNat ≠ k) := by
  unfold soA
  split
  · exact Or.inl ⟨rfl, by assumption⟩
  · exact Or.inr ⟨rfl, by assumption⟩
def soF (g : gz) (a k : Int) : gz := if soC (g 0 3) a k = 0 then gu g 4 a.toNat k else g
theorem soF_1 {g : gz} {a k : Int} (h : soC (g 0 3) a k = 0) : soF g a k = gu g 4 a.toNat k := if_pos h
theorem soF_0 {g : gz} {a k : Int} (h : soC (g 0 3) a k ≠ 0) : soF g a k = g := if_neg h
/-- the class's part of it -/
def PRm (g : gz) (ho nf : Int32) (VL VF VK : Nat → Int32) : Prop := (ho.toInt = g 0 0 ∧ 0 ≤ ho.toInt ∧ ho.toInt ≤ 40000) ∧ (nf.toInt = g 0 3 ∧ 0 ≤ nf.toInt ∧ nf.toInt ≤ 30) ∧ (∀ i, i < 96 → (VL i).toInt = g 1 i ∧ (0 ≤ g 1 i ∧ g 1 i ≤ 1)) ∧ (∀ i, i < 96 → ((VF i).toInt = -1 ∧ g 3 i = 0) ∨ (0 ≤ (VF i).toInt ∧ g 3 i = 1)) ∧ (∀ i, i < 30 → (VK i).toInt = g 4 i)
/-- the image's -/
def PRi (g : gz) (bh : Int32) (VI : Nat → Int32) : Prop := (bh.toInt = g 0 1 ∧ 0 ≤ bh.toInt ∧ bh.toInt ≤ 40000) ∧ (∀ i, i < 96 → (VI i).toInt = g 2 i ∧ (0 ≤ g 2 i ∧ g 2 i ≤ 1))
theorem PRm.hours {g : gz} {ho nf h1 : Int32} {VL VF VK : Nat → Int32} {n : Int} (h : PRm g ho nf VL VF VK) (e : h1.toInt = hoF g n 0 0) (b : 0 ≤ h1.toInt ∧ h1.toInt ≤ 40000) : PRm (hoF g n) h1 nf VL VF VK := by
  obtain ⟨p1, p2, p3, p4, p5⟩ := h
  refine ⟨⟨e, b⟩, ⟨by rw [hoF_o (by decide)]; exact p2.1, p2.2⟩, fun i hi => ?_, fun i hi => ?_, fun i hi => ?_⟩
  · rw [hoF_o (by omega)]; exact p3 i hi
  · rw [hoF_o (by omega)]; exact p4 i hi
  · rw [hoF_o (by omega)]; exact p5 i hi
theorem PRi.hours {g : gz} {bh : Int32} {VI : Nat → Int32} {n : Int} (h : PRi g bh VI) : PRi (hoF g n) bh VI := by
  obtain ⟨p1, p2⟩ := h
  refine ⟨⟨by rw [hoF_o (by decide)]; exact p1.1, p1.2⟩, fun i hi => ?_⟩
  rw [hoF_o (by omega)]; exact p2 i hi
theorem PRm.keep {g : gz} {ho nf : Int32} {VL VF VK : Nat → Int32} (h : PRm g ho nf VL VF VK) : PRm (keF g) ho nf VL VF VK := by
  by_cases q : g 0 0 = 0
  · rw [keF_0 q]; exact h
  · rw [keF_1 q]; exact h
theorem PRi.keep {g : gz} {ho nf bh : Int32} {VL VF VK : Nat → Int32} (h : PRm g ho nf VL VF VK) (q : g 0 0 ≠ 0) (e : bh.toInt = ho.toInt) : PRi (keF g) bh VL := by
  obtain ⟨p1, p2, p3, p4, p5⟩ := h
  rw [keF_1 q]
  exact ⟨⟨by rw [e]; exact p1.1, by omega, by omega⟩, fun i hi => p3 i hi⟩
theorem PRm.back {g : gz} {ho nf h1 bh : Int32} {VL VF VK VI : Nat → Int32} (h : PRm g ho nf VL VF VK) (k : PRi g bh VI) (q : ¬ (g 0 2 = 0 ∨ g 0 0 < g 0 1)) (e : h1.toInt = bh.toInt) : PRm (baF g) h1 nf VI VF VK := by
  obtain ⟨p1, p2, p3, p4, p5⟩ := h
  obtain ⟨k1, k2⟩ := k
  rw [baF_1 q]
  exact ⟨⟨by rw [e]; exact k1.1, by omega, by omega⟩, p2, fun i hi => k2 i hi, p4, p5⟩
theorem PRi.back {g : gz} {bh : Int32} {VI : Nat → Int32} (h : PRi g bh VI) : PRi (baF g) bh VI := by
  by_cases q : g 0 2 = 0 ∨ g 0 0 < g 0 1
  · rw [baF_0 q]; exact h
  · rw [baF_1 q]; exact h
theorem PRm.land {g : gz} {ho nf : Int32} {VL VF VK : Nat → Int32} {a b c s d : Int} (h : PRm g ho nf VL VF VK) (q : laC (g 0 0) a b c s d = 0) : PRm (laF g a b c s d) ho nf (lyV VL 1 a b 96) VF VK := by
  obtain ⟨p1, p2, p3, p4, p5⟩ := h
  rw [laF_0 q]
  refine ⟨p1, p2, fun i hi => ?_, p4, p5⟩
  show (lyV VL 1 a b 96 i).toInt = (if inRb ((i : Nat) : Int) a b = true then 1 else g 1 i) ∧ (0 ≤ (if inRb ((i : Nat) : Int) a b = true then 1 else g 1 i) ∧ (if inRb ((i : Nat) : Int) a b = true then 1 else g 1 i) ≤ 1)
  rw [ly_96 hi]
  have := p3 i hi
  split
  · exact ⟨by decide, by decide, by decide⟩
  · exact this
theorem PRi.land {g : gz} {bh : Int32} {VI : Nat → Int32} {a b c s d : Int} (h : PRi g bh VI) : PRi (laF g a b c s d) bh VI := by
  by_cases q : laC (g 0 0) a b c s d = 0
  · rw [laF_0 q]; exact h
  · rw [laF_1 q]; exact h
theorem PRm.fk {g : gz} {ho nf : Int32} {VL VF VK : Nat → Int32} {a b : Int} (h : PRm g ho nf VL VF VK) : (decide (nf.toInt < 30) && fmK (fun j => (VL j).toInt) (fun j => (VF j).toInt + 1) a b 96) = faK g a b := by
  obtain ⟨p1, p2, p3, p4, p5⟩ := h
  unfold faK
  rw [p2.1, fmK_congr (L := fun j => (VL j).toInt) (M := g 1) (F := fun j => (VF j).toInt + 1) (K := g 3) 96 (fun j hj => (p3 j hj).1) (fun j hj => by
    show (VF j).toInt + 1 = 0 ↔ g 3 j = 0
    rcases p4 j hj with q | q <;> constructor <;> intro h9 <;> omega)]
theorem PRm.farm {g : gz} {ho nf f1 : Int32} {VL VF VK : Nat → Int32} {a b : Int} (h : PRm g ho nf VL VF VK) (q : faC a b = 0) (k : faK g a b = true) (e : f1.toInt = nf.toInt + 1) : PRm (faF g a b) ho f1 VL (lyV VF nf a b 96) VK := by
  have k1 : g 0 3 ≤ 29 := by unfold faK at k; exact fm_h k
  obtain ⟨p1, p2, p3, p4, p5⟩ := h
  rw [faF_1 q k]
  refine ⟨p1, ⟨by show f1.toInt = g 0 3 + 1; omega, by omega, by omega⟩, p3, fun i hi => ?_, p5⟩
  show ((lyV VF nf a b 96 i).toInt = -1 ∧ (if inRb ((i : Nat) : Int) a b = true then 1 else g 3 i) = 0) ∨ (0 ≤ (lyV VF nf a b 96 i).toInt ∧ (if inRb ((i : Nat) : Int) a b = true then 1 else g 3 i) = 1)
  rw [ly_96 hi]
  split
  · exact Or.inr ⟨p2.2.1, rfl⟩
  · exact p4 i hi
theorem PRi.farm {g : gz} {bh : Int32} {VI : Nat → Int32} {a b : Int} (h : PRi g bh VI) : PRi (faF g a b) bh VI := by
  by_cases q : faC a b = 0 ∧ faK g a b = true
  · rw [faF_1 q.1 q.2]; exact h
  · unfold faF; rw [if_neg q]; exact h
theorem PRm.sow {g : gz} {ho nf p0 p1 : Int32} {VL VF VK : Nat → Int32} (h : PRm g ho nf VL VF VK) (q : soC (g 0 3) p0.toInt p1.toInt = 0) : PRm (soF g p0.toInt p1.toInt) ho nf VL VF (cu VK p0.toNatClampNeg p1) := by
  obtain ⟨k1, k2, k3, k4, k5⟩ := h
  rw [soF_1 q]
  refine ⟨⟨by rw [gu_o (by omega)]; exact k1.1, k1.2⟩, ⟨by rw [gu_o (by omega)]; exact k2.1, k2.2⟩, fun i hi => by rw [gu_o (by omega)]; exact k3 i hi, fun i hi => by rw [gu_o (by omega)]; exact k4 i hi, fun i hi => ?_⟩
  by_cases e : i = p0.toNatClampNeg
  · rw [cu_s e, e]; exact gu_s.symm
  · rw [cu_o e, show gu g 4 p0.toInt.toNat p1.toInt 4 i = g 4 i from gu_o (fun z => e z.2)]; exact k5 i hi
theorem PRi.sow {g : gz} {bh : Int32} {VI : Nat → Int32} {a k : Int} (h : PRi g bh VI) : PRi (soF g a k) bh VI := by
  by_cases q : soC (g 0 3) a k = 0
  · rw [soF_1 q]
    exact ⟨⟨by rw [gu_o (by omega)]; exact h.1.1, h.1.2⟩, fun i hi => by rw [gu_o (by omega)]; exact h.2 i hi⟩
  · rw [soF_0 q]; exact h
/-- the reference's part of it -/
def PRr (g : gz) (wH vH : Int) (wL vL : Nat → Prop) (gn nf : Int32) (A B K : Nat → Int32) : Prop := (wH = g 0 0 ∧ vH = g 0 1) ∧ (gn.toInt = g 0 2 ∧ 0 ≤ gn.toInt ∧ gn.toInt ≤ 1) ∧ (nf.toInt = g 0 3 ∧ 0 ≤ nf.toInt ∧ nf.toInt ≤ 30) ∧ (∀ i, i < 96 → (wL i ↔ g 1 i = 1) ∧ (0 ≤ g 1 i ∧ g 1 i ≤ 1)) ∧ (∀ i, i < 96 → (vL i ↔ g 2 i = 1) ∧ (0 ≤ g 2 i ∧ g 2 i ≤ 1)) ∧ (∀ i, i < 96 → (frm A B nf.toInt ((i : Nat) : Int) ↔ g 3 i = 1) ∧ (0 ≤ g 3 i ∧ g 3 i ≤ 1)) ∧ (∀ f : Nat, ((f : Nat) : Int) < nf.toInt → (0 ≤ (A f).toInt ∧ (A f).toInt ≤ 95) ∧ (0 ≤ (B f).toInt ∧ (B f).toInt ≤ 95)) ∧ (∀ i, i < 30 → (K i).toInt = g 4 i)
theorem PRr.hours {g : gz} {wH vH h1 : Int} {wL vL : Nat → Prop} {gn nf : Int32} {A B K : Nat → Int32} {n : Int} (h : PRr g wH vH wL vL gn nf A B K) (e : h1 = hoF g n 0 0) : PRr (hoF g n) h1 vH wL vL gn nf A B K := by
  obtain ⟨p1, p2, p3, p4, p5, p6, p7, p8⟩ := h
  refine ⟨⟨e, by rw [hoF_o (by decide)]; exact p1.2⟩, ⟨by rw [hoF_o (by decide)]; exact p2.1, p2.2⟩, ⟨by rw [hoF_o (by decide)]; exact p3.1, p3.2⟩, fun i hi => ?_, fun i hi => ?_, fun i hi => ?_, p7, fun i hi => ?_⟩
  · rw [hoF_o (by omega)]; exact p4 i hi
  · rw [hoF_o (by omega)]; exact p5 i hi
  · rw [hoF_o (by omega)]; exact p6 i hi
  · rw [hoF_o (by omega)]; exact p8 i hi
theorem PRr.keep {g : gz} {wH vH : Int} {wL vL : Nat → Prop} {gn nf g1 : Int32} {A B K : Nat → Int32} (h : PRr g wH vH wL vL gn nf A B K) (q : wH ≠ 0) (e : g1.toInt = 1) : PRr (keF g) wH wH wL wL g1 nf A B K := by
  obtain ⟨p1, p2, p3, p4, p5, p6, p7, p8⟩ := h
  rw [keF_1 (by omega)]
  exact ⟨⟨p1.1, p1.1⟩, ⟨e, by omega, by omega⟩, p3, p4, p4, p6, p7, p8⟩
theorem PRr.back {g : gz} {wH vH : Int} {wL vL : Nat → Prop} {gn nf : Int32} {A B K : Nat → Int32} (h : PRr g wH vH wL vL gn nf A B K) (q : gn.toInt = 1 ∧ vH ≤ wH) : PRr (baF g) vH vH vL vL gn nf A B K := by
  obtain ⟨p1, p2, p3, p4, p5, p6, p7, p8⟩ := h
  rw [baF_1 (by omega)]
  exact ⟨⟨p1.2, p1.2⟩, p2, p3, p5, p5, p6, p7, p8⟩
theorem PRr.land {g : gz} {wH vH : Int} {wL vL : Nat → Prop} {gn nf : Int32} {A B K : Nat → Int32} {a b c s d : Int} (h : PRr g wH vH wL vL gn nf A B K) (q : laC (g 0 0) a b c s d = 0) : PRr (laF g a b c s d) wH vH (lndB wL a b 96) vL gn nf A B K := by
  obtain ⟨p1, p2, p3, p4, p5, p6, p7, p8⟩ := h
  rw [laF_0 q]
  refine ⟨p1, p2, p3, fun i hi => ?_, p5, p6, p7, p8⟩
  show (lndB wL a b 96 i ↔ (if inRb ((i : Nat) : Int) a b = true then 1 else g 1 i) = 1) ∧ (0 ≤ (if inRb ((i : Nat) : Int) a b = true then 1 else g 1 i) ∧ (if inRb ((i : Nat) : Int) a b = true then 1 else g 1 i) ≤ 1)
  have h4 := p4 i hi
  split
  · rename_i e
    exact ⟨⟨fun _ => rfl, fun _ => Or.inr ⟨hi, e⟩⟩, by decide, by decide⟩
  · rename_i e
    exact ⟨⟨fun z => h4.1.mp (z.elim id (fun y => absurd y.2 e)), fun z => Or.inl (h4.1.mpr z)⟩, h4.2⟩
theorem PRr.fk {g : gz} {wH vH : Int} {wL vL : Nat → Prop} {gn nf : Int32} {A B K : Nat → Int32} {a b : Int} (h : PRr g wH vH wL vL gn nf A B K) : (decide (nf.toInt < 30) && fmK (g 1) (g 3) a b 96) = faK g a b := by
  obtain ⟨p1, p2, p3, p4, p5, p6, p7, p8⟩ := h
  unfold faK
  rw [p3.1]
theorem PRr.farm {g : gz} {wH vH : Int} {wL vL : Nat → Prop} {gn nf f1 p0 p1 : Int32} {A B K : Nat → Int32} (h : PRr g wH vH wL vL gn nf A B K) (q : faC p0.toInt p1.toInt = 0) (k : faK g p0.toInt p1.toInt = true) (e : f1.toInt = nf.toInt + 1) : PRr (faF g p0.toInt p1.toInt) wH vH wL vL gn f1 (cu A nf.toNatClampNeg p0) (cu B nf.toNatClampNeg p1) K := by
  have k1 : g 0 3 ≤ 29 := by unfold faK at k; exact fm_h k
  have q1 := faC_s p0.toInt p1.toInt
  obtain ⟨z1, z2, z3, z4, z5, z6, z7, z8⟩ := h
  have hn : ((nf.toNatClampNeg : Nat) : Int) = nf.toInt := tn_of rfl (by omega)
  have ho : ∀ f : Nat, ((f : Nat) : Int) < nf.toInt → f ≠ nf.toNatClampNeg := fun f hf => by omega
  rw [faF_1 q k]
  refine ⟨z1, z2, ⟨by show f1.toInt = g 0 3 + 1; omega, by omega, by omega⟩, z4, z5, fun i hi => ?_, fun f hf => ?_, z8⟩
  · show (frm (cu A nf.toNatClampNeg p0) (cu B nf.toNatClampNeg p1) f1.toInt ((i : Nat) : Int) ↔ (if inRb ((i : Nat) : Int) p0.toInt p1.toInt = true then 1 else g 3 i) = 1) ∧ (0 ≤ (if inRb ((i : Nat) : Int) p0.toInt p1.toInt = true then 1 else g 3 i) ∧ (if inRb ((i : Nat) : Int) p0.toInt p1.toInt = true then 1 else g 3 i) ≤ 1)
    have h6 := z6 i hi
    split
    · rename_i e1
      exact ⟨⟨fun _ => rfl, fun _ => ⟨nf.toNatClampNeg, by omega, by rw [cu_s rfl, cu_s rfl]; exact e1⟩⟩, by decide, by decide⟩
    · rename_i e1
      refine ⟨⟨fun ⟨f, hf, hq⟩ => h6.1.mp ?_, fun z => ?_⟩, h6.2⟩
      · by_cases ef : f = nf.toNatClampNeg
        · rw [cu_s ef, cu_s ef] at hq; exact absurd hq e1
        · rw [cu_o ef, cu_o ef] at hq; exact ⟨f, by omega, hq⟩
      · obtain ⟨f, hf, hq⟩ := h6.1.mpr z
        exact ⟨f, by omega, by rw [cu_o (ho f hf), cu_o (ho f hf)]; exact hq⟩
  · by_cases ef : f = nf.toNatClampNeg
    · rw [cu_s ef, cu_s ef]; omega
    · rw [cu_o ef, cu_o ef]; exact z7 f (by omega)
theorem PRr.sow {g : gz} {wH vH : Int} {wL vL : Nat → Prop} {gn nf p0 p1 : Int32} {A B K : Nat → Int32} (h : PRr g wH vH wL vL gn nf A B K) (q : soC (g 0 3) p0.toInt p1.toInt = 0) : PRr (soF g p0.toInt p1.toInt) wH vH wL vL gn nf A B (cu K p0.toNatClampNeg p1) := by
  obtain ⟨z1, z2, z3, z4, z5, z6, z7, z8⟩ := h
  rw [soF_1 q]
  refine ⟨⟨by rw [gu_o (by omega)]; exact z1.1, by rw [gu_o (by omega)]; exact z1.2⟩, ⟨by rw [gu_o (by omega)]; exact z2.1, z2.2⟩, ⟨by rw [gu_o (by omega)]; exact z3.1, z3.2⟩, fun i hi => by rw [gu_o (by omega)]; exact z4 i hi, fun i hi => by rw [gu_o (by omega)]; exact z5 i hi, fun i hi => by rw [gu_o (by omega)]; exact z6 i hi, z7, fun i hi => ?_⟩
  by_cases e : i = p0.toNatClampNeg
  · rw [cu_s e, e]; exact gu_s.symm
  · rw [cu_o e, show gu g 4 p0.toInt.toNat p1.toInt 4 i = g 4 i from gu_o (fun z => e z.2)]; exact z8 i hi
theorem hoF_2 {g : gz} {n : Int} : hoF g n 0 2 = g 0 2 := hoF_o (by decide)
theorem laF_2 {g : gz} {a b h s d : Int} : laF g a b h s d 0 2 = g 0 2 := by
  unfold laF
  split <;> rfl
theorem faF_2 {g : gz} {a b : Int} : faF g a b 0 2 = g 0 2 := by
  unfold faF
  split <;> rfl
theorem soF_2 {g : gz} {a k : Int} : soF g a k 0 2 = g 0 2 := by
  unfold soF
  split
  · exact gu_o (by omega)
  · rfl
theorem baF_2 {g : gz} : baF g 0 2 = g 0 2 := by
  unfold baF
  split <;> rfl
theorem PRm.start {g : gz} (h : g = fun _ _ => 0) : PRm g 0 0 (fun _ => 0) (fun _ => -1) (fun _ => 0) := by
  subst h
  have e0 : (0 : Int32).toInt = 0 := by decide
  have e1 : (-1 : Int32).toInt = -1 := by decide
  have z0 : (0 : Int) ≤ 0 := by decide
  have z1 : (0 : Int) ≤ 1 := by decide
  exact ⟨⟨e0, by decide, by decide⟩, ⟨e0, by decide, by decide⟩, fun _ _ => ⟨e0, z0, z1⟩, fun _ _ => Or.inl ⟨e1, rfl⟩, fun _ _ => e0⟩
theorem PRr.start {g : gz} {A B : Nat → Int32} (h : g = fun _ _ => 0) : PRr g 0 0 (fun _ => False) (fun _ => False) 0 0 A B (fun _ => 0) := by
  subst h
  have e0 : (0 : Int32).toInt = 0 := by decide
  have z0 : (0 : Int) ≤ 0 := by decide
  have z1 : (0 : Int) ≤ 1 := by decide
  have n1 : ¬ ((0 : Int) = 1) := by decide
  have nf : ∀ f : Nat, ¬ (((f : Nat) : Int) < (0 : Int32).toInt) := fun f h => by omega
  exact ⟨⟨rfl, rfl⟩, ⟨e0, by decide, by decide⟩, ⟨e0, by decide, by decide⟩, fun _ _ => ⟨⟨fun h => h.elim, fun h => absurd h n1⟩, z0, z1⟩, fun _ _ => ⟨⟨fun h => h.elim, fun h => absurd h n1⟩, z0, z1⟩, fun _ _ => ⟨⟨fun ⟨f, h1, _⟩ => absurd h1 (nf f), fun h => absurd h n1⟩, z0, z1⟩, fun f h => absurd h (nf f), fun _ _ => e0⟩
