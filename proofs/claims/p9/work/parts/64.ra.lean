/-- what both sides keep, as numbers: 0 0 the hour, 0 2 whether there is an image, 0 3 storms, 0 4 tellings of wind, 0 5 of rain; 1 tides, 2 3 4 storms' from, to, more, 5 6 winds' hours, numbers, 7 8 rains'; the image's: 10 more -/
abbrev gz : Type := Nat → Nat → Int
def gu (g : gz) (c i : Nat) (v : Int) : gz := fun c' i' => if c' = c ∧ i' = i then v else g c' i'
theorem gu_s {g : gz} {c i : Nat} {v : Int} : gu g c i v c i = v := if_pos ⟨rfl, rfl⟩
theorem gu_o {g : gz} {c i c' i' : Nat} {v : Int} (h : ¬ (c' = c ∧ i' = i)) : gu g c i v c' i' = g c' i' := if_neg h
def hoC (n : Int) : Int := if 0 ≤ n ∧ n ≤ 240 then 0 else 1
theorem hoC_s (n : Int) : (hoC n = 1 ∧ ¬ (0 ≤ n ∧ n ≤ 240)) ∨ (hoC n = 0 ∧ (0 ≤ n ∧ n ≤ 240)) := by
  unfold hoC
  split <;> omega
def hoA (h n : Int) : Int := if h + n ≤ 40000 then h + n else 40000
theorem hoA_s (h n : Int) : (hoA h n = h + n ∧ h + n ≤ 40000) ∨ (hoA h n = 40000 ∧ 40000 < h + n) := by
  unfold hoA
  split <;> omega
def hoF (g : gz) (n : Int) : gz := if hoC n = 0 then gu g 0 0 (hoA (g 0 0) n) else g
theorem hoF_o {g : gz} {n : Int} {c i : Nat} (h : ¬ (c = 0 ∧ i = 0)) : hoF g n c i = g c i := by
  unfold hoF
  split
  · exact gu_o h
  · rfl
theorem hoF_h {g : gz} {n : Int} : (hoC n = 0 ∧ hoF g n 0 0 = hoA (g 0 0) n) ∨ (hoC n = 1 ∧ hoF g n 0 0 = g 0 0) := by
  unfold hoF
  split
  · exact Or.inl ⟨by assumption, gu_s⟩
  · exact Or.inr ⟨by have := hoC_s n; omega, rfl⟩
theorem hoF_2 {g : gz} {n : Int} : hoF g n 0 2 = g 0 2 := hoF_o (by decide)
def keA (g : gz) : Int := if g 0 0 = 0 then 0 else 1
theorem keA_s (g : gz) : (keA g = 0 ∧ g 0 0 = 0) ∨ (keA g = 1 ∧ g 0 0 ≠ 0) := by
  unfold keA
  split
  · exact Or.inl ⟨rfl, by assumption⟩
  · exact Or.inr ⟨rfl, by assumption⟩
def keF (g : gz) : gz := if g 0 0 = 0 then g else fun c i => if 10 ≤ c ∧ c ≤ 18 then g (c - 10) i else if c = 0 ∧ i = 2 then 1 else g c i
theorem keF_0 {g : gz} (h : g 0 0 = 0) : keF g = g := if_pos h
theorem keF_1 {g : gz} (h : g 0 0 ≠ 0) : keF g = fun c i => if 10 ≤ c ∧ c ≤ 18 then g (c - 10) i else if c = 0 ∧ i = 2 then 1 else g c i := if_neg h
theorem keF_m {g : gz} {c i : Nat} (h : c < 10) (h2 : ¬ (c = 0 ∧ i = 2)) : keF g c i = g c i := by
  by_cases q : g 0 0 = 0
  · rw [keF_0 q]
  · rw [keF_1 q]; simp only [if_neg (show ¬ (10 ≤ c ∧ c ≤ 18) by omega), if_neg h2]
theorem keF_i {g : gz} {c i : Nat} (q : g 0 0 ≠ 0) (h : c ≤ 8) : keF g (10 + c) i = g c i := by
  rw [keF_1 q]; simp only [if_pos (show 10 ≤ 10 + c ∧ 10 + c ≤ 18 by omega), show 10 + c - 10 = c by omega]
theorem keF_2 {g : gz} (q : g 0 0 ≠ 0) : keF g 0 2 = 1 := by
  rw [keF_1 q]; rfl
def baA (g : gz) : Int := if g 0 2 = 0 ∨ g 0 0 < g 10 0 then 0 else 1
theorem baA_s (g : gz) : (baA g = 0 ∧ (g 0 2 = 0 ∨ g 0 0 < g 10 0)) ∨ (baA g = 1 ∧ ¬ (g 0 2 = 0 ∨ g 0 0 < g 10 0)) := by
  unfold baA
  split
  · exact Or.inl ⟨rfl, by assumption⟩
  · exact Or.inr ⟨rfl, by assumption⟩
def baF (g : gz) : gz := if g 0 2 = 0 ∨ g 0 0 < g 10 0 then g else fun c i => if c ≤ 8 ∧ ¬ (c = 0 ∧ i = 2) then g (10 + c) i else g c i
theorem baF_0 {g : gz} (h : g 0 2 = 0 ∨ g 0 0 < g 10 0) : baF g = g := if_pos h
theorem baF_1 {g : gz} (h : ¬ (g 0 2 = 0 ∨ g 0 0 < g 10 0)) : baF g = fun c i => if c ≤ 8 ∧ ¬ (c = 0 ∧ i = 2) then g (10 + c) i else g c i := if_neg h
theorem baF_i {g : gz} {c i : Nat} (h : 9 ≤ c) : baF g c i = g c i := by
  by_cases q : g 0 2 = 0 ∨ g 0 0 < g 10 0
  · rw [baF_0 q]
  · rw [baF_1 q]; simp only [if_neg (show ¬ (c ≤ 8 ∧ ¬ (c = 0 ∧ i = 2)) by omega)]
theorem baF_m {g : gz} {c i : Nat} (q : ¬ (g 0 2 = 0 ∨ g 0 0 < g 10 0)) (h : c ≤ 8) (h2 : ¬ (c = 0 ∧ i = 2)) : baF g c i = g (10 + c) i := by
  rw [baF_1 q]; simp only [if_pos (show c ≤ 8 ∧ ¬ (c = 0 ∧ i = 2) from ⟨h, h2⟩)]
theorem baF_2 {g : gz} : baF g 0 2 = g 0 2 := by
  unfold baF
  split <;> rfl
/-- tide, storm, weather: codes, answers, what is then kept -/
def tiC (a l : Int) : Int := if 0 ≤ a ∧ a ≤ 11 ∧ -400 ≤ l ∧ l ≤ 400 then 0 else 1
theorem tiC_s (a l : Int) : (tiC a l = 1 ∧ ¬ (0 ≤ a ∧ a ≤ 11 ∧ -400 ≤ l ∧ l ≤ 400)) ∨ (tiC a l = 0 ∧ (0 ≤ a ∧ a ≤ 11 ∧ -400 ≤ l ∧ l ≤ 400)) := by
  unfold tiC
  split <;> omega
def tiF (g : gz) (a l : Int) : gz := if tiC a l = 0 then gu g 1 a.toNat l else g
theorem tiF_1 {g : gz} {a l : Int} (h : tiC a l = 0) : tiF g a l = gu g 1 a.toNat l := if_pos h
theorem tiF_0 {g : gz} {a l : Int} (h : tiC a l ≠ 0) : tiF g a l = g := if_neg h
def stC (f t m : Int) : Int := if 0 ≤ f ∧ f ≤ t ∧ t ≤ 40000 ∧ 1 ≤ m ∧ m ≤ 500 then 0 else 1
theorem stC_s (f t m : Int) : (stC f t m = 1 ∧ ¬ (0 ≤ f ∧ f ≤ t ∧ t ≤ 40000 ∧ 1 ≤ m ∧ m ≤ 500)) ∨ (stC f t m = 0 ∧ (0 ≤ f ∧ f ≤ t ∧ t ≤ 40000 ∧ 1 ≤ m ∧ m ≤ 500)) := by
  unfold stC
  split <;> omega
def stA (g : gz) : Int := if g 0 3 = 20 then -1 else g 0 3 + 1
theorem stA_s (g : gz) : (stA g = -1 ∧ g 0 3 = 20) ∨ (stA g = g 0 3 + 1 ∧ g 0 3 ≠ 20) := by
  unfold stA
  split <;> omega
def stF (g : gz) (f t m : Int) : gz := if stC f t m = 0 ∧ g 0 3 ≠ 20 then gu (gu (gu (gu g 2 (g 0 3).toNat f) 3 (g 0 3).toNat t) 4 (g 0 3).toNat m) 0 3 (g 0 3 + 1) else g
theorem stF_1 {g : gz} {f t m : Int} (h : stC f t m = 0) (k : g 0 3 ≠ 20) : stF g f t m = gu (gu (gu (gu g 2 (g 0 3).toNat f) 3 (g 0 3).toNat t) 4 (g 0 3).toNat m) 0 3 (g 0 3 + 1) := if_pos ⟨h, k⟩
theorem stF_0 {g : gz} {f t m : Int} (h : stC f t m ≠ 0 ∨ g 0 3 = 20) : stF g f t m = g := if_neg (by omega)
def weC (r h n : Int) : Int := if 0 ≤ h ∧ h ≤ 40000 ∧ ((r = 0 ∧ -1 ≤ n ∧ n ≤ 9) ∨ (r ≠ 0 ∧ 0 ≤ n ∧ n ≤ 20)) then 0 else 1
theorem weC_s (r h n : Int) : (weC r h n = 1 ∧ ¬ (0 ≤ h ∧ h ≤ 40000 ∧ ((r = 0 ∧ -1 ≤ n ∧ n ≤ 9) ∨ (r ≠ 0 ∧ 0 ≤ n ∧ n ≤ 20)))) ∨ (weC r h n = 0 ∧ (0 ≤ h ∧ h ≤ 40000 ∧ ((r = 0 ∧ -1 ≤ n ∧ n ≤ 9) ∨ (r ≠ 0 ∧ 0 ≤ n ∧ n ≤ 20)))) := by
  unfold weC
  split <;> omega
/-- the count that is told of (4 wind, 5 rain), its arrays -/
def weN (r : Int) : Nat := if r = 0 then 4 else 5
def weB (r : Int) : Nat := if r = 0 then 5 else 7
def weA (g : gz) (r : Int) : Int := if g 0 (weN r) = 60 then -1 else g 0 (weN r) + 1
theorem weA_s (g : gz) (r : Int) : (weA g r = -1 ∧ g 0 (weN r) = 60) ∨ (weA g r = g 0 (weN r) + 1 ∧ g 0 (weN r) ≠ 60) := by
  unfold weA
  split <;> omega
def weF (g : gz) (r h n : Int) : gz := if weC r h n = 0 ∧ g 0 (weN r) ≠ 60 then gu (gu (gu g (weB r) (g 0 (weN r)).toNat h) (weB r + 1) (g 0 (weN r)).toNat n) 0 (weN r) (g 0 (weN r) + 1) else g
theorem weF_1 {g : gz} {r h n : Int} (q : weC r h n = 0) (k : g 0 (weN r) ≠ 60) : weF g r h n = gu (gu (gu g (weB r) (g 0 (weN r)).toNat h) (weB r + 1) (g 0 (weN r)).toNat n) 0 (weN r) (g 0 (weN r) + 1) := if_pos ⟨q, k⟩
theorem weF_0 {g : gz} {r h n : Int} (q : weC r h n ≠ 0 ∨ g 0 (weN r) = 60) : weF g r h n = g := if_neg (by omega)
theorem tiF_i {g : gz} {a l : Int} {c i : Nat} (h : 9 ≤ c) : tiF g a l c i = g c i := by
  unfold tiF
  split
  · exact gu_o (by omega)
  · rfl
theorem stF_i {g : gz} {f t m : Int} {c i : Nat} (h : 9 ≤ c) : stF g f t m c i = g c i := by
  unfold stF
  split
  · rw [gu_o (by omega), gu_o (by omega), gu_o (by omega), gu_o (by omega)]
  · rfl
theorem weB_b (r : Int) : (r = 0 ∧ weB r = 5 ∧ weN r = 4) ∨ (r ≠ 0 ∧ weB r = 7 ∧ weN r = 5) := by
  unfold weB weN
  by_cases q : r = 0
  · exact Or.inl ⟨q, if_pos q, if_pos q⟩
  · exact Or.inr ⟨q, if_neg q, if_neg q⟩
theorem weF_i {g : gz} {r h n : Int} {c i : Nat} (q : 9 ≤ c) : weF g r h n c i = g c i := by
  have := weB_b r
  unfold weF
  split
  · rw [gu_o (by omega), gu_o (by omega), gu_o (by omega)]
  · rfl
theorem tiF_2 {g : gz} {a l : Int} : tiF g a l 0 2 = g 0 2 := by
  unfold tiF
  split
  · exact gu_o (by omega)
  · rfl
theorem stF_2 {g : gz} {f t m : Int} : stF g f t m 0 2 = g 0 2 := by
  unfold stF
  split
  · rw [gu_o (by omega), gu_o (by omega), gu_o (by omega), gu_o (by omega)]
  · rfl
theorem weF_2 {g : gz} {r h n : Int} : weF g r h n 0 2 = g 0 2 := by
  have := weB_b r
  unfold weF
  split
  · rw [gu_o (by omega), gu_o (by omega), gu_o (by omega)]
  · rfl
/-- no later telling is of the same hour -/
def Lst (hr : Nat → Int) (n : Int) (i : Nat) : Prop := ∀ j : Nat, i < j → ((j : Nat) : Int) < n → hr j ≠ hr i
/-- the hours as the class keeps them: one that was told anew later is -1 -/
def TL (V : Nat → Int32) (hr : Nat → Int) (n : Int) : Prop := ∀ i : Nat, ((i : Nat) : Int) < n → (((V i).toInt = hr i ∧ Lst hr n i) ∨ ((V i).toInt = -1 ∧ ¬ Lst hr n i)) ∧ 0 ≤ hr i ∧ hr i ≤ 40000
/-- the hours below k that are h are told anew -/
def tlV (V : Nat → Int32) (h : Int32) (k : Nat) : Nat → Int32 := fun j => if j < k ∧ V j = h then -1 else V j
theorem tl_0 {V : Nat → Int32} {h : Int32} {i : Nat} : V i = tlV V h 0 i := (if_neg (by omega)).symm
theorem tl_at {V : Nat → Int32} {h : Int32} {k : Nat} : tlV V h k k = V k := if_neg (by omega)
theorem tl_in {V : Nat → Int32} {h : Int32} {k i : Nat} (q : V k = h) : cu (tlV V h k) k (-1) i = tlV V h (k + 1) i := by
  by_cases e : i = k
  · rw [cu_s e]; exact (if_pos ⟨by omega, by rw [e]; exact q⟩).symm
  · rw [cu_o e]; unfold tlV
    by_cases z : i < k ∧ V i = h
    · rw [if_pos z, if_pos ⟨by omega, z.2⟩]
    · rw [if_neg z, if_neg (fun y => z ⟨by omega, y.2⟩)]
theorem tl_no {V : Nat → Int32} {h : Int32} {k i : Nat} (q : V k ≠ h) : tlV V h k i = tlV V h (k + 1) i := by
  unfold tlV
  by_cases z : i < k ∧ V i = h
  · rw [if_pos z, if_pos ⟨by omega, z.2⟩]
  · rw [if_neg z, if_neg (fun y => z ⟨by
      have : i ≠ k := fun e => q (by rw [← e]; exact y.2)
      omega, y.2⟩)]
theorem TL.tell {V : Nat → Int32} {hr : Nat → Int} {n h : Int32} (t : TL V hr n.toInt) (h0 : 0 ≤ n.toInt) (hh : 0 ≤ h.toInt ∧ h.toInt ≤ 40000) {hr1 : Nat → Int} (e1 : hr1 n.toNatClampNeg = h.toInt) (e2 : ∀ i, i ≠ n.toNatClampNeg → hr1 i = hr i) {n1 : Int} (en : n1 = n.toInt + 1) : TL (cu (tlV V h n.toNatClampNeg) n.toNatClampNeg h) hr1 n1 := by
  subst en
  have hn : ((n.toNatClampNeg : Nat) : Int) = n.toInt := tn_of rfl h0
  intro i hi
  by_cases e : i = n.toNatClampNeg
  · rw [cu_s e, e, e1]
    exact ⟨Or.inl ⟨rfl, fun j hj hj2 => by omega⟩, hh⟩
  · rw [cu_o e, e2 i e]
    have hin : ((i : Nat) : Int) < n.toInt := by omega
    obtain ⟨t1, t2⟩ := t i hin
    refine ⟨?_, t2⟩
    have hls : Lst hr1 (n.toInt + 1) i ↔ (Lst hr n.toInt i ∧ h.toInt ≠ hr i) := by
      constructor
      · intro q
        refine ⟨fun j hj hj2 => ?_, ?_⟩
        · have := q j hj (by omega)
          rw [e2 j (by omega), e2 i e] at this
          exact this
        · have := q n.toNatClampNeg (by omega) (by omega)
          rw [e1, e2 i e] at this
          exact this
      · rintro ⟨q1, q2⟩ j hj hj2
        rw [e2 i e]
        by_cases ej : j = n.toNatClampNeg
        · rw [ej, e1]; exact q2
        · rw [e2 j ej]; exact q1 j hj (by omega)
    rcases t1 with ⟨a, b⟩ | ⟨a, b⟩
    · by_cases q : V i = h
      · refine Or.inr ⟨?_, fun z => ?_⟩
        · show (tlV V h n.toNatClampNeg i).toInt = -1
          unfold tlV
          rw [if_pos ⟨by omega, q⟩]
          decide
        · have := (hls.mp z).2
          rw [q] at a
          exact this a
      · refine Or.inl ⟨?_, hls.mpr ⟨b, fun z => q (Int32.toInt_inj.mp (by rw [a, z]))⟩⟩
        show (tlV V h n.toNatClampNeg i).toInt = hr i
        unfold tlV
        rw [if_neg (fun y => q y.2)]
        exact a
    · refine Or.inr ⟨?_, fun z => b (hls.mp z).1⟩
      show (tlV V h n.toNatClampNeg i).toInt = -1
      unfold tlV
      rw [if_neg (fun y => by
        have z := congrArg Int32.toInt y.2
        omega)]
      exact a
def PS (g : gz) (o : Nat) (ho ns nw nr : Int32) (VT VF VO VM VH VN VR VQ : Nat → Int32) : Prop := (ho.toInt = g o 0 ∧ 0 ≤ ho.toInt ∧ ho.toInt ≤ 40000) ∧ (ns.toInt = g o 3 ∧ 0 ≤ ns.toInt ∧ ns.toInt ≤ 20) ∧ (nw.toInt = g o 4 ∧ 0 ≤ nw.toInt ∧ nw.toInt ≤ 60) ∧ (nr.toInt = g o 5 ∧ 0 ≤ nr.toInt ∧ nr.toInt ≤ 60) ∧ (∀ i, i < 12 → (VT i).toInt = g (o + 1) i ∧ (-400 ≤ g (o + 1) i ∧ g (o + 1) i ≤ 400)) ∧ (∀ i : Nat, ((i : Nat) : Int) < ns.toInt → (VF i).toInt = g (o + 2) i ∧ (VO i).toInt = g (o + 3) i ∧ (VM i).toInt = g (o + 4) i ∧ (0 ≤ g (o + 4) i ∧ g (o + 4) i ≤ 500)) ∧ TL VH (g (o + 5)) nw.toInt ∧ (∀ i : Nat, ((i : Nat) : Int) < nw.toInt → (VN i).toInt = g (o + 6) i ∧ -1 ≤ g (o + 6) i) ∧ TL VR (g (o + 7)) nr.toInt ∧ (∀ i : Nat, ((i : Nat) : Int) < nr.toInt → (VQ i).toInt = g (o + 8) i)
theorem PS.cong {g g1 : gz} {o o1 : Nat} {ho ns nw nr : Int32} {VT VF VO VM VH VN VR VQ : Nat → Int32} (h : PS g o ho ns nw nr VT VF VO VM VH VN VR VQ) (e : ∀ c i, c ≤ 8 → ¬ (c = 0 ∧ i = 2) → g1 (o1 + c) i = g (o + c) i) : PS g1 o1 ho ns nw nr VT VF VO VM VH VN VR VQ := by
  obtain ⟨p1, p2, p3, p4, p5, p6, p7, p8, p9, p10⟩ := h
  have f : ∀ c, 1 ≤ c → c ≤ 8 → g1 (o1 + c) = g (o + c) := fun c h1 h2 => funext (fun i => e c i h2 (by omega))
  have e0 : ∀ i, i ≠ 2 → g1 o1 i = g o i := fun i hi => e 0 i (by omega) (by omega)
  refine ⟨⟨by rw [e0 0 (by decide)]; exact p1.1, p1.2⟩, ⟨by rw [e0 3 (by decide)]; exact p2.1, p2.2⟩, ⟨by rw [e0 4 (by decide)]; exact p3.1, p3.2⟩, ⟨by rw [e0 5 (by decide)]; exact p4.1, p4.2⟩, ?_, ?_, ?_, ?_, ?_, ?_⟩
  · rw [f 1 (by decide) (by decide)]; exact p5
  · rw [f 2 (by decide) (by decide), f 3 (by decide) (by decide), f 4 (by decide) (by decide)]; exact p6
  · rw [f 5 (by decide) (by decide)]; exact p7
  · rw [f 6 (by decide) (by decide)]; exact p8
  · rw [f 7 (by decide) (by decide)]; exact p9
  · rw [f 8 (by decide) (by decide)]; exact p10
theorem PS.hours {g : gz} {ho ns nw nr h1 : Int32} {VT VF VO VM VH VN VR VQ : Nat → Int32} {n : Int} (h : PS g 0 ho ns nw nr VT VF VO VM VH VN VR VQ) (e : h1.toInt = hoF g n 0 0) (b : 0 ≤ h1.toInt ∧ h1.toInt ≤ 40000) : PS (hoF g n) 0 h1 ns nw nr VT VF VO VM VH VN VR VQ := by
  obtain ⟨p1, p2, p3, p4, p5, p6, p7, p8, p9, p10⟩ := h
  have f : ∀ c, 1 ≤ c → hoF g n c = g c := fun c h1 => funext (fun i => hoF_o (by omega))
  refine ⟨⟨e, b⟩, ⟨by rw [hoF_o (by decide)]; exact p2.1, p2.2⟩, ⟨by rw [hoF_o (by decide)]; exact p3.1, p3.2⟩, ⟨by rw [hoF_o (by decide)]; exact p4.1, p4.2⟩, ?_, ?_, ?_, ?_, ?_, ?_⟩
  · rw [f (0 + 1) (by decide)]; exact p5
  · rw [f (0 + 2) (by decide), f (0 + 3) (by decide), f (0 + 4) (by decide)]; exact p6
  · rw [f (0 + 5) (by decide)]; exact p7
  · rw [f (0 + 6) (by decide)]; exact p8
  · rw [f (0 + 7) (by decide)]; exact p9
  · rw [f (0 + 8) (by decide)]; exact p10
theorem PS.ihours {g : gz} {ho ns nw nr : Int32} {VT VF VO VM VH VN VR VQ : Nat → Int32} {n : Int} (h : PS g 10 ho ns nw nr VT VF VO VM VH VN VR VQ) : PS (hoF g n) 10 ho ns nw nr VT VF VO VM VH VN VR VQ := h.cong (fun c i _ _ => hoF_o (by omega))
theorem PS.itide {g : gz} {ho ns nw nr : Int32} {VT VF VO VM VH VN VR VQ : Nat → Int32} {a l : Int} (h : PS g 10 ho ns nw nr VT VF VO VM VH VN VR VQ) : PS (tiF g a l) 10 ho ns nw nr VT VF VO VM VH VN VR VQ := h.cong (fun c i _ _ => tiF_i (by omega))
theorem PS.istorm {g : gz} {ho ns nw nr : Int32} {VT VF VO VM VH VN VR VQ : Nat → Int32} {a l m : Int} (h : PS g 10 ho ns nw nr VT VF VO VM VH VN VR VQ) : PS (stF g a l m) 10 ho ns nw nr VT VF VO VM VH VN VR VQ := h.cong (fun c i _ _ => stF_i (by omega))
theorem PS.iweather {g : gz} {ho ns nw nr : Int32} {VT VF VO VM VH VN VR VQ : Nat → Int32} {a l m : Int} (h : PS g 10 ho ns nw nr VT VF VO VM VH VN VR VQ) : PS (weF g a l m) 10 ho ns nw nr VT VF VO VM VH VN VR VQ := h.cong (fun c i _ _ => weF_i (by omega))
theorem PS.keep {g : gz} {ho ns nw nr : Int32} {VT VF VO VM VH VN VR VQ : Nat → Int32} (h : PS g 0 ho ns nw nr VT VF VO VM VH VN VR VQ) : PS (keF g) 0 ho ns nw nr VT VF VO VM VH VN VR VQ := h.cong (fun c i hc hi => keF_m (by omega) (by omega))
theorem PS.ikeep {g : gz} {ho ns nw nr : Int32} {VT VF VO VM VH VN VR VQ : Nat → Int32} (h : PS g 0 ho ns nw nr VT VF VO VM VH VN VR VQ) (q : g 0 0 ≠ 0) : PS (keF g) 10 ho ns nw nr VT VF VO VM VH VN VR VQ := h.cong (fun c i hc _ => by rw [keF_i q hc, Nat.zero_add])
theorem PS.back {g : gz} {ho ns nw nr : Int32} {VT VF VO VM VH VN VR VQ : Nat → Int32} (h : PS g 10 ho ns nw nr VT VF VO VM VH VN VR VQ) (q : ¬ (g 0 2 = 0 ∨ g 0 0 < g 10 0)) : PS (baF g) 0 ho ns nw nr VT VF VO VM VH VN VR VQ := h.cong (fun c i hc hi => by rw [Nat.zero_add]; exact baF_m q hc hi)
theorem PS.iback {g : gz} {ho ns nw nr : Int32} {VT VF VO VM VH VN VR VQ : Nat → Int32} (h : PS g 10 ho ns nw nr VT VF VO VM VH VN VR VQ) : PS (baF g) 10 ho ns nw nr VT VF VO VM VH VN VR VQ := h.cong (fun c i _ _ => baF_i (by omega))
theorem PS.tide {g : gz} {ho ns nw nr p0 p1 : Int32} {VT VF VO VM VH VN VR VQ : Nat → Int32} (h : PS g 0 ho ns nw nr VT VF VO VM VH VN VR VQ) (q : tiC p0.toInt p1.toInt = 0) : PS (tiF g p0.toInt p1.toInt) 0 ho ns nw nr (cu VT p0.toNatClampNeg p1) VF VO VM VH VN VR VQ := by
  obtain ⟨k1, k2, k3, k4, k5, k6, k7, k8, k9, k10⟩ := h
  rw [tiF_1 q]
  have f : ∀ c, c ≠ 1 → gu g 1 p0.toInt.toNat p1.toInt c = g c := fun c h1 => funext (fun i => gu_o (by omega))
  refine ⟨by rw [f 0 (by decide)]; exact k1, by rw [f 0 (by decide)]; exact k2, by rw [f 0 (by decide)]; exact k3, by rw [f 0 (by decide)]; exact k4, fun i hi => ?_, by rw [f (0 + 2) (by decide), f (0 + 3) (by decide), f (0 + 4) (by decide)]; exact k6, by rw [f (0 + 5) (by decide)]; exact k7, by rw [f (0 + 6) (by decide)]; exact k8, by rw [f (0 + 7) (by decide)]; exact k9, by rw [f (0 + 8) (by decide)]; exact k10⟩
  have q1 := tiC_s p0.toInt p1.toInt
  by_cases e : i = p0.toNatClampNeg
  · rw [cu_s e, e, show gu g 1 p0.toInt.toNat p1.toInt (0 + 1) p0.toNatClampNeg = p1.toInt from gu_s]; exact ⟨rfl, by omega, by omega⟩
  · rw [cu_o e, show gu g 1 p0.toInt.toNat p1.toInt (0 + 1) i = g 1 i from gu_o (fun z => e z.2)]; exact k5 i hi
theorem PS.storm {g : gz} {ho ns nw nr s1 p0 p1 p2 : Int32} {VT VF VO VM VH VN VR VQ : Nat → Int32} (h : PS g 0 ho ns nw nr VT VF VO VM VH VN VR VQ) (q : stC p0.toInt p1.toInt p2.toInt = 0) (k : g 0 3 ≠ 20) (e1 : s1.toInt = ns.toInt + 1) : PS (stF g p0.toInt p1.toInt p2.toInt) 0 ho s1 nw nr VT (cu VF ns.toNatClampNeg p0) (cu VO ns.toNatClampNeg p1) (cu VM ns.toNatClampNeg p2) VH VN VR VQ := by
  obtain ⟨k1, k2, k3, k4, k5, k6, k7, k8, k9, k10⟩ := h
  rw [stF_1 q k]
  have hn : ((ns.toNatClampNeg : Nat) : Int) = ns.toInt := tn_of rfl k2.2.1
  have hm : (g 0 3).toNat = ns.toNatClampNeg := by rw [← k2.1]; rfl
  rw [hm]
  have f : ∀ c, c ≠ 0 → c ≠ 2 → c ≠ 3 → c ≠ 4 → gu (gu (gu (gu g 2 ns.toNatClampNeg p0.toInt) 3 ns.toNatClampNeg p1.toInt) 4 ns.toNatClampNeg p2.toInt) 0 3 (g 0 3 + 1) c = g c := fun c a1 a2 a3 a4 => funext (fun i => by rw [gu_o (by omega), gu_o (by omega), gu_o (by omega), gu_o (by omega)])
  have z : ∀ i, i ≠ 3 → gu (gu (gu (gu g 2 ns.toNatClampNeg p0.toInt) 3 ns.toNatClampNeg p1.toInt) 4 ns.toNatClampNeg p2.toInt) 0 3 (g 0 3 + 1) 0 i = g 0 i := fun i hi => by rw [gu_o (by omega), gu_o (by omega), gu_o (by omega), gu_o (by omega)]
  refine ⟨⟨by rw [z 0 (by decide)]; exact k1.1, k1.2⟩, ⟨by rw [gu_s]; omega, by omega, by omega⟩, ⟨by rw [z 4 (by decide)]; exact k3.1, k3.2⟩, ⟨by rw [z 5 (by decide)]; exact k4.1, k4.2⟩, by rw [f (0 + 1) (by decide) (by decide) (by decide) (by decide)]; exact k5, fun i hi => ?_, by rw [f (0 + 5) (by decide) (by decide) (by decide) (by decide)]; exact k7, by rw [f (0 + 6) (by decide) (by decide) (by decide) (by decide)]; exact k8, by rw [f (0 + 7) (by decide) (by decide) (by decide) (by decide)]; exact k9, by rw [f (0 + 8) (by decide) (by decide) (by decide) (by decide)]; exact k10⟩
  by_cases e : i = ns.toNatClampNeg
  · subst e
    rw [cu_s rfl, cu_s rfl, cu_s rfl]
    refine ⟨?_, ?_, ?_⟩
    · rw [gu_o (by omega), gu_o (by omega), gu_o (by omega)]; exact gu_s.symm
    · rw [gu_o (by omega), gu_o (by omega)]; exact gu_s.symm
    · have y : gu (gu (gu g 2 ns.toNatClampNeg p0.toInt) 3 ns.toNatClampNeg p1.toInt) 4 ns.toNatClampNeg p2.toInt (0 + 4) ns.toNatClampNeg = p2.toInt := gu_s
      have q1 := stC_s p0.toInt p1.toInt p2.toInt
      rw [gu_o (by omega), y]
      exact ⟨rfl, by omega, by omega⟩
  · have a : ∀ c, gu (gu (gu (gu g 2 ns.toNatClampNeg p0.toInt) 3 ns.toNatClampNeg p1.toInt) 4 ns.toNatClampNeg p2.toInt) 0 3 (g 0 3 + 1) (0 + c + 2) i = g (0 + c + 2) i := fun c => by rw [gu_o (by omega), gu_o (fun y => e y.2), gu_o (fun y => e y.2), gu_o (fun y => e y.2)]
    rw [cu_o e, cu_o e, cu_o e, a 0, a 1, a 2]
    exact k6 i (by omega)
theorem PS.wind {g : gz} {ho ns nw nr w1 p1 p2 : Int32} {r : Int} {VT VF VO VM VH VN VR VQ : Nat → Int32} (h : PS g 0 ho ns nw nr VT VF VO VM VH VN VR VQ) (hr : r = 0) (q : weC r p1.toInt p2.toInt = 0) (k : nw.toInt ≠ 60) (e1 : w1.toInt = nw.toInt + 1) : PS (weF g r p1.toInt p2.toInt) 0 ho ns w1 nr VT VF VO VM (cu (tlV VH p1 nw.toNatClampNeg) nw.toNatClampNeg p1) (cu VN nw.toNatClampNeg p2) VR VQ := by
  obtain ⟨k1, k2, k3, k4, k5, k6, k7, k8, k9, k10⟩ := h
  have wb : weB r = 5 := if_pos hr
  have wn : weN r = 4 := if_pos hr
  have q9 := weC_s r p1.toInt p2.toInt
  rw [weF_1 q (by rw [wn]; omega), wb, wn]
  have hn : ((nw.toNatClampNeg : Nat) : Int) = nw.toInt := tn_of rfl k3.2.1
  have hm : (g 0 4).toNat = nw.toNatClampNeg := by rw [← k3.1]; rfl
  rw [hm]
  have f : ∀ c, c ≠ 0 → c ≠ 5 → c ≠ 6 → gu (gu (gu g 5 nw.toNatClampNeg p1.toInt) (5 + 1) nw.toNatClampNeg p2.toInt) 0 4 (g 0 4 + 1) c = g c := fun c a1 a2 a3 => funext (fun i => by rw [gu_o (by omega), gu_o (by omega), gu_o (by omega)])
  have z : ∀ i, i ≠ 4 → gu (gu (gu g 5 nw.toNatClampNeg p1.toInt) (5 + 1) nw.toNatClampNeg p2.toInt) 0 4 (g 0 4 + 1) 0 i = g 0 i := fun i hi => by rw [gu_o (by omega), gu_o (by omega), gu_o (by omega)]
  refine ⟨⟨by rw [z 0 (by decide)]; exact k1.1, k1.2⟩, ⟨by rw [z 3 (by decide)]; exact k2.1, k2.2⟩, ⟨by rw [gu_s]; omega, by omega, by omega⟩, ⟨by rw [z 5 (by decide)]; exact k4.1, k4.2⟩, by rw [f (0 + 1) (by decide) (by decide) (by decide)]; exact k5, by rw [f (0 + 2) (by decide) (by decide) (by decide), f (0 + 3) (by decide) (by decide) (by decide), f (0 + 4) (by decide) (by decide) (by decide)]; exact k6, ?_, fun i hi => ?_, by rw [f (0 + 7) (by decide) (by decide) (by decide)]; exact k9, by rw [f (0 + 8) (by decide) (by decide) (by decide)]; exact k10⟩
  · exact k7.tell k3.2.1 (by omega) (by rw [gu_o (by omega), gu_o (by omega)]; exact gu_s) (fun i hi => by rw [gu_o (by omega), gu_o (by omega), gu_o (by omega)]) e1
  · by_cases e : i = nw.toNatClampNeg
    · subst e
      have y : gu (gu g 5 nw.toNatClampNeg p1.toInt) (5 + 1) nw.toNatClampNeg p2.toInt (0 + 6) nw.toNatClampNeg = p2.toInt := gu_s
      rw [cu_s rfl, gu_o (by omega), y]
      exact ⟨rfl, by omega⟩
    · rw [cu_o e, gu_o (by omega), gu_o (by omega), gu_o (by omega)]
      exact k8 i (by omega)
theorem PS.rain {g : gz} {ho ns nw nr w1 p1 p2 : Int32} {r : Int} {VT VF VO VM VH VN VR VQ : Nat → Int32} (h : PS g 0 ho ns nw nr VT VF VO VM VH VN VR VQ) (hr : r ≠ 0) (q : weC r p1.toInt p2.toInt = 0) (k : nr.toInt ≠ 60) (e1 : w1.toInt = nr.toInt + 1) : PS (weF g r p1.toInt p2.toInt) 0 ho ns nw w1 VT VF VO VM VH VN (cu (tlV VR p1 nr.toNatClampNeg) nr.toNatClampNeg p1) (cu VQ nr.toNatClampNeg p2) := by
  obtain ⟨k1, k2, k3, k4, k5, k6, k7, k8, k9, k10⟩ := h
  have wb : weB r = 7 := if_neg hr
  have wn : weN r = 5 := if_neg hr
  have q9 := weC_s r p1.toInt p2.toInt
  rw [weF_1 q (by rw [wn]; omega), wb, wn]
  have hn : ((nr.toNatClampNeg : Nat) : Int) = nr.toInt := tn_of rfl k4.2.1
  have hm : (g 0 5).toNat = nr.toNatClampNeg := by rw [← k4.1]; rfl
  rw [hm]
  have f : ∀ c, c ≠ 0 → c ≠ 7 → c ≠ 8 → gu (gu (gu g 7 nr.toNatClampNeg p1.toInt) (7 + 1) nr.toNatClampNeg p2.toInt) 0 5 (g 0 5 + 1) c = g c := fun c a1 a2 a3 => funext (fun i => by rw [gu_o (by omega), gu_o (by omega), gu_o (by omega)])
  have z : ∀ i, i ≠ 5 → gu (gu (gu g 7 nr.toNatClampNeg p1.toInt) (7 + 1) nr.toNatClampNeg p2.toInt) 0 5 (g 0 5 + 1) 0 i = g 0 i := fun i hi => by rw [gu_o (by omega), gu_o (by omega), gu_o (by omega)]
  refine ⟨⟨by rw [z 0 (by decide)]; exact k1.1, k1.2⟩, ⟨by rw [z 3 (by decide)]; exact k2.1, k2.2⟩, ⟨by rw [z 4 (by decide)]; exact k3.1, k3.2⟩, ⟨by rw [gu_s]; omega, by omega, by omega⟩, by rw [f (0 + 1) (by decide) (by decide) (by decide)]; exact k5, by rw [f (0 + 2) (by decide) (by decide) (by decide), f (0 + 3) (by decide) (by decide) (by decide), f (0 + 4) (by decide) (by decide) (by decide)]; exact k6, by rw [f (0 + 5) (by decide) (by decide) (by decide)]; exact k7, by rw [f (0 + 6) (by decide) (by decide) (by decide)]; exact k8, ?_, fun i hi => ?_⟩
  · exact k9.tell k4.2.1 (by omega) (by rw [gu_o (by omega), gu_o (by omega)]; exact gu_s) (fun i hi => by rw [gu_o (by omega), gu_o (by omega), gu_o (by omega)]) e1
  · by_cases e : i = nr.toNatClampNeg
    · subst e
      rw [cu_s rfl, gu_o (by omega)]; exact gu_s.symm
    · rw [cu_o e, gu_o (by omega), gu_o (by omega), gu_o (by omega)]
      exact k10 i (by omega)
/-- the reference's sky -/
def SU (U : Nat → Nat) (j : Nat) : Int := ((U j : Nat) : Int) - 1000
def RW (g : gz) (o : Nat) (U : Nat → Nat) : Prop := (SU U 42 = g o 3 ∧ SU U 103 = g o 4 ∧ SU U 224 = g o 5) ∧ (∀ i, i < 12 → SU U (30 + i) = g (o + 1) i) ∧ (∀ i, i < 20 → SU U (43 + 3 * i) = g (o + 2) i ∧ SU U (44 + 3 * i) = g (o + 3) i ∧ SU U (45 + 3 * i) = g (o + 4) i) ∧ (∀ i, i < 60 → SU U (104 + 2 * i) = g (o + 5) i ∧ SU U (105 + 2 * i) = g (o + 6) i ∧ SU U (225 + 2 * i) = g (o + 7) i ∧ SU U (226 + 2 * i) = g (o + 8) i)
theorem RW.cong {g g1 : gz} {o o1 : Nat} {U : Nat → Nat} (h : RW g o U) (e : ∀ c i, c ≤ 8 → ¬ (c = 0 ∧ (i = 2 ∨ i = 0)) → g1 (o1 + c) i = g (o + c) i) : RW g1 o1 U := by
  obtain ⟨h1, h2, h3, h4⟩ := h
  have f : ∀ c, 1 ≤ c → c ≤ 8 → g1 (o1 + c) = g (o + c) := fun c a b => funext (fun i => e c i b (by omega))
  have e0 : ∀ i, 3 ≤ i → g1 o1 i = g o i := fun i hi => e 0 i (by omega) (by omega)
  refine ⟨⟨by rw [e0 3 (by decide)]; exact h1.1, by rw [e0 4 (by decide)]; exact h1.2.1, by rw [e0 5 (by decide)]; exact h1.2.2⟩, by rw [f 1 (by decide) (by decide)]; exact h2, by rw [f 2 (by decide) (by decide), f 3 (by decide) (by decide), f 4 (by decide) (by decide)]; exact h3, by rw [f 5 (by decide) (by decide), f 6 (by decide) (by decide), f 7 (by decide) (by decide), f 8 (by decide) (by decide)]; exact h4⟩
theorem RW.same {g : gz} {o : Nat} {U U1 : Nat → Nat} (h : RW g o U) (e : ∀ w, 30 ≤ w → U1 w = U w) : RW g o U1 := by
  have s : ∀ j, 30 ≤ j → SU U1 j = SU U j := fun j hj => by unfold SU; rw [e j hj]
  obtain ⟨h1, h2, h3, h4⟩ := h
  exact ⟨⟨(s _ (by omega)).trans h1.1, (s _ (by omega)).trans h1.2.1, (s _ (by omega)).trans h1.2.2⟩, fun i hi => (s _ (by omega)).trans (h2 i hi), fun i hi => ⟨(s _ (by omega)).trans (h3 i hi).1, (s _ (by omega)).trans (h3 i hi).2.1, (s _ (by omega)).trans (h3 i hi).2.2⟩, fun i hi => ⟨(s _ (by omega)).trans (h4 i hi).1, (s _ (by omega)).trans (h4 i hi).2.1, (s _ (by omega)).trans (h4 i hi).2.2.1, (s _ (by omega)).trans (h4 i hi).2.2.2⟩⟩
theorem RW.tide {g : gz} {U U1 : Nat → Nat} {a l : Int} (h : RW g 0 U) (q : tiC a l = 0) (e1 : SU U1 (30 + a.toNat) = l) (e : ∀ j, 30 ≤ j → j ≠ 30 + a.toNat → SU U1 j = SU U j) : RW (tiF g a l) 0 U1 := by
  obtain ⟨h1, h2, h3, h4⟩ := h
  have z := tiC_s a l
  rw [tiF_1 q]
  refine ⟨⟨?_, ?_, ?_⟩, fun i hi => ?_, fun i hi => ⟨?_, ?_, ?_⟩, fun i hi => ⟨?_, ?_, ?_, ?_⟩⟩
  · rw [e _ (by omega) (by omega), gu_o (by omega)]; exact h1.1
  · rw [e _ (by omega) (by omega), gu_o (by omega)]; exact h1.2.1
  · rw [e _ (by omega) (by omega), gu_o (by omega)]; exact h1.2.2
  · by_cases k : i = a.toNat
    · subst k; rw [e1]; exact gu_s.symm
    · rw [e _ (by omega) (by omega), gu_o (by omega)]; exact h2 i hi
  · rw [e _ (by omega) (by omega), gu_o (by omega)]; exact (h3 i hi).1
  · rw [e _ (by omega) (by omega), gu_o (by omega)]; exact (h3 i hi).2.1
  · rw [e _ (by omega) (by omega), gu_o (by omega)]; exact (h3 i hi).2.2
  · rw [e _ (by omega) (by omega), gu_o (by omega)]; exact (h4 i hi).1
  · rw [e _ (by omega) (by omega), gu_o (by omega)]; exact (h4 i hi).2.1
  · rw [e _ (by omega) (by omega), gu_o (by omega)]; exact (h4 i hi).2.2.1
  · rw [e _ (by omega) (by omega), gu_o (by omega)]; exact (h4 i hi).2.2.2
theorem RW.storm {g : gz} {U U1 : Nat → Nat} {a b m : Int} {n : Nat} (h : RW g 0 U) (q : stC a b m = 0) (hn : SU U 42 = ((n : Nat) : Int)) (h20 : n < 20) (e0 : SU U1 42 = ((n : Nat) : Int) + 1) (e1 : SU U1 (43 + 3 * n) = a) (e2 : SU U1 (44 + 3 * n) = b) (e3 : SU U1 (45 + 3 * n) = m) (e : ∀ j, 30 ≤ j → j ≠ 42 → j ≠ 43 + 3 * n → j ≠ 44 + 3 * n → j ≠ 45 + 3 * n → SU U1 j = SU U j) : RW (stF g a b m) 0 U1 := by
  obtain ⟨h1, h2, h3, h4⟩ := h
  have hg : g 0 3 = ((n : Nat) : Int) := by rw [← h1.1]; exact hn
  rw [stF_1 q (by omega), hg, Int.toNat_natCast]
  have z : ∀ c i, ¬ (c = 0 ∧ i = 3) → ¬ (c = 2 ∧ i = n) → ¬ (c = 3 ∧ i = n) → ¬ (c = 4 ∧ i = n) → gu (gu (gu (gu g 2 n a) 3 n b) 4 n m) 0 3 (((n : Nat) : Int) + 1) c i = g c i := fun c i a1 a2 a3 a4 => by rw [gu_o (by omega), gu_o (by omega), gu_o (by omega), gu_o (by omega)]
  refine ⟨⟨?_, ?_, ?_⟩, fun i hi => ?_, fun i hi => ?_, fun i hi => ⟨?_, ?_, ?_, ?_⟩⟩
  · rw [e0]; exact gu_s.symm
  · rw [e _ (by omega) (by omega) (by omega) (by omega) (by omega), z _ _ (by omega) (by omega) (by omega) (by omega)]; exact h1.2.1
  · rw [e _ (by omega) (by omega) (by omega) (by omega) (by omega), z _ _ (by omega) (by omega) (by omega) (by omega)]; exact h1.2.2
  · rw [e _ (by omega) (by omega) (by omega) (by omega) (by omega), z _ _ (by omega) (by omega) (by omega) (by omega)]; exact h2 i hi
  · by_cases k : i = n
    · subst k
      refine ⟨?_, ?_, ?_⟩
      · rw [e1, gu_o (by omega), gu_o (by omega), gu_o (by omega)]; exact gu_s.symm
      · rw [e2, gu_o (by omega), gu_o (by omega)]; exact gu_s.symm
      · rw [e3, gu_o (by omega)]; exact gu_s.symm
    · rw [e _ (by omega) (by omega) (by omega) (by omega) (by omega), e _ (by omega) (by omega) (by omega) (by omega) (by omega), e _ (by omega) (by omega) (by omega) (by omega) (by omega), z _ _ (by omega) (by omega) (by omega) (by omega), z _ _ (by omega) (by omega) (by omega) (by omega), z _ _ (by omega) (by omega) (by omega) (by omega)]
      exact h3 i hi
  · rw [e _ (by omega) (by omega) (by omega) (by omega) (by omega), z _ _ (by omega) (by omega) (by omega) (by omega)]; exact (h4 i hi).1
  · rw [e _ (by omega) (by omega) (by omega) (by omega) (by omega), z _ _ (by omega) (by omega) (by omega) (by omega)]; exact (h4 i hi).2.1
  · rw [e _ (by omega) (by omega) (by omega) (by omega) (by omega), z _ _ (by omega) (by omega) (by omega) (by omega)]; exact (h4 i hi).2.2.1
  · rw [e _ (by omega) (by omega) (by omega) (by omega) (by omega), z _ _ (by omega) (by omega) (by omega) (by omega)]; exact (h4 i hi).2.2.2
theorem RW.wind {g : gz} {U U1 : Nat → Nat} {r a b : Int} {n : Nat} (h : RW g 0 U) (hr : r = 0) (q : weC r a b = 0) (hn : SU U 103 = ((n : Nat) : Int)) (h60 : n < 60) (e0 : SU U1 103 = ((n : Nat) : Int) + 1) (e1 : SU U1 (104 + 2 * n) = a) (e2 : SU U1 (105 + 2 * n) = b) (e : ∀ j, 30 ≤ j → j ≠ 103 → j ≠ 104 + 2 * n → j ≠ 105 + 2 * n → SU U1 j = SU U j) : RW (weF g r a b) 0 U1 := by
  obtain ⟨h1, h2, h3, h4⟩ := h
  have wb : weB r = 5 := if_pos hr
  have wn : weN r = 4 := if_pos hr
  have hg : g 0 4 = ((n : Nat) : Int) := by rw [← h1.2.1]; exact hn
  rw [weF_1 q (by rw [wn]; omega), wb, wn, hg, Int.toNat_natCast]
  have z : ∀ c i, ¬ (c = 0 ∧ i = 4) → ¬ (c = 5 ∧ i = n) → ¬ (c = 6 ∧ i = n) → gu (gu (gu g 5 n a) (5 + 1) n b) 0 4 (((n : Nat) : Int) + 1) c i = g c i := fun c i a1 a2 a3 => by rw [gu_o (by omega), gu_o (by omega), gu_o (by omega)]
  refine ⟨⟨?_, ?_, ?_⟩, fun i hi => ?_, fun i hi => ⟨?_, ?_, ?_⟩, fun i hi => ⟨?_, ?_, ?_, ?_⟩⟩
  · rw [e _ (by omega) (by omega) (by omega) (by omega), z _ _ (by omega) (by omega) (by omega)]; exact h1.1
  · rw [e0]; exact gu_s.symm
  · rw [e _ (by omega) (by omega) (by omega) (by omega), z _ _ (by omega) (by omega) (by omega)]; exact h1.2.2
  · rw [e _ (by omega) (by omega) (by omega) (by omega), z _ _ (by omega) (by omega) (by omega)]; exact h2 i hi
  · rw [e _ (by omega) (by omega) (by omega) (by omega), z _ _ (by omega) (by omega) (by omega)]; exact (h3 i hi).1
  · rw [e _ (by omega) (by omega) (by omega) (by omega), z _ _ (by omega) (by omega) (by omega)]; exact (h3 i hi).2.1
  · rw [e _ (by omega) (by omega) (by omega) (by omega), z _ _ (by omega) (by omega) (by omega)]; exact (h3 i hi).2.2
  · by_cases k : i = n
    · subst k; rw [e1, gu_o (by omega), gu_o (by omega)]; exact gu_s.symm
    · rw [e _ (by omega) (by omega) (by omega) (by omega), z _ _ (by omega) (by omega) (by omega)]; exact (h4 i hi).1
  · by_cases k : i = n
    · subst k; rw [e2, gu_o (by omega)]; exact gu_s.symm
    · rw [e _ (by omega) (by omega) (by omega) (by omega), z _ _ (by omega) (by omega) (by omega)]; exact (h4 i hi).2.1
  · rw [e _ (by omega) (by omega) (by omega) (by omega), z _ _ (by omega) (by omega) (by omega)]; exact (h4 i hi).2.2.1
  · rw [e _ (by omega) (by omega) (by omega) (by omega), z _ _ (by omega) (by omega) (by omega)]; exact (h4 i hi).2.2.2
theorem RW.rain {g : gz} {U U1 : Nat → Nat} {r a b : Int} {n : Nat} (h : RW g 0 U) (hr : r ≠ 0) (q : weC r a b = 0) (hn : SU U 224 = ((n : Nat) : Int)) (h60 : n < 60) (e0 : SU U1 224 = ((n : Nat) : Int) + 1) (e1 : SU U1 (225 + 2 * n) = a) (e2 : SU U1 (226 + 2 * n) = b) (e : ∀ j, 30 ≤ j → j ≠ 224 → j ≠ 225 + 2 * n → j ≠ 226 + 2 * n → SU U1 j = SU U j) : RW (weF g r a b) 0 U1 := by
  obtain ⟨h1, h2, h3, h4⟩ := h
  have wb : weB r = 7 := if_neg hr
  have wn : weN r = 5 := if_neg hr
  have hg : g 0 5 = ((n : Nat) : Int) := by rw [← h1.2.2]; exact hn
  rw [weF_1 q (by rw [wn]; omega), wb, wn, hg, Int.toNat_natCast]
  have z : ∀ c i, ¬ (c = 0 ∧ i = 5) → ¬ (c = 7 ∧ i = n) → ¬ (c = 8 ∧ i = n) → gu (gu (gu g 7 n a) (7 + 1) n b) 0 5 (((n : Nat) : Int) + 1) c i = g c i := fun c i a1 a2 a3 => by rw [gu_o (by omega), gu_o (by omega), gu_o (by omega)]
  refine ⟨⟨?_, ?_, ?_⟩, fun i hi => ?_, fun i hi => ⟨?_, ?_, ?_⟩, fun i hi => ⟨?_, ?_, ?_, ?_⟩⟩
  · rw [e _ (by omega) (by omega) (by omega) (by omega), z _ _ (by omega) (by omega) (by omega)]; exact h1.1
  · rw [e _ (by omega) (by omega) (by omega) (by omega), z _ _ (by omega) (by omega) (by omega)]; exact h1.2.1
  · rw [e0]; exact gu_s.symm
  · rw [e _ (by omega) (by omega) (by omega) (by omega), z _ _ (by omega) (by omega) (by omega)]; exact h2 i hi
  · rw [e _ (by omega) (by omega) (by omega) (by omega), z _ _ (by omega) (by omega) (by omega)]; exact (h3 i hi).1
  · rw [e _ (by omega) (by omega) (by omega) (by omega), z _ _ (by omega) (by omega) (by omega)]; exact (h3 i hi).2.1
  · rw [e _ (by omega) (by omega) (by omega) (by omega), z _ _ (by omega) (by omega) (by omega)]; exact (h3 i hi).2.2
  · rw [e _ (by omega) (by omega) (by omega) (by omega), z _ _ (by omega) (by omega) (by omega)]; exact (h4 i hi).1
  · rw [e _ (by omega) (by omega) (by omega) (by omega), z _ _ (by omega) (by omega) (by omega)]; exact (h4 i hi).2.1
  · by_cases k : i = n
    · subst k; rw [e1, gu_o (by omega), gu_o (by omega)]; exact gu_s.symm
    · rw [e _ (by omega) (by omega) (by omega) (by omega), z _ _ (by omega) (by omega) (by omega)]; exact (h4 i hi).2.2.1
  · by_cases k : i = n
    · subst k; rw [e2, gu_o (by omega)]; exact gu_s.symm
    · rw [e _ (by omega) (by omega) (by omega) (by omega), z _ _ (by omega) (by omega) (by omega)]; exact (h4 i hi).2.2.2
def PRr (g : gz) (wH vH : Int) (wU vU : Nat → Nat) (gn : Int32) : Prop := (wH = g 0 0 ∧ vH = g 10 0) ∧ (gn.toInt = g 0 2 ∧ 0 ≤ gn.toInt ∧ gn.toInt ≤ 1) ∧ RW g 0 wU ∧ RW g 10 vU
theorem PRr.hours {g : gz} {wH vH h1 : Int} {wU vU : Nat → Nat} {gn : Int32} {n : Int} (h : PRr g wH vH wU vU gn) (e : h1 = hoF g n 0 0) : PRr (hoF g n) h1 vH wU vU gn := ⟨⟨e, by rw [hoF_o (by decide)]; exact h.1.2⟩, ⟨by rw [hoF_2]; exact h.2.1.1, h.2.1.2⟩, h.2.2.1.cong (fun c i _ hi => hoF_o (by omega)), h.2.2.2.cong (fun c i _ _ => hoF_o (by omega))⟩
theorem PRr.keep {g : gz} {wH vH : Int} {wU vU : Nat → Nat} {gn g1 : Int32} (h : PRr g wH vH wU vU gn) (q : wH ≠ 0) (e : g1.toInt = 1) : PRr (keF g) wH wH wU wU g1 := by
  have q0 : g 0 0 ≠ 0 := by rw [← h.1.1]; exact q
  exact ⟨⟨by rw [keF_m (by decide) (by decide)]; exact h.1.1, by rw [show (10 : Nat) = 10 + 0 from rfl, keF_i q0 (by decide)]; exact h.1.1⟩, ⟨by rw [keF_2 q0]; exact e, by omega, by omega⟩, h.2.2.1.cong (fun c i hc hi => keF_m (by omega) (by omega)), h.2.2.1.cong (fun c i hc _ => by rw [keF_i q0 hc, Nat.zero_add])⟩
theorem PRr.back {g : gz} {wH vH : Int} {wU vU : Nat → Nat} {gn : Int32} (h : PRr g wH vH wU vU gn) (q : gn.toInt = 1 ∧ vH ≤ wH) : PRr (baF g) vH vH vU vU gn := by
  have q0 : ¬ (g 0 2 = 0 ∨ g 0 0 < g 10 0) := by have h1 := h.1; have h2 := h.2.1; omega
  exact ⟨⟨by rw [baF_m q0 (by decide) (by decide)]; exact h.1.2, by rw [baF_i (by decide)]; exact h.1.2⟩, ⟨by rw [baF_2]; exact h.2.1.1, h.2.1.2⟩, h.2.2.2.cong (fun c i hc hi => by rw [Nat.zero_add]; exact baF_m q0 hc (by omega)), h.2.2.2.cong (fun c i _ _ => baF_i (by omega))⟩
theorem PRr.same {g : gz} {wH vH : Int} {wU vU wU1 : Nat → Nat} {gn : Int32} (h : PRr g wH vH wU vU gn) (e : ∀ w, 30 ≤ w → wU1 w = wU w) : PRr g wH vH wU1 vU gn := ⟨h.1, h.2.1, h.2.2.1.same e, h.2.2.2⟩
theorem PRr.set {g g1 : gz} {wH vH : Int} {wU vU wU1 : Nat → Nat} {gn : Int32} (h : PRr g wH vH wU vU gn) (e0 : g1 0 0 = g 0 0) (e2 : g1 0 2 = g 0 2) (ei : ∀ c i, 9 ≤ c → g1 c i = g c i) (hw : RW g1 0 wU1) : PRr g1 wH vH wU1 vU gn := ⟨⟨by rw [e0]; exact h.1.1, by rw [ei 10 0 (by decide)]; exact h.1.2⟩, ⟨by rw [e2]; exact h.2.1.1, h.2.1.2⟩, hw, h.2.2.2.cong (fun c i _ _ => ei _ _ (by omega))⟩
theorem tiF_h {g : gz} {a l : Int} : tiF g a l 0 0 = g 0 0 := by
  unfold tiF
  split
  · exact gu_o (by omega)
  · rfl
theorem stF_h {g : gz} {f t m : Int} : stF g f t m 0 0 = g 0 0 := by
  unfold stF
  split
  · rw [gu_o (by omega), gu_o (by omega), gu_o (by omega), gu_o (by omega)]
  · rfl
theorem weF_h {g : gz} {r h n : Int} : weF g r h n 0 0 = g 0 0 := by
  have := weB_b r
  unfold weF
  split
  · rw [gu_o (by omega), gu_o (by omega), gu_o (by omega)]
  · rfl
theorem PS.start {g : gz} (h : g = fun _ _ => 0) {V : Nat → Int32} (hV : V = fun _ => 0) : PS g 0 0 0 0 0 V V V V V V V V := by
  subst h
  subst hV
  have e0 : (0 : Int32).toInt = 0 := by decide
  have n0 : ∀ i : Nat, ¬ (((i : Nat) : Int) < (0 : Int32).toInt) := fun i h => by omega
  exact ⟨⟨e0, by decide, by decide⟩, ⟨e0, by decide, by decide⟩, ⟨e0, by decide, by decide⟩, ⟨e0, by decide, by decide⟩, fun _ _ => ⟨e0, (show (-400 : Int) ≤ 0 by decide), (show (0 : Int) ≤ 400 by decide)⟩, fun i h => absurd h (n0 i), fun i h => absurd h (n0 i), fun i h => absurd h (n0 i), fun i h => absurd h (n0 i), fun i h => absurd h (n0 i)⟩
theorem PRr.start {g : gz} (h : g = fun _ _ => 0) : PRr g 0 0 (fun _ => 1000) (fun _ => 1000) 0 := by
  subst h
  have e0 : (0 : Int32).toInt = 0 := by decide
  have s0 : ∀ j, SU (fun _ => 1000) j = 0 := fun j => (by show ((1000 : Nat) : Int) - 1000 = 0; omega)
  have r0 : ∀ o, RW (fun _ _ => 0) o (fun _ => 1000) := fun o => ⟨⟨s0 _, s0 _, s0 _⟩, fun _ _ => s0 _, fun _ _ => ⟨s0 _, s0 _, s0 _⟩, fun _ _ => ⟨s0 _, s0 _, s0 _, s0 _⟩⟩
  exact ⟨⟨rfl, rfl⟩, ⟨e0, by decide, by decide⟩, r0 0, r0 10⟩
