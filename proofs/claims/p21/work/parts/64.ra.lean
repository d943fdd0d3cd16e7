/-- a square in the rectangle of two -/
def inRb (s a b : Int) : Bool := decide (((a % 12 ≤ s % 12 ∨ b % 12 ≤ s % 12) ∧ (s % 12 ≤ a % 12 ∨ s % 12 ≤ b % 12)) ∧ ((a / 12 ≤ s / 12 ∨ b / 12 ≤ s / 12) ∧ (s / 12 ≤ a / 12 ∨ s / 12 ≤ b / 12)))
theorem inR_1 {s a b : Int} (h : ((a % 12 ≤ s % 12 ∨ b % 12 ≤ s % 12) ∧ (s % 12 ≤ a % 12 ∨ s % 12 ≤ b % 12)) ∧ ((a / 12 ≤ s / 12 ∨ b / 12 ≤ s / 12) ∧ (s / 12 ≤ a / 12 ∨ s / 12 ≤ b / 12))) : inRb s a b = true := decide_eq_true h
theorem inR_0 {s a b : Int} (h : ¬ (((a % 12 ≤ s % 12 ∨ b % 12 ≤ s % 12) ∧ (s % 12 ≤ a % 12 ∨ s % 12 ≤ b % 12)) ∧ ((a / 12 ≤ s / 12 ∨ b / 12 ≤ s / 12) ∧ (s / 12 ≤ a / 12 ∨ s / 12 ≤ b / 12)))) : inRb s a b = false := decide_eq_false h
/-- an array after the squares below k of the rectangle got a number -/
def lyV (V : Nat → Int32) (n : Int32) (a b : Int) (k : Nat) : Nat → Int32 := fun j => if (decide (j < k) && inRb ((j : Nat) : Int) a b) = true then n else V j
theorem ly_0 {V : Nat → Int32} {n : Int32} {a b : Int} {i : Nat} : V i = lyV V n a b 0 i := by
  unfold lyV
  rw [if_neg (by simp)]
theorem ly_at {V : Nat → Int32} {n : Int32} {a b : Int} {k : Nat} : lyV V n a b k k = V k := by
  unfold lyV
  rw [if_neg (by simp)]
theorem ly_out {V : Nat → Int32} {n : Int32} {a b : Int} {k i : Nat} (h : inRb ((k : Nat) : Int) a b = false) : lyV V n a b k i = lyV V n a b (k + 1) i := by
  unfold lyV
  by_cases e : i = k
  · subst e; rw [h]; simp
  · have : decide (i < k) = decide (i < k + 1) := by rw [decide_eq_decide]; omega
    rw [this]
theorem ly_in {V : Nat → Int32} {n : Int32} {a b : Int} {k i : Nat} (h : inRb ((k : Nat) : Int) a b = true) : cu (lyV V n a b k) k n i = lyV V n a b (k + 1) i := by
  by_cases e : i = k
  · rw [cu_s e]; unfold lyV; subst e; rw [h]; simp
  · rw [cu_o e]; unfold lyV
    have : decide (i < k) = decide (i < k + 1) := by rw [decide_eq_decide]; omega
    rw [this]
theorem ly_96 {V : Nat → Int32} {n : Int32} {a b : Int} {i : Nat} (hi : i < 96) : lyV V n a b 96 i = if inRb ((i : Nat) : Int) a b = true then n else V i := by
  unfold lyV
  rw [decide_eq_true hi, Bool.true_and]
/-- how many squares below k of the rectangle are sea -/
def ldN (L : Nat → Int) (a b : Int) : Nat → Int
  | 0 => 0
  | k + 1 => ldN L a b k + (if (inRb ((k : Nat) : Int) a b && decide (L k = 0)) = true then 1 else 0)
theorem ldN_b {L : Nat → Int} {a b : Int} : ∀ k : Nat, 0 ≤ ldN L a b k ∧ ldN L a b k ≤ ((k : Nat) : Int)
  | 0 => ⟨Int.le_refl _, Int.le_refl _⟩
  | k + 1 => by
    have h := ldN_b (L := L) (a := a) (b := b) k
    unfold ldN
    split <;> omega
theorem ldN_out {L : Nat → Int} {a b : Int} {k : Nat} {n : Int} (h : inRb ((k : Nat) : Int) a b = false) (e : n = ldN L a b k) : n = ldN L a b (k + 1) := by
  unfold ldN
  rw [h, ← e]
  simp
theorem ldN_one {L : Nat → Int} {a b : Int} {k : Nat} {n m : Int} (h : inRb ((k : Nat) : Int) a b = true) (hL : L k = 0) (e : n = ldN L a b k) (e1 : m = n + 1) : m = ldN L a b (k + 1) := by
  unfold ldN
  rw [h, ← e, e1, decide_eq_true hL]
  simp
theorem ldN_no {L : Nat → Int} {a b : Int} {k : Nat} {n : Int} (h : inRb ((k : Nat) : Int) a b = true) (hL : L k ≠ 0) (e : n = ldN L a b k) : n = ldN L a b (k + 1) := by
  unfold ldN
  rw [h, ← e, decide_eq_false hL]
  simp
theorem ldN_congr {L M : Nat → Int} {a b : Int} : ∀ k : Nat, (∀ j, j < k → L j = M j) → ldN L a b k = ldN M a b k
  | 0, _ => rfl
  | k + 1, h => by
    unfold ldN
    rw [ldN_congr k (fun j hj => h j (by omega)), h k (by omega)]
/-- whether all squares below k of the rectangle are land and of no farm -/
def fmK (L F : Nat → Int) (a b : Int) : Nat → Bool
  | 0 => true
  | k + 1 => fmK L F a b k && (!inRb ((k : Nat) : Int) a b || (decide (L k = 1) && decide (F k = 0)))
theorem fmK_out {L F : Nat → Int} {a b : Int} {k : Nat} {r : Bool} (h : inRb ((k : Nat) : Int) a b = false) (e : fmK L F a b k = r) : fmK L F a b (k + 1) = r := by
  unfold fmK
  rw [h, e]
  simp
theorem fmK_ok {L F : Nat → Int} {a b : Int} {k : Nat} {r : Bool} (hL : L k = 1) (hF : F k = 0) (e : fmK L F a b k = r) : fmK L F a b (k + 1) = r := by
  unfold fmK
  rw [e, decide_eq_true hL, decide_eq_true hF]
  simp
theorem fmK_no {L F : Nat → Int} {a b : Int} {k : Nat} (h : inRb ((k : Nat) : Int) a b = true) (hL : L k ≠ 1 ∨ F k ≠ 0) : fmK L F a b (k + 1) = false := by
  unfold fmK
  rw [h]
  rcases hL with q | q
  · rw [decide_eq_false q]; simp
  · rw [decide_eq_false q]; simp
theorem fmK_end {L F : Nat → Int} {a b : Int} {k : Nat} (h : fmK L F a b k = false) : ∀ m, fmK L F a b (k + m) = false
  | 0 => h
  | m + 1 => by
    show fmK L F a b ((k + m) + 1) = false
    unfold fmK
    rw [fmK_end h m]
    simp
theorem fmK_congr {L M F K : Nat → Int} {a b : Int} : ∀ k : Nat, (∀ j, j < k → L j = M j) → (∀ j, j < k → (F j = 0 ↔ K j = 0)) → fmK L F a b k = fmK M K a b k
  | 0, _, _ => rfl
  | k + 1, h1, h2 => by
    have e : decide (F k = 0) = decide (K k = 0) := by rw [decide_eq_decide]; exact h2 k (by omega)
    unfold fmK
    rw [fmK_congr k (fun j hj => h1 j (by omega)) (fun j hj => h2 j (by omega)), h1 k (by omega), e]
/-- the answers of the calls as numbers: codes of what is thrown, answers -/
def laC (ho a b h s d : Int) : Int := if 0 ≤ a ∧ a ≤ 95 ∧ 0 ≤ b ∧ b ≤ 95 then (if -900 ≤ h ∧ h ≤ 300 ∧ 0 ≤ s ∧ s ≤ 2 ∧ 0 ≤ d ∧ d ≤ 20 then (if ho = 0 then 0 else 3) else 2) else 1
theorem laC_s (ho a b h s d : Int) : (laC ho a b h s d = 1 ∧ ¬ (0 ≤ a ∧ a ≤ 95 ∧ 0 ≤ b ∧ b ≤ 95)) ∨ (laC ho a b h s d = 2 ∧ (0 ≤ a ∧ a ≤ 95 ∧ 0 ≤ b ∧ b ≤ 95) ∧ ¬ (-900 ≤ h ∧ h ≤ 300 ∧ 0 ≤ s ∧ s ≤ 2 ∧ 0 ≤ d ∧ d ≤ 20)) ∨ (laC ho a b h s d = 3 ∧ (0 ≤ a ∧ a ≤ 95 ∧ 0 ≤ b ∧ b ≤ 95) ∧ (-900 ≤ h ∧ h ≤ 300 ∧ 0 ≤ s ∧ s ≤ 2 ∧ 0 ≤ d ∧ d ≤ 20) ∧ ho ≠ 0) ∨ (laC ho a b h s d = 0 ∧ (0 ≤ a ∧ a ≤ 95 ∧ 0 ≤ b ∧ b ≤ 95) ∧ (-900 ≤ h ∧ h ≤ 300 ∧ 0 ≤ s ∧ s ≤ 2 ∧ 0 ≤ d ∧ d ≤ 20) ∧ ho = 0) := by
  unfold laC
  split
  · split
    · split <;> omega
    · omega
  · omega
def fiC (a w s : Int) : Int := if 0 ≤ a ∧ a ≤ 95 then (if 0 ≤ w ∧ w ≤ 900 ∧ 0 ≤ s ∧ s ≤ 100000 then 0 else 2) else 1
theorem fiC_s (a w s : Int) : (fiC a w s = 1 ∧ ¬ (0 ≤ a ∧ a ≤ 95)) ∨ (fiC a w s = 2 ∧ (0 ≤ a ∧ a ≤ 95) ∧ ¬ (0 ≤ w ∧ w ≤ 900 ∧ 0 ≤ s ∧ s ≤ 100000)) ∨ (fiC a w s = 0 ∧ (0 ≤ a ∧ a ≤ 95) ∧ (0 ≤ w ∧ w ≤ 900 ∧ 0 ≤ s ∧ s ≤ 100000)) := by
  unfold fiC
  split
  · split <;> omega
  · omega
def faC (a b : Int) : Int := if 0 ≤ a ∧ a ≤ 95 ∧ 0 ≤ b ∧ b ≤ 95 then 0 else 1
theorem faC_s (a b : Int) : (faC a b = 1 ∧ ¬ (0 ≤ a ∧ a ≤ 95 ∧ 0 ≤ b ∧ b ≤ 95)) ∨ (faC a b = 0 ∧ (0 ≤ a ∧ a ≤ 95 ∧ 0 ≤ b ∧ b ≤ 95)) := by
  unfold faC
  split <;> omega
def soC (nf a k : Int) : Int := if 0 ≤ a ∧ a < nf then (if 0 ≤ k ∧ k ≤ 3 then 0 else 2) else 1
theorem soC_s (nf a k : Int) : (soC nf a k = 1 ∧ ¬ (0 ≤ a ∧ a < nf)) ∨ (soC nf a k = 2 ∧ (0 ≤ a ∧ a < nf) ∧ ¬ (0 ≤ k ∧ k ≤ 3)) ∨ (soC nf a k = 0 ∧ (0 ≤ a ∧ a < nf) ∧ (0 ≤ k ∧ k ≤ 3)) := by
  unfold soC
  split
  · split <;> omega
  · omega
def hoC (n : Int) : Int := if 0 ≤ n ∧ n ≤ 240 then 0 else 1
theorem hoC_s (n : Int) : (hoC n = 1 ∧ ¬ (0 ≤ n ∧ n ≤ 240)) ∨ (hoC n = 0 ∧ (0 ≤ n ∧ n ≤ 240)) := by
  unfold hoC
  split <;> omega
/-- the hour behind so many hours -/
def hoA (h n : Int) : Int := if h + n ≤ 40000 then h + n else 40000
theorem hoA_s (h n : Int) : (hoA h n = h + n ∧ h + n ≤ 40000) ∨ (hoA h n = 40000 ∧ 40000 < h + n) := by
  unfold hoA
  split <;> omega
theorem fm_a {n : Int} {x : Bool} (h : n < 30) (e : x = true) : (decide (n < 30) && x) = true := by rw [decide_eq_true h, e]; rfl
theorem fm_b {n : Int} {x : Bool} (h : ¬ n < 30) : (decide (n < 30) && x) = false := by rw [decide_eq_false h]; rfl
theorem fm_c {n : Int} {x : Bool} (h : n < 30) (e : x = true) : (decide (n < 30) && x) = true := fm_a h e
theorem fm_d {n : Int} {x : Bool} (h : (decide (n < 30) && x) = true) : x = true := by
  cases x
  · rw [Bool.and_false] at h; exact h
  · rfl
theorem fm_e {n : Int} {x : Bool} (e : x = false) : (decide (n < 30) && x) = false := by rw [e, Bool.and_false]
theorem fm_f {n : Int} {L F : Nat → Int} {a b : Int} {k : Nat} (hk : k = 96) (h : (decide (n < 30) && fmK L F a b k) = true) : (decide (n < 30) && fmK L F a b 96) = true := by rw [← hk]; exact h
theorem fm_g {n : Int} {L F : Nat → Int} {a b : Int} {k : Nat} (h : (decide (n < 30) && fmK L F a b k) = false) (hk : k ≤ 96) : (decide (n < 30) && fmK L F a b 96) = false := by
  by_cases q : n < 30
  · rw [decide_eq_true q, Bool.true_and] at h
    rw [show (96 : Nat) = k + (96 - k) by omega, fmK_end h, Bool.and_false]
  · exact fm_b q
theorem fm_h {n : Int} {x : Bool} (h : (decide (n < 30) && x) = true) : n ≤ 29 := by
  by_cases q : n < 30
  · omega
  · rw [fm_b q] at h; cases h
/-- land after the squares below k of the rectangle were told -/
def lndB (L : Nat → Prop) (a b : Int) (k : Nat) : Nat → Prop := fun j => L j ∨ (j < k ∧ inRb ((j : Nat) : Int) a b = true)
theorem lb_0 {L : Nat → Prop} {a b : Int} {j : Nat} : L j ↔ lndB L a b 0 j := ⟨Or.inl, fun h => h.elim id (fun q => absurd q.1 (Nat.not_lt_zero j))⟩
theorem lb_at {L : Nat → Prop} {a b : Int} {k : Nat} : lndB L a b k k ↔ L k := ⟨fun h => h.elim id (fun q => absurd q.1 (Nat.lt_irrefl k)), Or.inl⟩
theorem lb_in {L : Nat → Prop} {a b : Int} {k j : Nat} (h : inRb ((k : Nat) : Int) a b = true) : (lndB L a b k j ∨ j = k) ↔ lndB L a b (k + 1) j := by
  constructor
  · rintro ((q | q) | q)
    · exact Or.inl q
    · exact Or.inr ⟨by omega, q.2⟩
    · subst q; exact Or.inr ⟨by omega, h⟩
  · rintro (q | q)
    · exact Or.inl (Or.inl q)
    · by_cases e : j = k
      · exact Or.inr e
      · exact Or.inl (Or.inr ⟨by omega, q.2⟩)
theorem lb_out {L : Nat → Prop} {a b : Int} {k j : Nat} (h : inRb ((k : Nat) : Int) a b = false) : lndB L a b k j ↔ lndB L a b (k + 1) j := by
  constructor
  · rintro (q | q)
    · exact Or.inl q
    · exact Or.inr ⟨by omega, q.2⟩
  · rintro (q | q)
    · exact Or.inl q
    · by_cases e : j = k
      · subst e; rw [h] at q; exact absurd q.2 (by decide)
      · exact Or.inr ⟨by omega, q.2⟩
theorem lb_L {W : Nat → Prop} {L : Nat → Int} {a b : Int} {k z : Nat} (hL : ∀ i, i < 96 → (W i ↔ L i = 1) ∧ (0 ≤ L i ∧ L i ≤ 1)) (hk : k < 96) (e : z = k) (h : lndB W a b k z) : L k ≠ 0 := by
  subst e
  have := (hL z hk).1.mp (lb_at.mp h)
  omega
theorem lb_N {W : Nat → Prop} {L : Nat → Int} {a b : Int} {k z : Nat} (hL : ∀ i, i < 96 → (W i ↔ L i = 1) ∧ (0 ≤ L i ∧ L i ≤ 1)) (hk : k < 96) (e : z = k) (h : ¬ lndB W a b k z) : L k = 0 := by
  subst e
  have h1 : L z ≠ 1 := fun q => h (lb_at.mpr ((hL z hk).1.mpr q))
  have := (hL z hk).2
  omega
theorem wdL_1 {W : Nat → Prop} {L : Nat → Int} {k z : Nat} (hL : ∀ i, i < 96 → (W i ↔ L i = 1) ∧ (0 ≤ L i ∧ L i ≤ 1)) (hk : k < 96) (e : z = k) (h : W z) : L k = 1 := by
  subst e
  exact (hL z hk).1.mp h
theorem wdL_0 {W : Nat → Prop} {L : Nat → Int} {k z : Nat} (hL : ∀ i, i < 96 → (W i ↔ L i = 1) ∧ (0 ≤ L i ∧ L i ≤ 1)) (hk : k < 96) (e : z = k) (h : ¬ W z) : L k ≠ 1 := by
  subst e
  exact fun q => h ((hL z hk).1.mpr q)
/-- whether a square is of one of the first n rectangles -/
def frm (A B : Nat → Int32) (n s : Int) : Prop := ∃ f : Nat, ((f : Nat) : Int) < n ∧ inRb s (A f).toInt (B f).toInt = true
theorem frm_no {A B : Nat → Int32} {n s : Int} (h : ∀ f : Nat, ((f : Nat) : Int) < n → inRb s (A f).toInt (B f).toInt = false) : ¬ frm A B n s := fun ⟨f, h1, h2⟩ => by rw [h f h1] at h2; cases h2
theorem fF_0 {A B : Nat → Int32} {F : Nat → Int} {n : Int} {k : Nat} {s : Int} (hF : ∀ i, i < 96 → (frm A B n ((i : Nat) : Int) ↔ F i = 1) ∧ (0 ≤ F i ∧ F i ≤ 1)) (hk : k < 96) (e : s = ((k : Nat) : Int)) (h : ¬ frm A B n s) : F k = 0 := by
  subst e
  have h1 : F k ≠ 1 := fun q => h ((hF k hk).1.mpr q)
  have := (hF k hk).2
  omega
theorem fF_1 {A B : Nat → Int32} {F : Nat → Int} {n : Int} {k : Nat} {s : Int} (hF : ∀ i, i < 96 → (frm A B n ((i : Nat) : Int) ↔ F i = 1) ∧ (0 ≤ F i ∧ F i ≤ 1)) (hk : k < 96) (e : s = ((k : Nat) : Int)) (h : frm A B n s) : F k ≠ 0 := by
  subst e
  have := (hF k hk).1.mp h
  omega
/-- what both sides keep, as numbers: 0 0 the hour, 0 1 the image's hour, 0 2 whether there is an image, 0 3 the number of farms; 1 land, 2 the image's land, 3 squares of farms, 4 crops -/
abbrev gzX : Type := Nat → Nat → Int
def gu (g : gzX) (c i : Nat) (v : Int) : gzX := fun c' i' => if c' = c ∧ i' = i then v else g c' i'
theorem gu_s {g : gzX} {c i : Nat} {v : Int} : gu g c i v c i = v := if_pos ⟨rfl, rfl⟩
theorem gu_o {g : gzX} {c i c' i' : Nat} {v : Int} (h : ¬ (c' = c ∧ i' = i)) : gu g c i v c' i' = g c' i' := if_neg h
def hoF (g : gzX) (n : Int) : gzX := if hoC n = 0 then gu g 0 0 (hoA (g 0 0) n) else g
theorem hoF_o {g : gzX} {n : Int} {c i : Nat} (h : ¬ (c = 0 ∧ i = 0)) : hoF g n c i = g c i := by
  unfold hoF
  split
  · exact gu_o h
  · rfl
theorem hoF_h {g : gzX} {n : Int} : (hoC n = 0 ∧ hoF g n 0 0 = hoA (g 0 0) n) ∨ (hoC n = 1 ∧ hoF g n 0 0 = g 0 0) := by
  unfold hoF
  split
  · exact Or.inl ⟨by assumption, gu_s⟩
  · exact Or.inr ⟨by have := hoC_s n; omega, rfl⟩
def keA (g : gzX) : Int := if g 0 0 = 0 then 0 else 1
theorem keA_s (g : gzX) : (keA g = 0 ∧ g 0 0 = 0) ∨ (keA g = 1 ∧ g 0 0 ≠ 0) := by
  unfold keA
  split
  · exact Or.inl ⟨rfl, by assumption⟩
  · exact Or.inr ⟨rfl, by assumption⟩
def keF (g : gzX) : gzX := if g 0 0 = 0 then g else fun c i => if c = 0 then (if i = 1 then g 0 0 else if i = 2 then 1 else g 0 i) else if c = 2 then g 1 i else g c i
theorem keF_0 {g : gzX} (h : g 0 0 = 0) : keF g = g := if_pos h
theorem keF_1 {g : gzX} (h : g 0 0 ≠ 0) : keF g = fun c i => if c = 0 then (if i = 1 then g 0 0 else if i = 2 then 1 else g 0 i) else if c = 2 then g 1 i else g c i := if_neg h
def baA (g : gzX) : Int := if g 0 2 = 0 ∨ g 0 0 < g 0 1 then 0 else 1
theorem baA_s (g : gzX) : (baA g = 0 ∧ (g 0 2 = 0 ∨ g 0 0 < g 0 1)) ∨ (baA g = 1 ∧ ¬ (g 0 2 = 0 ∨ g 0 0 < g 0 1)) := by
  unfold baA
  split
  · exact Or.inl ⟨rfl, by assumption⟩
  · exact Or.inr ⟨rfl, by assumption⟩
def baF (g : gzX) : gzX := if g 0 2 = 0 ∨ g 0 0 < g 0 1 then g else fun c i => if c = 0 then (if i = 0 then g 0 1 else g 0 i) else if c = 1 then g 2 i else g c i
theorem baF_0 {g : gzX} (h : g 0 2 = 0 ∨ g 0 0 < g 0 1) : baF g = g := if_pos h
theorem baF_1 {g : gzX} (h : ¬ (g 0 2 = 0 ∨ g 0 0 < g 0 1)) : baF g = fun c i => if c = 0 then (if i = 0 then g 0 1 else g 0 i) else if c = 1 then g 2 i else g c i := if_neg h
def laF (g : gzX) (a b h s d : Int) : gzX := if laC (g 0 0) a b h s d = 0 then fun c i => if c = 1 then (if inRb ((i : Nat) : Int) a b = true then 1 else g 1 i) else g c i else g
theorem laF_0 {g : gzX} {a b h s d : Int} (q : laC (g 0 0) a b h s d = 0) : laF g a b h s d = fun c i => if c = 1 then (if inRb ((i : Nat) : Int) a b = true then 1 else g 1 i) else g c i := if_pos q
theorem laF_1 {g : gzX} {a b h s d : Int} (q : laC (g 0 0) a b h s d ≠ 0) : laF g a b h s d = g := if_neg q
def faK (g : gzX) (a b : Int) : Bool := decide (g 0 3 < 30) && fmK (g 1) (g 3) a b 96
def faA (g : gzX) (a b : Int) : Int := if faK g a b = true then g 0 3 else -1
theorem faA_1 {g : gzX} {a b : Int} (h : faK g a b = true) : faA g a b = g 0 3 := if_pos h
theorem faA_0 {g : gzX} {a b : Int} (h : faK g a b = false) : faA g a b = -1 := if_neg (by rw [h]; decide)
def faF (g : gzX) (a b : Int) : gzX := if faC a b = 0 ∧ faK g a b = true then fun c i => if c = 0 then (if i = 3 then g 0 3 + 1 else g 0 i) else if c = 3 then (if inRb ((i : Nat) : Int) a b = true then 1 else g 3 i) else g c i else g
theorem faF_1 {g : gzX} {a b : Int} (h : faC a b = 0) (k : faK g a b = true) : faF g a b = fun c i => if c = 0 then (if i = 3 then g 0 3 + 1 else g 0 i) else if c = 3 then (if inRb ((i : Nat) : Int) a b = true then 1 else g 3 i) else g c i := if_pos ⟨h, k⟩
theorem faF_0 {g : gzX} {a b : Int} (h : faC a b ≠ 0 ∨ faK g a b = false) : faF g a b = g := if_neg (by rintro ⟨h1, h2⟩; rcases h with h | h; (· exact h h1); rw [h] at h2; cases h2)
def soA (g : gzX) (a k : Int) : Int := if g 4 a.toNat = k then 0 else 1
theorem soA_s (g : gzX) (a k : Int) : (soA g a k = 0 ∧ g 4 a.toNat = k) ∨ (soA g a k = 1 ∧ g 4 a.toNat ≠ k) := by
  unfold soA
  split
  · exact Or.inl ⟨rfl, by assumption⟩
  · exact Or.inr ⟨rfl, by assumption⟩
def soF (g : gzX) (a k : Int) : gzX := if soC (g 0 3) a k = 0 then gu g 4 a.toNat k else g
theorem soF_1 {g : gzX} {a k : Int} (h : soC (g 0 3) a k = 0) : soF g a k = gu g 4 a.toNat k := if_pos h
theorem soF_0 {g : gzX} {a k : Int} (h : soC (g 0 3) a k ≠ 0) : soF g a k = g := if_neg h
/-- the class's part of it -/
def PRm (g : gzX) (ho nf : Int32) (VL VF VK : Nat → Int32) : Prop := (ho.toInt = g 0 0 ∧ 0 ≤ ho.toInt ∧ ho.toInt ≤ 40000) ∧ (nf.toInt = g 0 3 ∧ 0 ≤ nf.toInt ∧ nf.toInt ≤ 30) ∧ (∀ i, i < 96 → (VL i).toInt = g 1 i ∧ (0 ≤ g 1 i ∧ g 1 i ≤ 1)) ∧ (∀ i, i < 96 → ((VF i).toInt = -1 ∧ g 3 i = 0) ∨ (0 ≤ (VF i).toInt ∧ g 3 i = 1)) ∧ (∀ i, i < 30 → (VK i).toInt = g 4 i)
/-- the image's -/
def PRi (g : gzX) (bh : Int32) (VI : Nat → Int32) : Prop := (bh.toInt = g 0 1 ∧ 0 ≤ bh.toInt ∧ bh.toInt ≤ 40000) ∧ (∀ i, i < 96 → (VI i).toInt = g 2 i ∧ (0 ≤ g 2 i ∧ g 2 i ≤ 1))
theorem PRm.hours {g : gzX} {ho nf h1 : Int32} {VL VF VK : Nat → Int32} {n : Int} (h : PRm g ho nf VL VF VK) (e : h1.toInt = hoF g n 0 0) (b : 0 ≤ h1.toInt ∧ h1.toInt ≤ 40000) : PRm (hoF g n) h1 nf VL VF VK := by
  obtain ⟨p1, p2, p3, p4, p5⟩ := h
  refine ⟨⟨e, b⟩, ⟨by rw [hoF_o (by decide)]; exact p2.1, p2.2⟩, fun i hi => ?_, fun i hi => ?_, fun i hi => ?_⟩
  · rw [hoF_o (by omega)]; exact p3 i hi
  · rw [hoF_o (by omega)]; exact p4 i hi
  · rw [hoF_o (by omega)]; exact p5 i hi
theorem PRi.hours {g : gzX} {bh : Int32} {VI : Nat → Int32} {n : Int} (h : PRi g bh VI) : PRi (hoF g n) bh VI := by
  obtain ⟨p1, p2⟩ := h
  refine ⟨⟨by rw [hoF_o (by decide)]; exact p1.1, p1.2⟩, fun i hi => ?_⟩
  rw [hoF_o (by omega)]; exact p2 i hi
theorem PRm.keep {g : gzX} {ho nf : Int32} {VL VF VK : Nat → Int32} (h : PRm g ho nf VL VF VK) : PRm (keF g) ho nf VL VF VK := by
  by_cases q : g 0 0 = 0
  · rw [keF_0 q]; exact h
  · rw [keF_1 q]; exact h
theorem PRi.keep {g : gzX} {ho nf bh : Int32} {VL VF VK : Nat → Int32} (h : PRm g ho nf VL VF VK) (q : g 0 0 ≠ 0) (e : bh.toInt = ho.toInt) : PRi (keF g) bh VL := by
  obtain ⟨p1, p2, p3, p4, p5⟩ := h
  rw [keF_1 q]
  exact ⟨⟨by rw [e]; exact p1.1, by omega, by omega⟩, fun i hi => p3 i hi⟩
theorem PRm.back {g : gzX} {ho nf h1 bh : Int32} {VL VF VK VI : Nat → Int32} (h : PRm g ho nf VL VF VK) (k : PRi g bh VI) (q : ¬ (g 0 2 = 0 ∨ g 0 0 < g 0 1)) (e : h1.toInt = bh.toInt) : PRm (baF g) h1 nf VI VF VK := by
  obtain ⟨p1, p2, p3, p4, p5⟩ := h
  obtain ⟨k1, k2⟩ := k
  rw [baF_1 q]
  exact ⟨⟨by rw [e]; exact k1.1, by omega, by omega⟩, p2, fun i hi => k2 i hi, p4, p5⟩
theorem PRi.back {g : gzX} {bh : Int32} {VI : Nat → Int32} (h : PRi g bh VI) : PRi (baF g) bh VI := by
  by_cases q : g 0 2 = 0 ∨ g 0 0 < g 0 1
  · rw [baF_0 q]; exact h
  · rw [baF_1 q]; exact h
theorem PRm.land {g : gzX} {ho nf : Int32} {VL VF VK : Nat → Int32} {a b c s d : Int} (h : PRm g ho nf VL VF VK) (q : laC (g 0 0) a b c s d = 0) : PRm (laF g a b c s d) ho nf (lyV VL 1 a b 96) VF VK := by
  obtain ⟨p1, p2, p3, p4, p5⟩ := h
  rw [laF_0 q]
  refine ⟨p1, p2, fun i hi => ?_, p4, p5⟩
  show (lyV VL 1 a b 96 i).toInt = (if inRb ((i : Nat) : Int) a b = true then 1 else g 1 i) ∧ (0 ≤ (if inRb ((i : Nat) : Int) a b = true then 1 else g 1 i) ∧ (if inRb ((i : Nat) : Int) a b = true then 1 else g 1 i) ≤ 1)
  rw [ly_96 hi]
  have := p3 i hi
  split
  · exact ⟨by decide, by decide, by decide⟩
  · exact this
theorem PRi.land {g : gzX} {bh : Int32} {VI : Nat → Int32} {a b c s d : Int} (h : PRi g bh VI) : PRi (laF g a b c s d) bh VI := by
  by_cases q : laC (g 0 0) a b c s d = 0
  · rw [laF_0 q]; exact h
  · rw [laF_1 q]; exact h
theorem PRm.fk {g : gzX} {ho nf : Int32} {VL VF VK : Nat → Int32} {a b : Int} (h : PRm g ho nf VL VF VK) : (decide (nf.toInt < 30) && fmK (fun j => (VL j).toInt) (fun j => (VF j).toInt + 1) a b 96) = faK g a b := by
  obtain ⟨p1, p2, p3, p4, p5⟩ := h
  unfold faK
  rw [p2.1, fmK_congr (L := fun j => (VL j).toInt) (M := g 1) (F := fun j => (VF j).toInt + 1) (K := g 3) 96 (fun j hj => (p3 j hj).1) (fun j hj => by
    show (VF j).toInt + 1 = 0 ↔ g 3 j = 0
    rcases p4 j hj with q | q <;> constructor <;> intro h9 <;> omega)]
theorem PRm.farm {g : gzX} {ho nf f1 : Int32} {VL VF VK : Nat → Int32} {a b : Int} (h : PRm g ho nf VL VF VK) (q : faC a b = 0) (k : faK g a b = true) (e : f1.toInt = nf.toInt + 1) : PRm (faF g a b) ho f1 VL (lyV VF nf a b 96) VK := by
  have k1 : g 0 3 ≤ 29 := by unfold faK at k; exact fm_h k
  obtain ⟨p1, p2, p3, p4, p5⟩ := h
  rw [faF_1 q k]
  refine ⟨p1, ⟨by show f1.toInt = g 0 3 + 1; omega, by omega, by omega⟩, p3, fun i hi => ?_, p5⟩
  show ((lyV VF nf a b 96 i).toInt = -1 ∧ (if inRb ((i : Nat) : Int) a b = true then 1 else g 3 i) = 0) ∨ (0 ≤ (lyV VF nf a b 96 i).toInt ∧ (if inRb ((i : Nat) : Int) a b = true then 1 else g 3 i) = 1)
  rw [ly_96 hi]
  split
  · exact Or.inr ⟨p2.2.1, rfl⟩
  · exact p4 i hi
theorem PRi.farm {g : gzX} {bh : Int32} {VI : Nat → Int32} {a b : Int} (h : PRi g bh VI) : PRi (faF g a b) bh VI := by
  by_cases q : faC a b = 0 ∧ faK g a b = true
  · rw [faF_1 q.1 q.2]; exact h
  · unfold faF; rw [if_neg q]; exact h
theorem PRm.sow {g : gzX} {ho nf p0 p1 : Int32} {VL VF VK : Nat → Int32} (h : PRm g ho nf VL VF VK) (q : soC (g 0 3) p0.toInt p1.toInt = 0) : PRm (soF g p0.toInt p1.toInt) ho nf VL VF (cu VK p0.toNatClampNeg p1) := by
  obtain ⟨k1, k2, k3, k4, k5⟩ := h
  rw [soF_1 q]
  refine ⟨⟨by rw [gu_o (by omega)]; exact k1.1, k1.2⟩, ⟨by rw [gu_o (by omega)]; exact k2.1, k2.2⟩, fun i hi => by rw [gu_o (by omega)]; exact k3 i hi, fun i hi => by rw [gu_o (by omega)]; exact k4 i hi, fun i hi => ?_⟩
  by_cases e : i = p0.toNatClampNeg
  · rw [cu_s e, e]; exact gu_s.symm
  · rw [cu_o e, show gu g 4 p0.toInt.toNat p1.toInt 4 i = g 4 i from gu_o (fun z => e z.2)]; exact k5 i hi
theorem PRi.sow {g : gzX} {bh : Int32} {VI : Nat → Int32} {a k : Int} (h : PRi g bh VI) : PRi (soF g a k) bh VI := by
  by_cases q : soC (g 0 3) a k = 0
  · rw [soF_1 q]
    exact ⟨⟨by rw [gu_o (by omega)]; exact h.1.1, h.1.2⟩, fun i hi => by rw [gu_o (by omega)]; exact h.2 i hi⟩
  · rw [soF_0 q]; exact h
/-- the reference's part of it -/
def PRr (g : gzX) (wH vH : Int) (wL vL : Nat → Prop) (gn nf : Int32) (A B K : Nat → Int32) : Prop := (wH = g 0 0 ∧ vH = g 0 1) ∧ (gn.toInt = g 0 2 ∧ 0 ≤ gn.toInt ∧ gn.toInt ≤ 1) ∧ (nf.toInt = g 0 3 ∧ 0 ≤ nf.toInt ∧ nf.toInt ≤ 30) ∧ (∀ i, i < 96 → (wL i ↔ g 1 i = 1) ∧ (0 ≤ g 1 i ∧ g 1 i ≤ 1)) ∧ (∀ i, i < 96 → (vL i ↔ g 2 i = 1) ∧ (0 ≤ g 2 i ∧ g 2 i ≤ 1)) ∧ (∀ i, i < 96 → (frm A B nf.toInt ((i : Nat) : Int) ↔ g 3 i = 1) ∧ (0 ≤ g 3 i ∧ g 3 i ≤ 1)) ∧ (∀ f : Nat, ((f : Nat) : Int) < nf.toInt → (0 ≤ (A f).toInt ∧ (A f).toInt ≤ 95) ∧ (0 ≤ (B f).toInt ∧ (B f).toInt ≤ 95)) ∧ (∀ i, i < 30 → (K i).toInt = g 4 i)
theorem PRr.hours {g : gzX} {wH vH h1 : Int} {wL vL : Nat → Prop} {gn nf : Int32} {A B K : Nat → Int32} {n : Int} (h : PRr g wH vH wL vL gn nf A B K) (e : h1 = hoF g n 0 0) : PRr (hoF g n) h1 vH wL vL gn nf A B K := by
  obtain ⟨p1, p2, p3, p4, p5, p6, p7, p8⟩ := h
  refine ⟨⟨e, by rw [hoF_o (by decide)]; exact p1.2⟩, ⟨by rw [hoF_o (by decide)]; exact p2.1, p2.2⟩, ⟨by rw [hoF_o (by decide)]; exact p3.1, p3.2⟩, fun i hi => ?_, fun i hi => ?_, fun i hi => ?_, p7, fun i hi => ?_⟩
  · rw [hoF_o (by omega)]; exact p4 i hi
  · rw [hoF_o (by omega)]; exact p5 i hi
  · rw [hoF_o (by omega)]; exact p6 i hi
  · rw [hoF_o (by omega)]; exact p8 i hi
theorem PRr.keep {g : gzX} {wH vH : Int} {wL vL : Nat → Prop} {gn nf g1 : Int32} {A B K : Nat → Int32} (h : PRr g wH vH wL vL gn nf A B K) (q : wH ≠ 0) (e : g1.toInt = 1) : PRr (keF g) wH wH wL wL g1 nf A B K := by
  obtain ⟨p1, p2, p3, p4, p5, p6, p7, p8⟩ := h
  rw [keF_1 (by omega)]
  exact ⟨⟨p1.1, p1.1⟩, ⟨e, by omega, by omega⟩, p3, p4, p4, p6, p7, p8⟩
theorem PRr.back {g : gzX} {wH vH : Int} {wL vL : Nat → Prop} {gn nf : Int32} {A B K : Nat → Int32} (h : PRr g wH vH wL vL gn nf A B K) (q : gn.toInt = 1 ∧ vH ≤ wH) : PRr (baF g) vH vH vL vL gn nf A B K := by
  obtain ⟨p1, p2, p3, p4, p5, p6, p7, p8⟩ := h
  rw [baF_1 (by omega)]
  exact ⟨⟨p1.2, p1.2⟩, p2, p3, p5, p5, p6, p7, p8⟩
theorem PRr.land {g : gzX} {wH vH : Int} {wL vL : Nat → Prop} {gn nf : Int32} {A B K : Nat → Int32} {a b c s d : Int} (h : PRr g wH vH wL vL gn nf A B K) (q : laC (g 0 0) a b c s d = 0) : PRr (laF g a b c s d) wH vH (lndB wL a b 96) vL gn nf A B K := by
  obtain ⟨p1, p2, p3, p4, p5, p6, p7, p8⟩ := h
  rw [laF_0 q]
  refine ⟨p1, p2, p3, fun i hi => ?_, p5, p6, p7, p8⟩
  show (lndB wL a b 96 i ↔ (if inRb ((i : Nat) : Int) a b = true then 1 else g 1 i) = 1) ∧ (0 ≤ (if inRb ((i : Nat) : Int) a b = true then 1 else g 1 i) ∧ (if inRb ((i : Nat) : Int) a b = true then 1 else g 1 i) ≤ 1)
  have h4 := p4 i hi
  split
  · rename_i e
    exact ⟨⟨fun _ => rfl, fun _ => Or.inr ⟨hi, e⟩⟩, by decide, by decide⟩
  · rename_i e
    exact ⟨⟨fun z => h4.1.mp (z.elim id (fun y => absurd y.2 e)), fun z => Or.inl (h4.1.mpr z)⟩, h4.2⟩
theorem PRr.fk {g : gzX} {wH vH : Int} {wL vL : Nat → Prop} {gn nf : Int32} {A B K : Nat → Int32} {a b : Int} (h : PRr g wH vH wL vL gn nf A B K) : (decide (nf.toInt < 30) && fmK (g 1) (g 3) a b 96) = faK g a b := by
  obtain ⟨p1, p2, p3, p4, p5, p6, p7, p8⟩ := h
  unfold faK
  rw [p3.1]
theorem PRr.farm {g : gzX} {wH vH : Int} {wL vL : Nat → Prop} {gn nf f1 p0 p1 : Int32} {A B K : Nat → Int32} (h : PRr g wH vH wL vL gn nf A B K) (q : faC p0.toInt p1.toInt = 0) (k : faK g p0.toInt p1.toInt = true) (e : f1.toInt = nf.toInt + 1) : PRr (faF g p0.toInt p1.toInt) wH vH wL vL gn f1 (cu A nf.toNatClampNeg p0) (cu B nf.toNatClampNeg p1) K := by
  have k1 : g 0 3 ≤ 29 := by unfold faK at k; exact fm_h k
  have q1 := faC_s p0.toInt p1.toInt
  obtain ⟨z1, z2, z3, z4, z5, z6, z7, z8⟩ := h
  have hn : ((nf.toNatClampNeg : Nat) : Int) = nf.toInt := tn_of rfl (by omega)
  have ho : ∀ f : Nat, ((f : Nat) : Int) < nf.toInt → f ≠ nf.toNatClampNeg := fun f hf => by omega
  rw [faF_1 q k]
  refine ⟨z1, z2, ⟨by show f1.toInt = g 0 3 + 1; omega, by omega, by omega⟩, z4, z5, fun i hi => ?_, fun f hf => ?_, z8⟩
  · show (frm (cu A nf.toNatClampNeg p0) (cu B nf.toNatClampNeg p1) f1.toInt ((i : Nat) : Int) ↔ (if inRb ((i : Nat) : Int) p0.toInt p1.toInt = true then 1 else g 3 i) = 1) ∧ (0 ≤ (if inRb ((i : Nat) : Int) p0.toInt p1.toInt = true then 1 else g 3 i) ∧ (if inRb ((i : Nat) : Int) p0.toInt p1.toInt = true then 1 else g 3 i) ≤ 1)
    have h6 := z6 i hi
    split
    · rename_i e1
      exact ⟨⟨fun _ => rfl, fun _ => ⟨nf.toNatClampNeg, by omega, by rw [cu_s rfl, cu_s rfl]; exact e1⟩⟩, by decide, by decide⟩
    · rename_i e1
      refine ⟨⟨fun ⟨f, hf, hq⟩ => h6.1.mp ?_, fun z => ?_⟩, h6.2⟩
      · by_cases ef : f = nf.toNatClampNeg
        · rw [cu_s ef, cu_s ef] at hq; exact absurd hq e1
        · rw [cu_o ef, cu_o ef] at hq; exact ⟨f, by omega, hq⟩
      · obtain ⟨f, hf, hq⟩ := h6.1.mpr z
        exact ⟨f, by omega, by rw [cu_o (ho f hf), cu_o (ho f hf)]; exact hq⟩
  · by_cases ef : f = nf.toNatClampNeg
    · rw [cu_s ef, cu_s ef]; omega
    · rw [cu_o ef, cu_o ef]; exact z7 f (by omega)
theorem PRr.sow {g : gzX} {wH vH : Int} {wL vL : Nat → Prop} {gn nf p0 p1 : Int32} {A B K : Nat → Int32} (h : PRr g wH vH wL vL gn nf A B K) (q : soC (g 0 3) p0.toInt p1.toInt = 0) : PRr (soF g p0.toInt p1.toInt) wH vH wL vL gn nf A B (cu K p0.toNatClampNeg p1) := by
  obtain ⟨z1, z2, z3, z4, z5, z6, z7, z8⟩ := h
  rw [soF_1 q]
  refine ⟨⟨by rw [gu_o (by omega)]; exact z1.1, by rw [gu_o (by omega)]; exact z1.2⟩, ⟨by rw [gu_o (by omega)]; exact z2.1, z2.2⟩, ⟨by rw [gu_o (by omega)]; exact z3.1, z3.2⟩, fun i hi => by rw [gu_o (by omega)]; exact z4 i hi, fun i hi => by rw [gu_o (by omega)]; exact z5 i hi, fun i hi => by rw [gu_o (by omega)]; exact z6 i hi, z7, fun i hi => ?_⟩
  by_cases e : i = p0.toNatClampNeg
  · rw [cu_s e, e]; exact gu_s.symm
  · rw [cu_o e, show gu g 4 p0.toInt.toNat p1.toInt 4 i = g 4 i from gu_o (fun z => e z.2)]; exact z8 i hi
theorem hoF_2 {g : gzX} {n : Int} : hoF g n 0 2 = g 0 2 := hoF_o (by decide)
theorem laF_2 {g : gzX} {a b h s d : Int} : laF g a b h s d 0 2 = g 0 2 := by
  unfold laF
  split <;> rfl
theorem faF_2 {g : gzX} {a b : Int} : faF g a b 0 2 = g 0 2 := by
  unfold faF
  split <;> rfl
theorem soF_2 {g : gzX} {a k : Int} : soF g a k 0 2 = g 0 2 := by
  unfold soF
  split
  · exact gu_o (by omega)
  · rfl
theorem baF_2 {g : gzX} : baF g 0 2 = g 0 2 := by
  unfold baF
  split <;> rfl
theorem PRm.start {g : gzX} (h : g = fun _ _ => 0) : PRm g 0 0 (fun _ => 0) (fun _ => -1) (fun _ => 0) := by
  subst h
  have e0 : (0 : Int32).toInt = 0 := by decide
  have e1 : (-1 : Int32).toInt = -1 := by decide
  have z0 : (0 : Int) ≤ 0 := by decide
  have z1 : (0 : Int) ≤ 1 := by decide
  exact ⟨⟨e0, by decide, by decide⟩, ⟨e0, by decide, by decide⟩, fun _ _ => ⟨e0, z0, z1⟩, fun _ _ => Or.inl ⟨e1, rfl⟩, fun _ _ => e0⟩
theorem PRr.start {g : gzX} {A B : Nat → Int32} (h : g = fun _ _ => 0) : PRr g 0 0 (fun _ => False) (fun _ => False) 0 0 A B (fun _ => 0) := by
  subst h
  have e0 : (0 : Int32).toInt = 0 := by decide
  have z0 : (0 : Int) ≤ 0 := by decide
  have z1 : (0 : Int) ≤ 1 := by decide
  have n1 : ¬ ((0 : Int) = 1) := by decide
  have nf : ∀ f : Nat, ¬ (((f : Nat) : Int) < (0 : Int32).toInt) := fun f h => by omega
  exact ⟨⟨rfl, rfl⟩, ⟨e0, by decide, by decide⟩, ⟨e0, by decide, by decide⟩, fun _ _ => ⟨⟨fun h => h.elim, fun h => absurd h n1⟩, z0, z1⟩, fun _ _ => ⟨⟨fun h => h.elim, fun h => absurd h n1⟩, z0, z1⟩, fun _ _ => ⟨⟨fun ⟨f, h1, _⟩ => absurd h1 (nf f), fun h => absurd h n1⟩, z0, z1⟩, fun f h => absurd h (nf f), fun _ _ => e0⟩
/-- what both sides keep: how much is taped, the tape (as the class holds it), the fault, whether a vote goes on -/
abbrev gzP : Type := Int32 × (Nat → Int32) × Int32 × Int32
noncomputable def laG (g : gzP) : Int × Int := laE (tc g.2.1) g.1.toNatClampNeg
noncomputable def fvG (g : gzP) : Int32 := Int32.ofInt (laG g).2
def prK (f v : Int) : Int := if f = -1 then (if v = 1 then 2 else 0) else 1
theorem prK_s (f v : Int) : (f ≠ -1 ∧ prK f v = 1) ∨ (f = -1 ∧ v = 1 ∧ prK f v = 2) ∨ (f = -1 ∧ v ≠ 1 ∧ prK f v = 0) := by
  unfold prK
  by_cases h : f = -1
  · rw [if_pos h]
    by_cases h2 : v = 1
    · rw [if_pos h2]
      exact Or.inr (Or.inl ⟨h, h2, rfl⟩)
    · rw [if_neg h2]
      exact Or.inr (Or.inr ⟨h, h2, rfl⟩)
  · rw [if_neg h]
    exact Or.inl ⟨h, rfl⟩
def pgP (g : gzP) : Prop := (0 ≤ g.1.toInt ∧ g.1.toInt ≤ 400) ∧ (0 ≤ g.2.2.2.toInt ∧ g.2.2.2.toInt ≤ 1)
def fdF (g : gzP) (a b c d e : Int32) : gzP := if g.1.toInt ≤ 380 then (nI (g.1.toNatClampNeg + 20), fdU g.2.1 g.1.toNatClampNeg a b c d e, g.2.2) else g
def fdA (g : gzP) : Int := if g.1.toInt ≤ 380 then g.1.toInt + 20 else -1
theorem fdF_1 {g : gzP} {a b c d e : Int32} (h : g.1.toInt ≤ 380) : fdF g a b c d e = (nI (g.1.toNatClampNeg + 20), fdU g.2.1 g.1.toNatClampNeg a b c d e, g.2.2) := if_pos h
theorem fdF_0 {g : gzP} {a b c d e : Int32} (h : 380 < g.1.toInt) : fdF g a b c d e = g := if_neg (by omega)
theorem fdA_1 {g : gzP} (h : g.1.toInt ≤ 380) : fdA g = g.1.toInt + 20 := if_pos h
theorem fdA_0 {g : gzP} (h : 380 < g.1.toInt) : fdA g = -1 := if_neg (by omega)
theorem nI_20 {x z : Int32} (h0 : 0 ≤ x.toInt) (h1 : x.toInt ≤ 400) (hz : z.toInt = x.toInt + 20) : z = nI (x.toNatClampNeg + 20) := by
  have q := tn_of (i := x) rfl h0
  exact Int32.toInt_inj.mp (by rw [nI_toInt (by omega)]; omega)
theorem pgP.fd1 {g : gzP} {V : Nat → Int32} (h : pgP g) (q : g.1.toInt ≤ 380) : pgP (nI (g.1.toNatClampNeg + 20), V, g.2.2) := by
  have q2 := tn_of (i := g.1) rfl h.1.1
  have q3 : (nI (g.1.toNatClampNeg + 20)).toInt = ((g.1.toNatClampNeg + 20 : Nat) : Int) := nI_toInt (by omega)
  exact ⟨⟨by show 0 ≤ (nI (g.1.toNatClampNeg + 20)).toInt; omega, by show (nI (g.1.toNatClampNeg + 20)).toInt ≤ 400; omega⟩, h.2⟩
def enF (g : gzP) (p : Int32) : gzP := if 0 ≤ p.toInt ∧ p.toInt ≤ g.1.toInt then (p, g.2) else g
def enA (g : gzP) (p : Int) : Int := if 0 ≤ p ∧ p ≤ g.1.toInt then 1 else 0
theorem enF_1 {g : gzP} {p : Int32} (h : 0 ≤ p.toInt ∧ p.toInt ≤ g.1.toInt) : enF g p = (p, g.2) := if_pos h
theorem enF_0 {g : gzP} {p : Int32} (h : ¬ (0 ≤ p.toInt ∧ p.toInt ≤ g.1.toInt)) : enF g p = g := if_neg h
theorem enA_1 {g : gzP} {p : Int} (h : 0 ≤ p ∧ p ≤ g.1.toInt) : enA g p = 1 := if_pos h
theorem enA_0 {g : gzP} {p : Int} (h : ¬ (0 ≤ p ∧ p ≤ g.1.toInt)) : enA g p = 0 := if_neg h
theorem pgP.en1 {g : gzP} {p : Int32} (h : pgP g) (q : 0 ≤ p.toInt ∧ p.toInt ≤ g.1.toInt) : pgP (p, g.2) := ⟨⟨q.1, Int.le_trans q.2 h.1.2⟩, h.2⟩
noncomputable def foF (g : gzP) : gzP := (0, g.2.1, fvG g, g.2.2.2)
theorem pgP.fo {g : gzP} (h : pgP g) : pgP (foF g) := ⟨⟨by show (0 : Int) ≤ (0 : Int32).toInt; decide, by show (0 : Int32).toInt ≤ 400; decide⟩, h.2⟩
noncomputable def prV (g : gzP) : Int32 := if prK (laG g).2 g.2.2.2.toInt = 0 then 1 else g.2.2.2
theorem prV_s (g : gzP) : (prK (laG g).2 g.2.2.2.toInt = 0 ∧ (prV g).toInt = 1) ∨ (prK (laG g).2 g.2.2.2.toInt ≠ 0 ∧ (prV g).toInt = g.2.2.2.toInt) := by
  unfold prV
  by_cases h : prK (laG g).2 g.2.2.2.toInt = 0
  · rw [if_pos h]
    exact Or.inl ⟨h, by decide⟩
  · rw [if_neg h]
    exact Or.inr ⟨h, rfl⟩
noncomputable def prF (g : gzP) : gzP := (0, g.2.1, fvG g, prV g)
theorem pgP.pr {g : gzP} (h : pgP g) : pgP (prF g) := by
  have q := prV_s g
  have q2 := h.2
  exact ⟨⟨by show (0 : Int) ≤ (0 : Int32).toInt; decide, by show (0 : Int32).toInt ≤ 400; decide⟩, by show 0 ≤ (prV g).toInt; omega, by show (prV g).toInt ≤ 1; omega⟩
def clF (g : gzP) : gzP := (g.1, g.2.1, g.2.2.1, 0)
theorem pgP.cl {g : gzP} (h : pgP g) : pgP (clF g) := ⟨h.1, by show (0 : Int) ≤ (0 : Int32).toInt; decide, by show (0 : Int32).toInt ≤ 1; decide⟩
theorem pgP.start : pgP ((0 : Int32), (fun _ => 0), (-1 : Int32), (0 : Int32)) := ⟨⟨by show (0 : Int) ≤ (0 : Int32).toInt; decide, by show (0 : Int32).toInt ≤ 400; decide⟩, by show (0 : Int) ≤ (0 : Int32).toInt; decide, by show (0 : Int32).toInt ≤ 1; decide⟩
theorem ofI {x : Int32} {a : Int} (h : x.toInt = a) : x = Int32.ofInt a := by rw [← h]; exact (Int32.ofInt_toInt x).symm
/-- how many settlers there are, whether some hold farms (0, 1), the law in force, the settlers as told (age, sons, coin, cattle, kin, board) -/
abbrev gzQ : Type := Int × Int × zAl × (Nat → Int32) × (Nat → Int32) × (Nat → Int32) × (Nat → Int32) × (Nat → Int32) × (Nat → Int32)
/-- land, farms and the image as numbers; the tape; the settlers and the law -/
abbrev gz : Type := (Nat → Nat → Int) × gzP × gzQ
def gLs (q : gzQ) : Nat → List Int := zLs (fun _ => 0) q.2.2.2.1 q.2.2.2.2.1 q.2.2.2.2.2.1 q.2.2.2.2.2.2.1 q.2.2.2.2.2.2.2.1 q.2.2.2.2.2.2.2.2 (fun _ => 0)
/-- some are chosen -/
def chC (g : gz) (k : Int) : Prop := (1 ≤ k ∧ k ≤ 60) ∧ 0 < g.1 0 3 ∧ zNO (gLs g.2.2) g.2.2.2.2.1 g.2.2.1
noncomputable def chF (g : gz) (k : Int) : gz := @ite gz (g.2.2.2.1 = 0 ∧ chC g k) (Classical.propDecidable _) (g.1, g.2.1, g.2.2.1, 1, g.2.2.2.2) g
theorem chF_1 {g : gz} {k : Int} (h0 : g.2.2.2.1 = 0) (h : chC g k) : chF g k = (g.1, g.2.1, g.2.2.1, 1, g.2.2.2.2) := by
  unfold chF
  exact if_pos ⟨h0, h⟩
theorem chF_0 {g : gz} {k : Int} (h : ¬ chC g k) : chF g k = g := by
  unfold chF
  exact if_neg (fun q => h q.2)
theorem chF_h {g : gz} {k : Int} (h : g.2.2.2.1 = 1) : chF g k = g := by
  unfold chF
  exact if_neg (fun q => by have := q.1; omega)
/-- a settler comes -/
def seO (q : gzQ) (a b c d e : Int) : Prop := ((0 ≤ a ∧ a ≤ 99) ∧ (0 ≤ b ∧ b ≤ 20) ∧ (0 ≤ c ∧ c ≤ 100000) ∧ (0 ≤ d ∧ d ≤ 100) ∧ (0 ≤ e ∧ e ≤ 999999)) ∧ q.1 ≤ 59
def seQ (q : gzQ) (x1 x2 x3 x4 x5 x6 : Int32) : gzQ := (q.1 + 1, q.2.1, q.2.2.1, cu q.2.2.2.1 q.1.toNat x1, cu q.2.2.2.2.1 q.1.toNat x2, cu q.2.2.2.2.2.1 q.1.toNat x3, cu q.2.2.2.2.2.2.1 q.1.toNat x4, cu q.2.2.2.2.2.2.2.1 q.1.toNat x5, cu q.2.2.2.2.2.2.2.2 q.1.toNat x6)
noncomputable def seF (g : gz) (x1 x2 x3 x4 x5 x6 x7 : Int32) : gz := @ite gz (seO g.2.2 x1.toInt x2.toInt x3.toInt x4.toInt x7.toInt) (Classical.propDecidable _) (g.1, g.2.1, seQ g.2.2 x1 x2 x3 x4 x5 x6) g
theorem seF_1 {g : gz} {x1 x2 x3 x4 x5 x6 x7 : Int32} (h : seO g.2.2 x1.toInt x2.toInt x3.toInt x4.toInt x7.toInt) : seF g x1 x2 x3 x4 x5 x6 x7 = (g.1, g.2.1, seQ g.2.2 x1 x2 x3 x4 x5 x6) := by
  unfold seF
  exact if_pos h
theorem seF_0 {g : gz} {x1 x2 x3 x4 x5 x6 x7 : Int32} (h : ¬ seO g.2.2 x1.toInt x2.toInt x3.toInt x4.toInt x7.toInt) : seF g x1 x2 x3 x4 x5 x6 x7 = g := by
  unfold seF
  exact if_neg h
/-- found: 1 the text is wrong, 2 there are holders -/
noncomputable def foK (g : gz) : Int := prK (laG g.2.1).2 g.2.2.2.1
noncomputable def foA (g : gz) : zAl := zlA (tc g.2.1.2.1) g.2.1.1.toNatClampNeg
noncomputable def foZ (g : gz) : gz := if g.2.2.2.1 = 0 ∧ (laG g.2.1).2 = -1 then (g.1, foF g.2.1, g.2.2.1, g.2.2.2.1, foA g, g.2.2.2.2.2) else (g.1, foF g.2.1, g.2.2)
theorem foZ_1 {g : gz} (h0 : g.2.2.2.1 = 0) (h : (laG g.2.1).2 = -1) : foZ g = (g.1, foF g.2.1, g.2.2.1, g.2.2.2.1, foA g, g.2.2.2.2.2) := by
  unfold foZ
  exact if_pos ⟨h0, h⟩
theorem foZ_0 {g : gz} (h : g.2.2.2.1 ≠ 0 ∨ (laG g.2.1).2 ≠ -1) : foZ g = (g.1, foF g.2.1, g.2.2) := by
  unfold foZ
  exact if_neg (fun q => by rcases h with h | h; (exact h q.1); exact h q.2)
theorem zHb_new {vH : Nat → Int32} {n : Int} {i : Nat} {x : Int32} (h : zHb vH n) (hi : n ≤ ((i : Nat) : Int)) : zHb (cu vH i x) (n + 1) := by
  obtain ⟨p, h1, h2⟩ := h
  exact ⟨p, by omega, by rw [cu_o (by omega)]; exact h2⟩
theorem cu_neg {vH : Nat → Int32} {n : Int} {i : Nat} (h : ∀ p : Nat, ((p : Nat) : Int) < n → (vH p).toInt < 0) (hi : ((i : Nat) : Int) = n) : ∀ p : Nat, ((p : Nat) : Int) < n + 1 → (cu vH i (-1) p).toInt < 0 := by
  intro p hp
  by_cases e : p = i
  · rw [cu_s e]; decide
  · rw [cu_o e]; exact h p (by omega)
/-- what the class's board keeps, as numbers -/
def PZm (q : gzQ) (nS : Int) (hl ln : Int32) (yv dv : Int64) (vh vK vF vT vS : Nat → Int32) : Prop := nS = q.1 ∧ zct vh 30 = hl.toInt ∧ ((q.2.1 = 0 ∧ hl.toInt = 0 ∧ ((q.2.2.1.length : Nat) : Int) = ln.toInt ∧ q.2.2.1.length ≤ 20 ∧ zRp q.2.2.1 vK vF vT (tz vS) 400 ∧ (∀ e ∈ q.2.2.1, zok e.2) ∧ yv.toInt = 0 ∧ dv.toInt = 0) ∨ (q.2.1 = 1 ∧ 0 < hl.toInt))
theorem PZm.start {vh vK vF vT vS : Nat → Int32} {a b c d e f : Nat → Int32} (h : ∀ i, i < 30 → (vh i).toInt = 0) : PZm (0, 0, [], a, b, c, d, e, f) 0 0 0 0 0 vh vK vF vT vS := by
  refine ⟨rfl, ?_, Or.inl ⟨rfl, by decide, (show (0 : Int) = (0 : Int32).toInt from by decide), (show 0 ≤ 20 from by decide), zRp_0, (fun e h => by cases h), by decide, by decide⟩⟩
  have : ∀ n, n ≤ 30 → zct vh n = 0 := by
    intro n
    induction n with
    | zero => intro _; rfl
    | succ n ih =>
      intro hn
      have h1 := ih (by omega)
      have h2 := h n (by omega)
      show zct vh n + (if (vh n).toInt = 1 then 1 else 0) = 0
      rw [if_neg (by omega)]
      omega
  exact (this 30 (Nat.le_refl 30)).trans (by decide)
/-- the contents of an array of ints of any kind -/
theorem ct_ofE {D : va_G} {kA : Nat → ClassId} {Sg : Nat → gS} {G : gT} {H : Heap} {a t j n : Nat} {E : gE} (hT : gH D kA Sg G H) (ha : G a = some t) (hs : Sg t = .inr (j, n, E)) (hE : ∀ k v, E G k v → ∃ x : Int32, v = .int x) : ∃ V : Nat → Int32, ct H a n V := by
  have h : ∀ i, i < n → ∃ x : Int32, el H a i = some (.int x) := by
    intro i hi
    obtain ⟨v, e, h⟩ := gH_el hT ha hs hi
    obtain ⟨x, rfl⟩ := hE i v h
    exact ⟨x, e⟩
  refine ⟨fun i => if q : i < n then Classical.choose (h i q) else 0, fun i hi => ?_⟩
  simp only [dif_pos hi]
  exact Classical.choose_spec (h i hi)
theorem mem_u1 {h : Cond} {a b s : List Cond} : ∀ c ∈ h :: (a ++ s), c ∈ h :: ((a ++ b) ++ s) := by
  intro c hc
  rcases List.mem_cons.mp hc with rfl | hc
  · exact List.mem_cons_self
  · rcases List.mem_append.mp hc with q | q
    · exact List.mem_cons_of_mem _ (List.mem_append_left _ (List.mem_append_left _ q))
    · exact List.mem_cons_of_mem _ (List.mem_append_right _ q)
theorem mem_u2 {h : Cond} {a b s : List Cond} : ∀ c ∈ h :: (b ++ s), c ∈ h :: ((a ++ b) ++ s) := by
  intro c hc
  rcases List.mem_cons.mp hc with rfl | hc
  · exact List.mem_cons_self
  · rcases List.mem_append.mp hc with q | q
    · exact List.mem_cons_of_mem _ (List.mem_append_left _ (List.mem_append_right _ q))
    · exact List.mem_cons_of_mem _ (List.mem_append_right _ q)
/-- the same method with more words and more room -/
theorem Met.ww {l : Launch} {y : MethodName} {ws ws' : List Cond} {rm rm' : Room} {Pc : Array Value → State → Prop} {Qc : Array Value → State → Outcome → State → Prop} {mc ms mc' ms' : Nat} {free : Addr → Prop} (h : Met l y ws rm Pc Qc mc ms free) (hw : ∀ c ∈ ws, c ∈ ws') (h1 : rm.frames ≤ rm'.frames) (h2 : rm.cells ≤ rm'.cells) (h3 : rm.slots ≤ rm'.slots) (h4 : rm.locals ≤ rm'.locals) (h5 : mc ≤ mc') (h6 : ms ≤ ms') : Met l y ws' rm' Pc Qc mc' ms' free := by
  intro p e e1 e2 e3 s m args below e4 e5 e6 e7
  obtain ⟨a1, a2, a3, a4, a5, a6, a7, a8⟩ := (Spec.appliesLoose_iff e4).mp e5
  have a9 : s.hasRoom e.platform rm = true := by
    have b7 : s.hasRoom e.platform rm' = true := a7
    simp only [State.hasRoom, Bool.and_eq_true, decide_eq_true_eq] at b7 ⊢
    obtain ⟨⟨⟨⟨c1, c2, c3, c4, c5, c6⟩, c7⟩, c8⟩, c9⟩ := b7
    exact ⟨⟨⟨⟨by omega, by omega, by omega, by omega, by omega, c6⟩, by omega⟩, by omega⟩, c9⟩
  obtain ⟨n, o, g1, g2, g3, g4, L, g5, g6⟩ := h p e e1 e2 e3 s m args below e4 ((Spec.appliesLoose_iff e4).mpr ⟨a1, a2, a3, a4, a5, a6, a9, atoms_intro (fun c hc => atoms_spec (ws := ws') a8 c (hw c hc))⟩) e6 e7
  exact ⟨n, o, g1, g2, g3, g4, L, ⟨g5.1, g5.2.1, g5.2.2.mono h5 h6⟩, g6⟩
