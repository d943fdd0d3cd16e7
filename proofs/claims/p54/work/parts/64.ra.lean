/-- a square in the rectangle of two -/
def inRb (s a b : Int) : Bool := decide (((a % 12 ≤ s % 12 ∨ b % 12 ≤ s % 12) ∧ (s % 12 ≤ a % 12 ∨ s % 12 ≤ b % 12)) ∧ ((a / 12 ≤ s / 12 ∨ b / 12 ≤ s / 12) ∧ (s / 12 ≤ a / 12 ∨ s / 12 ≤ b / 12)))
theorem inR_1 {s a b : Int} (h : ((a % 12 ≤ s % 12 ∨ b % 12 ≤ s % 12) ∧ (s % 12 ≤ a % 12 ∨ s % 12 ≤ b % 12)) ∧ ((a / 12 ≤ s / 12 ∨ b / 12 ≤ s / 12) ∧ (s / 12 ≤ a / 12 ∨ s / 12 ≤ b / 12))) : inRb s a b = true := decide_eq_true h
theorem inR_0 {s a b : Int} (h : ¬ (((a % 12 ≤ s % 12 ∨ b % 12 ≤ s % 12) ∧ (s % 12 ≤ a % 12 ∨ s % 12 ≤ b % 12)) ∧ ((a / 12 ≤ s / 12 ∨ b / 12 ≤ s / 12) ∧ (s / 12 ≤ a / 12 ∨ s / 12 ≤ b / 12)))) : inRb s a b = false := decide_eq_false h
/-- an array after the squares below k of the rectangle got a number -/
def lyV (V : Nat → Int32) (n : Int32) (a b : Int) (k : Nat) : Nat → Int32 := fun j => if (decide (j < k) && inRb ((j : Nat) : Int) a b) = true then n else V j
theorem ly_0 {V : Nat → Int32} {n : Int32} {a b : Int} {i : Nat} : V i = lyV V n a b 0 i := by
  unfold lyV
  rw [if_neg (by simp)]
theorem ly_at {V : Nat → Int32} {n : Int32} {a b : Int} {k : Nat} : lyV V n a b k k = V k := by
  unfold lyV
  rw [if_neg (by simp)]
theorem ly_out {V : Nat → Int32} {n : Int32} {a b : Int} {k i : Nat} (h : inRb ((k : Nat) : Int) a b = false) : lyV V n a b k i = lyV V n a b (k + 1) i := by
  unfold lyV
  by_cases e : i = k
  · subst e; rw [h]; simp
  · have : decide (i < k) = decide (i < k + 1) := by rw [decide_eq_decide]; omega
    rw [this]
theorem ly_in {V : Nat → Int32} {n : Int32} {a b : Int} {k i : Nat} (h : inRb ((k : Nat) : Int) a b = true) : cu (lyV V n a b k) k n i = lyV V n a b (k + 1) i := by
  by_cases e : i = k
  · rw [cu_s e]; unfold lyV; subst e; rw [h]; simp
  · rw [cu_o e]; unfold lyV
    have : decide (i < k) = decide (i < k + 1) := by rw [decide_eq_decide]; omega
    rw [this]
theorem ly_96 {V : Nat → Int32} {n : Int32} {a b : Int} {i : Nat} (hi : i < 96) : lyV V n a b 96 i = if inRb ((i : Nat) : Int) a b = true then n else V i := by
  unfold lyV
  rw [decide_eq_true hi, Bool.true_and]
/-- how many squares below k of the rectangle are sea -/
def ldN (L : Nat → Int) (a b : Int) : Nat → Int
  | 0 => 0
  | k + 1 => ldN L a b k + (if (inRb ((k : Nat) : Int) a b && decide (L k = 0)) = true then 1 else 0)
theorem ldN_b {L : Nat → Int} {a b : Int} : ∀ k : Nat, 0 ≤ ldN L a b k ∧ ldN L a b k ≤ ((k : Nat) : Int)
  | 0 => ⟨Int.le_refl _, Int.le_refl _⟩
  | k + 1 => by
    have h := ldN_b (L := L) (a := a) (b := b) k
    unfold ldN
    split <;> omega
theorem ldN_out {L : Nat → Int} {a b : Int} {k : Nat} {n : Int} (h : inRb ((k : Nat) : Int) a b = false) (e : n = ldN L a b k) : n = ldN L a b (k + 1) := by
  unfold ldN
  rw [h, ← e]
  simp
theorem ldN_one {L : Nat → Int} {a b : Int} {k : Nat} {n m : Int} (h : inRb ((k : Nat) : Int) a b = true) (hL : L k = 0) (e : n = ldN L a b k) (e1 : m = n + 1) : m = ldN L a b (k + 1) := by
  unfold ldN
  rw [h, ← e, e1, decide_eq_true hL]
  simp
theorem ldN_no {L : Nat → Int} {a b : Int} {k : Nat} {n : Int} (h : inRb ((k : Nat) : Int) a b = true) (hL : L k ≠ 0) (e : n = ldN L a b k) : n = ldN L a b (k + 1) := by
  unfold ldN
  rw [h, ← e, decide_eq_false hL]
  simp
theorem ldN_congr {L M : Nat → Int} {a b : Int} : ∀ k : Nat, (∀ j, j < k → L j = M j) → ldN L a b k = ldN M a b k
  | 0, _ => rfl
  | k + 1, h => by
    unfold ldN
    rw [ldN_congr k (fun j hj => h j (by omega)), h k (by omega)]
/-- whether all squares below k of the rectangle are land and of no farm -/
def fmK (L F : Nat → Int) (a b : Int) : Nat → Bool
  | 0 => true
  | k + 1 => fmK L F a b k && (!inRb ((k : Nat) : Int) a b || (decide (L k = 1) && decide (F k = 0)))
theorem fmK_out {L F : Nat → Int} {a b : Int} {k : Nat} {r : Bool} (h : inRb ((k : Nat) : Int) a b = false) (e : fmK L F a b k = r) : fmK L F a b (k + 1) = r := by
  unfold fmK
  rw [h, e]
  simp
theorem fmK_ok {L F : Nat → Int} {a b : Int} {k : Nat} {r : Bool} (hL : L k = 1) (hF : F k = 0) (e : fmK L F a b k = r) : fmK L F a b (k + 1) = r := by
  unfold fmK
  rw [e, decide_eq_true hL, decide_eq_true hF]
  simp
theorem fmK_no {L F : Nat → Int} {a b : Int} {k : Nat} (h : inRb ((k : Nat) : Int) a b = true) (hL : L k ≠ 1 ∨ F k ≠ 0) : fmK L F a b (k + 1) = false := by
  unfold fmK
  rw [h]
  rcases hL with q | q
  · rw [decide_eq_false q]; simp
  · rw [decide_eq_false q]; simp
theorem fmK_end {L F : Nat → Int} {a b : Int} {k : Nat} (h : fmK L F a b k = false) : ∀ m, fmK L F a b (k + m) = false
  | 0 => h
  | m + 1 => by
    show fmK L F a b ((k + m) + 1) = false
    unfold fmK
    rw [fmK_end h m]
    simp
theorem fmK_congr {L M F K : Nat → Int} {a b : Int} : ∀ k : Nat, (∀ j, j < k → L j = M j) → (∀ j, j < k → (F j = 0 ↔ K j = 0)) → fmK L F a b k = fmK M K a b k
  | 0, _, _ => rfl
  | k + 1, h1, h2 => by
    have e : decide (F k = 0) = decide (K k = 0) := by rw [decide_eq_decide]; exact h2 k (by omega)
    unfold fmK
    rw [fmK_congr k (fun j hj => h1 j (by omega)) (fun j hj => h2 j (by omega)), h1 k (by omega), e]
/-- the answers of the calls as numbers: codes of what is thrown, answers -/
def laC (ho a b h s d : Int) : Int := if 0 ≤ a ∧ a ≤ 95 ∧ 0 ≤ b ∧ b ≤ 95 then (if -900 ≤ h ∧ h ≤ 300 ∧ 0 ≤ s ∧ s ≤ 2 ∧ 0 ≤ d ∧ d ≤ 20 then (if ho = 0 then 0 else 3) else 2) else 1
theorem laC_s (ho a b h s d : Int) : (laC ho a b h s d = 1 ∧ ¬ (0 ≤ a ∧ a ≤ 95 ∧ 0 ≤ b ∧ b ≤ 95)) ∨ (laC ho a b h s d = 2 ∧ (0 ≤ a ∧ a ≤ 95 ∧ 0 ≤ b ∧ b ≤ 95) ∧ ¬ (-900 ≤ h ∧ h ≤ 300 ∧ 0 ≤ s ∧ s ≤ 2 ∧ 0 ≤ d ∧ d ≤ 20)) ∨ (laC ho a b h s d = 3 ∧ (0 ≤ a ∧ a ≤ 95 ∧ 0 ≤ b ∧ b ≤ 95) ∧ (-900 ≤ h ∧ h ≤ 300 ∧ 0 ≤ s ∧ s ≤ 2 ∧ 0 ≤ d ∧ d ≤ 20) ∧ ho ≠ 0) ∨ (laC ho a b h s d = 0 ∧ (0 ≤ a ∧ a ≤ 95 ∧ 0 ≤ b ∧ b ≤ 95) ∧ (-900 ≤ h ∧ h ≤ 300 ∧ 0 ≤ s ∧ s ≤ 2 ∧ 0 ≤ d ∧ d ≤ 20) ∧ ho = 0) := by
  unfold laC
  split
  · split
    · split <;> omega
    · omega
  · omega
def fiC (a w s : Int) : Int := if 0 ≤ a ∧ a ≤ 95 then (if 0 ≤ w ∧ w ≤ 900 ∧ 0 ≤ s ∧ s ≤ 100000 then 0 else 2) else 1
theorem fiC_s (a w s : Int) : (fiC a w s = 1 ∧ ¬ (0 ≤ a ∧ a ≤ 95)) ∨ (fiC a w s = 2 ∧ (0 ≤ a ∧ a ≤ 95) ∧ ¬ (0 ≤ w ∧ w ≤ 900 ∧ 0 ≤ s ∧ s ≤ 100000)) ∨ (fiC a w s = 0 ∧ (0 ≤ a ∧ a ≤ 95) ∧ (0 ≤ w ∧ w ≤ 900 ∧ 0 ≤ s ∧ s ≤ 100000)) := by
  unfold fiC
  split
  · split <;> omega
  · omega
def faC (a b : Int) : Int := if 0 ≤ a ∧ a ≤ 95 ∧ 0 ≤ b ∧ b ≤ 95 then 0 else 1
theorem faC_s (a b : Int) : (faC a b = 1 ∧ ¬ (0 ≤ a ∧ a ≤ 95 ∧ 0 ≤ b ∧ b ≤ 95)) ∨ (faC a b = 0 ∧ (0 ≤ a ∧ a ≤ 95 ∧ 0 ≤ b ∧ b ≤ 95)) := by
  unfold faC
  split <;> omega
def soC (nf a k : Int) : Int := if 0 ≤ a ∧ a < nf then (if 0 ≤ k ∧ k ≤ 3 then 0 else 2) else 1
theorem soC_s (nf a k : Int) : (soC nf a k = 1 ∧ ¬ (0 ≤ a ∧ a < nf)) ∨ (soC nf a k = 2 ∧ (0 ≤ a ∧ a < nf) ∧ ¬ (0 ≤ k ∧ k ≤ 3)) ∨ (soC nf a k = 0 ∧ (0 ≤ a ∧ a < nf) ∧ (0 ≤ k ∧ k ≤ 3)) := by
  unfold soC
  split
  · split <;> omega
  · omega
def hoC (n : Int) : Int := if 0 ≤ n ∧ n ≤ 240 then 0 else 1
theorem hoC_s (n : Int) : (hoC n = 1 ∧ ¬ (0 ≤ n ∧ n ≤ 240)) ∨ (hoC n = 0 ∧ (0 ≤ n ∧ n ≤ 240)) := by
  unfold hoC
  split <;> omega
/-- the hour behind so many hours -/
def hoA (h n : Int) : Int := if h + n ≤ 40000 then h + n else 40000
theorem hoA_s (h n : Int) : (hoA h n = h + n ∧ h + n ≤ 40000) ∨ (hoA h n = 40000 ∧ 40000 < h + n) := by
  unfold hoA
  split <;> omega
theorem fm_a {n : Int} {x : Bool} (h : n < 30) (e : x = true) : (decide (n < 30) && x) = true := by rw [decide_eq_true h, e]; rfl
theorem fm_b {n : Int} {x : Bool} (h : ¬ n < 30) : (decide (n < 30) && x) = false := by rw [decide_eq_false h]; rfl
theorem fm_c {n : Int} {x : Bool} (h : n < 30) (e : x = true) : (decide (n < 30) && x) = true := fm_a h e
theorem fm_d {n : Int} {x : Bool} (h : (decide (n < 30) && x) = true) : x = true := by
  cases x
  · rw [Bool.and_false] at h; exact h
  · rfl
theorem fm_e {n : Int} {x : Bool} (e : x = false) : (decide (n < 30) && x) = false := by rw [e, Bool.and_false]
theorem fm_f {n : Int} {L F : Nat → Int} {a b : Int} {k : Nat} (hk : k = 96) (h : (decide (n < 30) && fmK L F a b k) = true) : (decide (n < 30) && fmK L F a b 96) = true := by rw [← hk]; exact h
theorem fm_g {n : Int} {L F : Nat → Int} {a b : Int} {k : Nat} (h : (decide (n < 30) && fmK L F a b k) = false) (hk : k ≤ 96) : (decide (n < 30) && fmK L F a b 96) = false := by
  by_cases q : n < 30
  · rw [decide_eq_true q, Bool.true_and] at h
    rw [show (96 : Nat) = k + (96 - k) by omega, fmK_end h, Bool.and_false]
  · exact fm_b q
theorem fm_h {n : Int} {x : Bool} (h : (decide (n < 30) && x) = true) : n ≤ 29 := by
  by_cases q : n < 30
  · omega
  · rw [fm_b q] at h; cases h
/-- land after the squares below k of the rectangle were told -/
def lndB (L : Nat → Prop) (a b : Int) (k : Nat) : Nat → Prop := fun j => L j ∨ (j < k ∧ inRb ((j : Nat) : Int) a b = true)
theorem lb_0 {L : Nat → Prop} {a b : Int} {j : Nat} : L j ↔ lndB L a b 0 j := ⟨Or.inl, fun h => h.elim id (fun q => absurd q.1 (Nat.not_lt_zero j))⟩
theorem lb_at {L : Nat → Prop} {a b : Int} {k : Nat} : lndB L a b k k ↔ L k := ⟨fun h => h.elim id (fun q => absurd q.1 (Nat.lt_irrefl k)), Or.inl⟩
theorem lb_in {L : Nat → Prop} {a b : Int} {k j : Nat} (h : inRb ((k : Nat) : Int) a b = true) : (lndB L a b k j ∨ j = k) ↔ lndB L a b (k + 1) j := by
  constructor
  · rintro ((q | q) | q)
    · exact Or.inl q
    · exact Or.inr ⟨by omega, q.2⟩
    · subst q; exact Or.inr ⟨by omega, h⟩
  · rintro (q | q)
    · exact Or.inl (Or.inl q)
    · by_cases e : j = k
      · exact Or.inr e
      · exact Or.inl (Or.inr ⟨by omega, q.2⟩)
theorem lb_out {L : Nat → Prop} {a b : Int} {k j : Nat} (h : inRb ((k : Nat) : Int) a b = false) : lndB L a b k j ↔ lndB L a b (k + 1) j := by
  constructor
  · rintro (q | q)
    · exact Or.inl q
    · exact Or.inr ⟨by omega, q.2⟩
  · rintro (q | q)
    · exact Or.inl q
    · by_cases e : j = k
      · subst e; rw [h] at q; exact absurd q.2 (by decide)
      · exact Or.inr ⟨by omega, q.2⟩
theorem lb_L {W : Nat → Prop} {L : Nat → Int} {a b : Int} {k z : Nat} (hL : ∀ i, i < 96 → (W i ↔ L i = 1) ∧ (0 ≤ L i ∧ L i ≤ 1)) (hk : k < 96) (e : z = k) (h : lndB W a b k z) : L k ≠ 0 := by
  subst e
  have := (hL z hk).1.mp (lb_at.mp h)
  omega
theorem lb_N {W : Nat → Prop} {L : Nat → Int} {a b : Int} {k z : Nat} (hL : ∀ i, i < 96 → (W i ↔ L i = 1) ∧ (0 ≤ L i ∧ L i ≤ 1)) (hk : k < 96) (e : z = k) (h : ¬ lndB W a b k z) : L k = 0 := by
  subst e
  have h1 : L z ≠ 1 := fun q => h (lb_at.mpr ((hL z hk).1.mpr q))
  have := (hL z hk).2
  omega
theorem wdL_1 {W : Nat → Prop} {L : Nat → Int} {k z : Nat} (hL : ∀ i, i < 96 → (W i ↔ L i = 1) ∧ (0 ≤ L i ∧ L i ≤ 1)) (hk : k < 96) (e : z = k) (h : W z) : L k = 1 := by
  subst e
  exact (hL z hk).1.mp h
theorem wdL_0 {W : Nat → Prop} {L : Nat → Int} {k z : Nat} (hL : ∀ i, i < 96 → (W i ↔ L i = 1) ∧ (0 ≤ L i ∧ L i ≤ 1)) (hk : k < 96) (e : z = k) (h : ¬ W z) : L k ≠ 1 := by
  subst e
  exact fun q => h ((hL z hk).1.mpr q)
/-- whether a square is of one of the first n rectangles -/
def frm (A B : Nat → Int32) (n s : Int) : Prop := ∃ f : Nat, ((f : Nat) : Int) < n ∧ inRb s (A f).toInt (B f).toInt = true
theorem frm_no {A B : Nat → Int32} {n s : Int} (h : ∀ f : Nat, ((f : Nat) : Int) < n → inRb s (A f).toInt (B f).toInt = false) : ¬ frm A B n s := fun ⟨f, h1, h2⟩ => by rw [h f h1] at h2; cases h2
theorem fF_0 {A B : Nat → Int32} {F : Nat → Int} {n : Int} {k : Nat} {s : Int} (hF : ∀ i, i < 96 → (frm A B n ((i : Nat) : Int) ↔ F i = 1) ∧ (0 ≤ F i ∧ F i ≤ 1)) (hk : k < 96) (e : s = ((k : Nat) : Int)) (h : ¬ frm A B n s) : F k = 0 := by
  subst e
  have h1 : F k ≠ 1 := fun q => h ((hF k hk).1.mpr q)
  have := (hF k hk).2
  omega
theorem fF_1 {A B : Nat → Int32} {F : Nat → Int} {n : Int} {k : Nat} {s : Int} (hF : ∀ i, i < 96 → (frm A B n ((i : Nat) : Int) ↔ F i = 1) ∧ (0 ≤ F i ∧ F i ≤ 1)) (hk : k < 96) (e : s = ((k : Nat) : Int)) (h : frm A B n s) : F k ≠ 0 := by
  subst e
  have := (hF k hk).1.mp h
  omega
