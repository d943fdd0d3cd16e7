/-- what stands in an array of ints, place by place -/
def ct (H : Heap) (a n : Nat) (V : Nat → Int32) : Prop := ∀ i, i < n → el H a i = some (.int (V i))
def cu (V : Nat → Int32) (i : Nat) (x : Int32) : Nat → Int32 := fun k => if k = i then x else V k
theorem cu_s {V : Nat → Int32} {i k : Nat} {x : Int32} (h : k = i) : cu V i x k = x := if_pos h
theorem cu_o {V : Nat → Int32} {i k : Nat} {x : Int32} (h : k ≠ i) : cu V i x k = V k := if_neg h
theorem ct.kept {H H1 : Heap} {a n : Nat} {V : Nat → Int32} (h : ct H a n V) (e : H1[a]? = H[a]?) : ct H1 a n V := fun i hi => (el_kept e).trans (h i hi)
theorem ct.put {H H1 : Heap} {a n : Nat} {V : Nat → Int32} (h : ct H a n V) {i : Nat} {x : Int32} (e : el H1 a i = some (.int x)) (o : ∀ k, k ≠ i → el H1 a k = el H a k) : ct H1 a n (cu V i x) := by
  intro k hk
  by_cases q : k = i
  · rw [cu_s q, q]; exact e
  · rw [cu_o q]; exact (o k q).trans (h k hk)
theorem ct.at {H : Heap} {a n : Nat} {V : Nat → Int32} (h : ct H a n V) {i : Nat} {x : Int32} (e : el H a i = some (.int x)) (hi : i < n) : x = V i := by
  rw [h i hi] at e
  cases e
  rfl
theorem ct.ext {H : Heap} {a n : Nat} {V W : Nat → Int32} (h : ct H a n V) (e : ∀ i, i < n → V i = W i) : ct H a n W := fun i hi => by rw [← e i hi]; exact h i hi
theorem ct_of {D : va_G} {kA : Nat → ClassId} {Sg : Nat → gS} {G : gT} {H : Heap} {a t j n : Nat} {lo hi : Int} (hT : gH D kA Sg G H) (ha : G a = some t) (hs : Sg t = .inr (j, n, ga (gI lo hi))) : ∃ V : Nat → Int32, ct H a n V ∧ ∀ i, i < n → lo ≤ (V i).toInt ∧ (V i).toInt ≤ hi := by
  have h : ∀ i, i < n → ∃ x : Int32, el H a i = some (.int x) ∧ lo ≤ x.toInt ∧ x.toInt ≤ hi := by
    intro i hi
    obtain ⟨v, e, x, rfl, h1, h2⟩ := gH_el hT ha hs hi
    exact ⟨x, e, h1, h2⟩
  refine ⟨fun i => if q : i < n then Classical.choose (h i q) else 0, fun i hi => ?_, fun i hi => ?_⟩
  · simp only [dif_pos hi]; exact (Classical.choose_spec (h i hi)).1
  · simp only [dif_pos hi]; exact (Classical.choose_spec (h i hi)).2
theorem ct_rng {D : va_G} {kA : Nat → ClassId} {Sg : Nat → gS} {G : gT} {H : Heap} {a t j n : Nat} {lo hi : Int} {V : Nat → Int32} (hT : gH D kA Sg G H) (ha : G a = some t) (hs : Sg t = .inr (j, n, ga (gI lo hi))) (h : ct H a n V) : ∀ i, i < n → lo ≤ (V i).toInt ∧ (V i).toInt ≤ hi := by
  intro i hi
  obtain ⟨v, e, x, rfl, h1, h2⟩ := gH_el hT ha hs hi
  rw [h i hi] at e
  cases e
  exact ⟨h1, h2⟩
/-- an array whose places below k got a number -/
def flV (V : Nat → Int32) (x : Int32) (k : Nat) : Nat → Int32 := fun j => if j < k then x else V j
theorem fl_0 {V : Nat → Int32} {x : Int32} {i : Nat} : V i = flV V x 0 i := (if_neg (Nat.not_lt_zero i)).symm
theorem fl_s {V : Nat → Int32} {x : Int32} {k i : Nat} : cu (flV V x k) k x i = flV V x (k + 1) i := by
  by_cases e : i = k
  · rw [cu_s e]; exact (if_pos (by omega)).symm
  · rw [cu_o e]; unfold flV
    by_cases q : i < k
    · rw [if_pos q, if_pos (by omega)]
    · rw [if_neg q, if_neg (by omega)]
theorem fl_e {V : Nat → Int32} {x : Int32} {k i : Nat} (h : i < k) : flV V x k i = x := if_pos h
