/-- what the storms bring more in an hour -/
def osm (F O M : Nat → Int) (h : Int) : Nat → Int
  | 0 => 0
  | k + 1 => osm F O M h k + (if F k ≤ h ∧ h ≤ O k then M k else 0)
theorem osm_in {F O M : Nat → Int} {h a n m : Int} {k : Nat} (q : F k ≤ h ∧ h ≤ O k) (e : n = a + osm F O M h k) (e1 : m = n + M k) : m = a + osm F O M h (k + 1) := by
  unfold osm
  rw [if_pos q]
  omega
theorem osm_no {F O M : Nat → Int} {h a n : Int} {k : Nat} (q : ¬ (F k ≤ h ∧ h ≤ O k)) (e : n = a + osm F O M h k) : n = a + osm F O M h (k + 1) := by
  unfold osm
  rw [if_neg q]
  omega
theorem osm_nn {F O M : Nat → Int} {h a n m : Int} {k : Nat} (q : ¬ (F k ≤ h ∧ h ≤ O k)) (e : n = a + osm F O M h k) (e1 : m = n) : m = a + osm F O M h (k + 1) := by
  rw [e1]
  exact osm_no q e
theorem osm_congr {F O M F1 O1 M1 : Nat → Int} {h : Int} : ∀ k : Nat, (∀ j, j < k → F j = F1 j ∧ O j = O1 j ∧ M j = M1 j) → osm F O M h k = osm F1 O1 M1 h k
  | 0, _ => rfl
  | k + 1, e => by
    unfold osm
    rw [osm_congr k (fun j hj => e j (by omega)), (e k (by omega)).1, (e k (by omega)).2.1, (e k (by omega)).2.2]
/-- the telling that stands at an hour: the latest one of the greatest hour up to it -/
def TE (hr : Nat → Int) (n : Nat) (h r : Int) : Prop := (r = -1 ∧ ∀ i, i < n → h < hr i) ∨ (∃ j : Nat, j < n ∧ r = ((j : Nat) : Int) ∧ hr j ≤ h ∧ ∀ i, i < n → hr i ≤ h → hr i < hr j ∨ (hr i = hr j ∧ i ≤ j))
theorem TE.uniq {hr : Nat → Int} {n : Nat} {h r s : Int} (a : TE hr n h r) (b : TE hr n h s) : r = s := by
  rcases a with ⟨a1, a2⟩ | ⟨j, a1, a2, a3, a4⟩
  · rcases b with ⟨b1, b2⟩ | ⟨k, b1, b2, b3, b4⟩
    · omega
    · have := a2 k b1; omega
  · rcases b with ⟨b1, b2⟩ | ⟨k, b1, b2, b3, b4⟩
    · have := b2 j a1; omega
    · have h1 := a4 k b1 b3
      have h2 := b4 j a1 a3
      omega
/-- the number that is told for the nearest hour ahead, of those that are numbers -/
def BF (hr num : Nat → Int) (n : Nat) (o b : Int) : Prop := (b = 0 ∧ ∀ i, i < n → 0 ≤ num i → Lst hr ((n : Nat) : Int) i → o ≤ hr i) ∨ (∃ j : Nat, j < n ∧ 0 ≤ num j ∧ Lst hr ((n : Nat) : Int) j ∧ hr j < o ∧ b = num j ∧ ∀ i, i < n → 0 ≤ num i → Lst hr ((n : Nat) : Int) i → hr i < o → hr i ≤ hr j)
def AF (hr num : Nat → Int) (n : Nat) (o b : Int) : Prop := (b = 0 ∧ ∀ i, i < n → 0 ≤ num i → Lst hr ((n : Nat) : Int) i → hr i ≤ o) ∨ (∃ j : Nat, j < n ∧ 0 ≤ num j ∧ Lst hr ((n : Nat) : Int) j ∧ o < hr j ∧ b = num j ∧ ∀ i, i < n → 0 ≤ num i → Lst hr ((n : Nat) : Int) i → o < hr i → hr j ≤ hr i)
theorem Lst.eq {hr : Nat → Int} {n j k : Nat} (hj : j < n) (hk : k < n) (a : Lst hr ((n : Nat) : Int) j) (b : Lst hr ((n : Nat) : Int) k) (e : hr j = hr k) : j = k := by
  rcases Nat.lt_trichotomy j k with h | h | h
  · exact absurd e.symm (a k h (by omega))
  · exact h
  · exact absurd e (b j h (by omega))
theorem BF.uniq {hr num : Nat → Int} {n : Nat} {o b c : Int} (x : BF hr num n o b) (y : BF hr num n o c) : b = c := by
  rcases x with ⟨x1, x2⟩ | ⟨j, x1, x2, x3, x4, x5, x6⟩
  · rcases y with ⟨y1, y2⟩ | ⟨k, y1, y2, y3, y4, y5, y6⟩
    · omega
    · have := x2 k y1 y2 y3; omega
  · rcases y with ⟨y1, y2⟩ | ⟨k, y1, y2, y3, y4, y5, y6⟩
    · have := y2 j x1 x2 x3; omega
    · have h1 := x6 k y1 y2 y3 y4
      have h2 := y6 j x1 x2 x3 x4
      have h3 := Lst.eq x1 y1 x3 y3 (by omega)
      rw [x5, y5, h3]
theorem AF.uniq {hr num : Nat → Int} {n : Nat} {o b c : Int} (x : AF hr num n o b) (y : AF hr num n o c) : b = c := by
  rcases x with ⟨x1, x2⟩ | ⟨j, x1, x2, x3, x4, x5, x6⟩
  · rcases y with ⟨y1, y2⟩ | ⟨k, y1, y2, y3, y4, y5, y6⟩
    · omega
    · have := x2 k y1 y2 y3; omega
  · rcases y with ⟨y1, y2⟩ | ⟨k, y1, y2, y3, y4, y5, y6⟩
    · have := y2 j x1 x2 x3; omega
    · have h1 := x6 k y1 y2 y3 y4
      have h2 := y6 j x1 x2 x3 x4
      have h3 := Lst.eq x1 y1 x3 y3 (by omega)
      rw [x5, y5, h3]
/-- rain and wind of an hour -/
def RA (hr num : Nat → Int) (n : Nat) (h a : Int) : Prop := ∃ r : Int, TE hr n h r ∧ ((r = -1 ∧ a = 0) ∨ (∃ j : Nat, r = ((j : Nat) : Int) ∧ a = num j))
def WA (hr num : Nat → Int) (n : Nat) (h a : Int) : Prop := ∃ r : Int, TE hr n h r ∧ ((r = -1 ∧ a = 0) ∨ (∃ j : Nat, r = ((j : Nat) : Int) ∧ ((0 ≤ num j ∧ a = num j) ∨ (num j < 0 ∧ ∃ b c : Int, BF hr num n (hr j) b ∧ AF hr num n (hr j) c ∧ ((b ≤ c ∧ a = c) ∨ (c ≤ b ∧ a = b))))))
theorem RA.uniq {hr num : Nat → Int} {n : Nat} {h a b : Int} (x : RA hr num n h a) (y : RA hr num n h b) : a = b := by
  obtain ⟨r, x1, x2⟩ := x
  obtain ⟨s, y1, y2⟩ := y
  have e := x1.uniq y1
  subst e
  rcases x2 with ⟨x3, x4⟩ | ⟨j, x3, x4⟩
  · rcases y2 with ⟨y3, y4⟩ | ⟨k, y3, y4⟩ <;> omega
  · rcases y2 with ⟨y3, y4⟩ | ⟨k, y3, y4⟩
    · omega
    · obtain rfl : j = k := by omega
      rw [x4, y4]
theorem WA.uniq {hr num : Nat → Int} {n : Nat} {h a b : Int} (x : WA hr num n h a) (y : WA hr num n h b) : a = b := by
  obtain ⟨r, x1, x2⟩ := x
  obtain ⟨s, y1, y2⟩ := y
  have e := x1.uniq y1
  subst e
  rcases x2 with ⟨x3, x4⟩ | ⟨j, x3, x4⟩
  · rcases y2 with ⟨y3, y4⟩ | ⟨k, y3, y4⟩ <;> omega
  · rcases y2 with ⟨y3, y4⟩ | ⟨k, y3, y4⟩
    · omega
    · obtain rfl : j = k := by omega
      rcases x4 with ⟨x4, x5⟩ | ⟨x4, b1, c1, x5, x6, x7⟩
      · rcases y4 with ⟨y4, y5⟩ | ⟨y4, b2, c2, y5, y6, y7⟩ <;> omega
      · rcases y4 with ⟨y4, y5⟩ | ⟨y4, b2, c2, y5, y6, y7⟩
        · omega
        · have e1 := x5.uniq y5
          have e2 := x6.uniq y6
          omega
theorem TE.congr {hr hr1 : Nat → Int} {n : Nat} {h r : Int} (x : TE hr n h r) (e : ∀ i, i < n → hr i = hr1 i) : TE hr1 n h r := by
  rcases x with ⟨x1, x2⟩ | ⟨j, x1, x2, x3, x4⟩
  · exact Or.inl ⟨x1, fun i hi => by rw [← e i hi]; exact x2 i hi⟩
  · exact Or.inr ⟨j, x1, x2, by rw [← e j x1]; exact x3, fun i hi hc => by rw [← e i hi] at hc ⊢; rw [← e j x1]; exact x4 i hi hc⟩
theorem Lst.congr {hr hr1 : Nat → Int} {n i : Nat} (e : ∀ i, i < n → hr i = hr1 i) (hi : i < n) : Lst hr ((n : Nat) : Int) i ↔ Lst hr1 ((n : Nat) : Int) i := by
  constructor
  · intro x j hj hj2
    rw [← e j (by omega), ← e i hi]; exact x j hj hj2
  · intro x j hj hj2
    rw [e j (by omega), e i hi]; exact x j hj hj2
theorem BF.congr {hr hr1 num num1 : Nat → Int} {n : Nat} {o b : Int} (x : BF hr num n o b) (e : ∀ i, i < n → hr i = hr1 i ∧ num i = num1 i) : BF hr1 num1 n o b := by
  have l : ∀ i, i < n → (Lst hr1 ((n : Nat) : Int) i → Lst hr ((n : Nat) : Int) i) := fun i hi => (Lst.congr (fun i hi => (e i hi).1) hi).mpr
  rcases x with ⟨x1, x2⟩ | ⟨j, x1, x2, x3, x4, x5, x6⟩
  · exact Or.inl ⟨x1, fun i hi hp hl => by rw [← (e i hi).1]; rw [← (e i hi).2] at hp; exact x2 i hi hp (l i hi hl)⟩
  · exact Or.inr ⟨j, x1, by rw [← (e j x1).2]; exact x2, (Lst.congr (fun i hi => (e i hi).1) x1).mp x3, by rw [← (e j x1).1]; exact x4, by rw [← (e j x1).2]; exact x5, fun i hi hp hl hc => by rw [← (e i hi).1] at hc ⊢; rw [← (e i hi).2] at hp; rw [← (e j x1).1]; exact x6 i hi hp (l i hi hl) hc⟩
theorem AF.congr {hr hr1 num num1 : Nat → Int} {n : Nat} {o b : Int} (x : AF hr num n o b) (e : ∀ i, i < n → hr i = hr1 i ∧ num i = num1 i) : AF hr1 num1 n o b := by
  have l : ∀ i, i < n → (Lst hr1 ((n : Nat) : Int) i → Lst hr ((n : Nat) : Int) i) := fun i hi => (Lst.congr (fun i hi => (e i hi).1) hi).mpr
  rcases x with ⟨x1, x2⟩ | ⟨j, x1, x2, x3, x4, x5, x6⟩
  · exact Or.inl ⟨x1, fun i hi hp hl => by rw [← (e i hi).1]; rw [← (e i hi).2] at hp; exact x2 i hi hp (l i hi hl)⟩
  · exact Or.inr ⟨j, x1, by rw [← (e j x1).2]; exact x2, (Lst.congr (fun i hi => (e i hi).1) x1).mp x3, by rw [← (e j x1).1]; exact x4, by rw [← (e j x1).2]; exact x5, fun i hi hp hl hc => by rw [← (e i hi).1] at hc ⊢; rw [← (e i hi).2] at hp; rw [← (e j x1).1]; exact x6 i hi hp (l i hi hl) hc⟩
theorem TE.in {hr : Nat → Int} {n : Nat} {h r : Int} (x : TE hr n h r) {j : Nat} (e : r = ((j : Nat) : Int)) : j < n := by
  rcases x with ⟨x1, x2⟩ | ⟨k, x1, x2, x3, x4⟩ <;> omega
theorem RA.congr {hr hr1 num num1 : Nat → Int} {n : Nat} {h a : Int} (x : RA hr num n h a) (e : ∀ i, i < n → hr i = hr1 i ∧ num i = num1 i) : RA hr1 num1 n h a := by
  obtain ⟨r, x1, x2⟩ := x
  refine ⟨r, x1.congr (fun i hi => (e i hi).1), ?_⟩
  rcases x2 with x2 | ⟨j, x2, x3⟩
  · exact Or.inl x2
  · exact Or.inr ⟨j, x2, by rw [← (e j (x1.in x2)).2]; exact x3⟩
theorem WA.congr {hr hr1 num num1 : Nat → Int} {n : Nat} {h a : Int} (x : WA hr num n h a) (e : ∀ i, i < n → hr i = hr1 i ∧ num i = num1 i) : WA hr1 num1 n h a := by
  obtain ⟨r, x1, x2⟩ := x
  refine ⟨r, x1.congr (fun i hi => (e i hi).1), ?_⟩
  rcases x2 with x2 | ⟨j, x2, x3⟩
  · exact Or.inl x2
  · have ej := e j (x1.in x2)
    refine Or.inr ⟨j, x2, ?_⟩
    rw [← ej.1, ← ej.2]
    rcases x3 with x3 | ⟨x3, b, c, x4, x5, x6⟩
    · exact Or.inl x3
    · exact Or.inr ⟨x3, b, c, x4.congr e, x5.congr e, x6⟩
/-- the class's loops: the place found so far and its hour -/
def stI (c : Nat → Int) (k : Nat) (h f l : Int) : Prop := (f = -1 ∧ l = -1 ∧ ∀ i, i < k → c i ≤ h → c i ≤ -1) ∨ (∃ j : Nat, j < k ∧ f = ((j : Nat) : Int) ∧ l = c j ∧ c j ≤ h ∧ -1 < c j ∧ ∀ i, i < k → c i ≤ h → c i ≤ c j)
theorem st_0 {c : Nat → Int} {h : Int} : stI c 0 h (-1) (-1) := Or.inl ⟨rfl, rfl, fun i hi => absurd hi (Nat.not_lt_zero i)⟩
theorem st_00 {c : Nat → Int} {h f l : Int} (e1 : f = -1) (e2 : l = -1) : stI c 0 h f l := by
  rw [e1, e2]
  exact st_0
theorem st_new {c : Nat → Int} {k : Nat} {h f l f1 l1 : Int} (s : stI c k h f l) (a : c k ≤ h) (b : l < c k) (e1 : f1 = ((k : Nat) : Int)) (e2 : l1 = c k) : stI c (k + 1) h f1 l1 := by
  refine Or.inr ⟨k, by omega, e1, e2, a, ?_, fun i hi hc => ?_⟩
  · rcases s with ⟨s1, s2, s3⟩ | ⟨j, s1, s2, s3, s4, s5, s6⟩ <;> omega
  · by_cases e : i = k
    · rw [e]; exact Int.le_refl _
    · rcases s with ⟨s1, s2, s3⟩ | ⟨j, s1, s2, s3, s4, s5, s6⟩
      · have := s3 i (by omega) hc; omega
      · have := s6 i (by omega) hc; omega
theorem st_old {c : Nat → Int} {k : Nat} {h f l : Int} (s : stI c k h f l) (a : ¬ (c k ≤ h ∧ l < c k)) : stI c (k + 1) h f l := by
  rcases s with ⟨s1, s2, s3⟩ | ⟨j, s1, s2, s3, s4, s5, s6⟩
  · refine Or.inl ⟨s1, s2, fun i hi hc => ?_⟩
    by_cases e : i = k
    · subst e; omega
    · exact s3 i (by omega) hc
  · refine Or.inr ⟨j, by omega, s2, s3, s4, s5, fun i hi hc => ?_⟩
    by_cases e : i = k
    · subst e; omega
    · exact s6 i (by omega) hc
def nbI (c m : Nat → Int) (k : Nat) (o v l : Int) : Prop := (v = -1 ∧ l = -1 ∧ ∀ i, i < k → m i ≠ -1 → c i < o → c i ≤ -1) ∨ (∃ j : Nat, j < k ∧ v = m j ∧ l = c j ∧ m j ≠ -1 ∧ c j < o ∧ -1 < c j ∧ ∀ i, i < k → m i ≠ -1 → c i < o → c i ≤ c j)
theorem nb_0 {c m : Nat → Int} {o : Int} : nbI c m 0 o (-1) (-1) := Or.inl ⟨rfl, rfl, fun i hi => absurd hi (Nat.not_lt_zero i)⟩
theorem nb_00 {c m : Nat → Int} {o f l : Int} (e1 : f = -1) (e2 : l = -1) : nbI c m 0 o f l := by
  rw [e1, e2]
  exact nb_0
theorem nb_new {c m : Nat → Int} {k : Nat} {o v l v1 l1 : Int} (s : nbI c m k o v l) (z : m k ≠ -1) (a : c k < o) (b : l < c k) (e1 : v1 = m k) (e2 : l1 = c k) : nbI c m (k + 1) o v1 l1 := by
  refine Or.inr ⟨k, by omega, e1, e2, z, a, ?_, fun i hi hm hc => ?_⟩
  · rcases s with ⟨s1, s2, s3⟩ | ⟨j, s1, s2, s3, s4, s5, s6, s7⟩ <;> omega
  · by_cases e : i = k
    · rw [e]; exact Int.le_refl _
    · rcases s with ⟨s1, s2, s3⟩ | ⟨j, s1, s2, s3, s4, s5, s6, s7⟩
      · have := s3 i (by omega) hm hc; omega
      · have := s7 i (by omega) hm hc; omega
theorem nb_old {c m : Nat → Int} {k : Nat} {o v l : Int} (s : nbI c m k o v l) (a : ¬ (m k ≠ -1 ∧ c k < o ∧ l < c k)) : nbI c m (k + 1) o v l := by
  rcases s with ⟨s1, s2, s3⟩ | ⟨j, s1, s2, s3, s4, s5, s6, s7⟩
  · refine Or.inl ⟨s1, s2, fun i hi hm hc => ?_⟩
    by_cases e : i = k
    · subst e; omega
    · exact s3 i (by omega) hm hc
  · refine Or.inr ⟨j, by omega, s2, s3, s4, s5, s6, fun i hi hm hc => ?_⟩
    by_cases e : i = k
    · subst e; omega
    · exact s7 i (by omega) hm hc
def naI (c m : Nat → Int) (k : Nat) (o v l : Int) : Prop := (v = -1 ∧ l = 40001 ∧ ∀ i, i < k → m i ≠ -1 → o < c i → 40001 ≤ c i) ∨ (∃ j : Nat, j < k ∧ v = m j ∧ l = c j ∧ m j ≠ -1 ∧ o < c j ∧ c j < 40001 ∧ ∀ i, i < k → m i ≠ -1 → o < c i → c j ≤ c i)
theorem na_0 {c m : Nat → Int} {o : Int} : naI c m 0 o (-1) 40001 := Or.inl ⟨rfl, rfl, fun i hi => absurd hi (Nat.not_lt_zero i)⟩
theorem na_00 {c m : Nat → Int} {o f l : Int} (e1 : f = -1) (e2 : l = 40001) : naI c m 0 o f l := by
  rw [e1, e2]
  exact na_0
theorem na_new {c m : Nat → Int} {k : Nat} {o v l v1 l1 : Int} (s : naI c m k o v l) (z : m k ≠ -1) (a : o < c k) (b : c k < l) (e1 : v1 = m k) (e2 : l1 = c k) : naI c m (k + 1) o v1 l1 := by
  refine Or.inr ⟨k, by omega, e1, e2, z, a, ?_, fun i hi hm hc => ?_⟩
  · rcases s with ⟨s1, s2, s3⟩ | ⟨j, s1, s2, s3, s4, s5, s6, s7⟩ <;> omega
  · by_cases e : i = k
    · rw [e]; exact Int.le_refl _
    · rcases s with ⟨s1, s2, s3⟩ | ⟨j, s1, s2, s3, s4, s5, s6, s7⟩
      · have := s3 i (by omega) hm hc; omega
      · have := s7 i (by omega) hm hc; omega
theorem na_old {c m : Nat → Int} {k : Nat} {o v l : Int} (s : naI c m k o v l) (a : ¬ (m k ≠ -1 ∧ o < c k ∧ c k < l)) : naI c m (k + 1) o v l := by
  rcases s with ⟨s1, s2, s3⟩ | ⟨j, s1, s2, s3, s4, s5, s6, s7⟩
  · refine Or.inl ⟨s1, s2, fun i hi hm hc => ?_⟩
    by_cases e : i = k
    · subst e; omega
    · exact s3 i (by omega) hm hc
  · refine Or.inr ⟨j, by omega, s2, s3, s4, s5, s6, fun i hi hm hc => ?_⟩
    by_cases e : i = k
    · subst e; omega
    · exact s7 i (by omega) hm hc
/-- the last telling of an hour -/
theorem Lst.last {hr : Nat → Int} {n : Nat} (m : Nat) : ∀ i : Nat, n ≤ i + m → i < n → ∃ j, j < n ∧ i ≤ j ∧ hr j = hr i ∧ Lst hr ((n : Nat) : Int) j := by
  induction m with
  | zero => intro i h1 h2; omega
  | succ m ih =>
    intro i h1 h2
    by_cases q : ∃ j, i < j ∧ j < n ∧ hr j = hr i
    · obtain ⟨j, q1, q2, q3⟩ := q
      obtain ⟨k, k1, k2, k3, k4⟩ := ih j (by omega) q2
      exact ⟨k, k1, by omega, k3.trans q3, k4⟩
    · exact ⟨i, h2, Nat.le_refl i, rfl, fun j hj hj2 e => q ⟨j, hj, by omega, e⟩⟩
theorem TL.at {V : Nat → Int32} {hr : Nat → Int} {n : Int32} (t : TL V hr n.toInt) (h0 : 0 ≤ n.toInt) {i : Nat} (hi : i < n.toNatClampNeg) : (((V i).toInt = hr i ∧ Lst hr ((n.toNatClampNeg : Nat) : Int) i) ∨ ((V i).toInt = -1 ∧ ¬ Lst hr ((n.toNatClampNeg : Nat) : Int) i)) ∧ 0 ≤ hr i ∧ hr i ≤ 40000 := by
  have hn : ((n.toNatClampNeg : Nat) : Int) = n.toInt := tn_of rfl h0
  rw [hn]
  exact t i (by omega)
theorem stI.te {V : Nat → Int32} {hr : Nat → Int} {n : Int32} {h f l : Int} (t : TL V hr n.toInt) (h0 : 0 ≤ n.toInt) (s : stI (fun i => (V i).toInt) n.toNatClampNeg h f l) : TE hr n.toNatClampNeg h f := by
  rcases s with ⟨s1, s2, s3⟩ | ⟨j, s1, s2, s3, s4, s5, s6⟩
  · refine Or.inl ⟨s1, fun i hi => ?_⟩
    obtain ⟨k, k1, k2, k3, k4⟩ := Lst.last n.toNatClampNeg i (by omega) hi (hr := hr)
    have tk := t.at h0 k1
    rcases tk with ⟨⟨a, b⟩ | ⟨a, b⟩, c, d⟩
    · by_cases q : hr i ≤ h
      · have := s3 k k1 (show (V k).toInt ≤ h by omega)
        have e : (V k).toInt ≤ -1 := this
        omega
      · omega
    · exact absurd k4 b
  · have tj := t.at h0 s1
    have s5 : -1 < (V j).toInt := s5
    have s4 : (V j).toInt ≤ h := s4
    rcases tj with ⟨⟨a, b⟩ | ⟨a, b⟩, c, d⟩
    · refine Or.inr ⟨j, s1, s2, by omega, fun i hi hc => ?_⟩
      obtain ⟨k, k1, k2, k3, k4⟩ := Lst.last n.toNatClampNeg i (by omega) hi (hr := hr)
      have tk := t.at h0 k1
      rcases tk with ⟨⟨a1, b1⟩ | ⟨a1, b1⟩, c1, d1⟩
      · have e : (V k).toInt ≤ (V j).toInt := s6 k k1 (show (V k).toInt ≤ h by omega)
        by_cases q : hr k = hr j
        · have := Lst.eq k1 s1 b1 b q
          exact Or.inr ⟨by omega, by omega⟩
        · exact Or.inl (by omega)
      · exact absurd k4 b1
    · omega
theorem nbI.bf {V : Nat → Int32} {hr m num : Nat → Int} {n : Int32} {o v l : Int} (t : TL V hr n.toInt) (h0 : 0 ≤ n.toInt) (hm : ∀ i, i < n.toNatClampNeg → m i = num i ∧ -1 ≤ num i) (s : nbI (fun i => (V i).toInt) m n.toNatClampNeg o v l) : ∃ b : Int, BF hr num n.toNatClampNeg o b ∧ ((v = -1 ∧ b = 0) ∨ (0 ≤ v ∧ b = v)) := by
  rcases s with ⟨s1, s2, s3⟩ | ⟨j, s1, s2, s3, s4, s5, s6, s7⟩
  · refine ⟨0, Or.inl ⟨rfl, fun i hi hp hl => ?_⟩, Or.inl ⟨s1, rfl⟩⟩
    have ti := t.at h0 hi
    have mi := hm i hi
    rcases ti with ⟨⟨a, b⟩ | ⟨a, b⟩, c, d⟩
    · by_cases q : hr i < o
      · have e : (V i).toInt ≤ -1 := s3 i hi (by omega) (show (V i).toInt < o by omega)
        omega
      · omega
    · exact absurd hl b
  · have tj := t.at h0 s1
    have mj := hm j s1
    have s6 : -1 < (V j).toInt := s6
    have s5 : (V j).toInt < o := s5
    rcases tj with ⟨⟨a, b⟩ | ⟨a, b⟩, c, d⟩
    · refine ⟨num j, Or.inr ⟨j, s1, by omega, b, by omega, rfl, fun i hi hp hl hc => ?_⟩, Or.inr ⟨by omega, by omega⟩⟩
      have ti := t.at h0 hi
      have mi := hm i hi
      rcases ti with ⟨⟨a1, b1⟩ | ⟨a1, b1⟩, c1, d1⟩
      · have e : (V i).toInt ≤ (V j).toInt := s7 i hi (by omega) (show (V i).toInt < o by omega)
        omega
      · exact absurd hl b1
    · omega
theorem naI.af {V : Nat → Int32} {hr m num : Nat → Int} {n : Int32} {o v l : Int} (t : TL V hr n.toInt) (h0 : 0 ≤ n.toInt) (ho : 0 ≤ o) (hm : ∀ i, i < n.toNatClampNeg → m i = num i ∧ -1 ≤ num i) (s : naI (fun i => (V i).toInt) m n.toNatClampNeg o v l) : ∃ b : Int, AF hr num n.toNatClampNeg o b ∧ ((v = -1 ∧ b = 0) ∨ (0 ≤ v ∧ b = v)) := by
  rcases s with ⟨s1, s2, s3⟩ | ⟨j, s1, s2, s3, s4, s5, s6, s7⟩
  · refine ⟨0, Or.inl ⟨rfl, fun i hi hp hl => ?_⟩, Or.inl ⟨s1, rfl⟩⟩
    have ti := t.at h0 hi
    have mi := hm i hi
    rcases ti with ⟨⟨a, b⟩ | ⟨a, b⟩, c, d⟩
    · by_cases q : o < hr i
      · have e : 40001 ≤ (V i).toInt := s3 i hi (by omega) (show o < (V i).toInt by omega)
        omega
      · omega
    · exact absurd hl b
  · have tj := t.at h0 s1
    have mj := hm j s1
    have s5 : o < (V j).toInt := s5
    rcases tj with ⟨⟨a, b⟩ | ⟨a, b⟩, c, d⟩
    · refine ⟨num j, Or.inr ⟨j, s1, by omega, b, by omega, rfl, fun i hi hp hl hc => ?_⟩, Or.inr ⟨by omega, by omega⟩⟩
      have ti := t.at h0 hi
      have mi := hm i hi
      rcases ti with ⟨⟨a1, b1⟩ | ⟨a1, b1⟩, c1, d1⟩
      · have e : (V j).toInt ≤ (V i).toInt := s7 i hi (by omega) (show o < (V i).toInt by omega)
        omega
      · exact absurd hl b1
    · omega
/-- what the class's windAt and rainAt tell -/
def wdC (c m : Nat → Int) (n : Nat) (h r : Int) : Prop := ∃ f l : Int, stI c n h f l ∧ ((f = -1 ∧ r = 0) ∨ (∃ j : Nat, f = ((j : Nat) : Int) ∧ ((m j ≠ -1 ∧ r = m j) ∨ (m j = -1 ∧ ∃ v1 l1 v2 l2 : Int, nbI c m n (c j) v1 l1 ∧ naI c m n (c j) v2 l2 ∧ 0 ≤ r ∧ v1 ≤ r ∧ v2 ≤ r ∧ (r = 0 ∨ r = v1 ∨ r = v2)))))
theorem wdC.wa {V : Nat → Int32} {hr m num : Nat → Int} {n : Int32} {h r : Int} (t : TL V hr n.toInt) (h0 : 0 ≤ n.toInt) (hm : ∀ i, i < n.toNatClampNeg → m i = num i ∧ -1 ≤ num i) (w : wdC (fun i => (V i).toInt) m n.toNatClampNeg h r) : WA hr num n.toNatClampNeg h r := by
  obtain ⟨f, l, s, w⟩ := w
  have te := s.te t h0
  refine ⟨f, te, ?_⟩
  rcases w with w | ⟨j, w1, w⟩
  · exact Or.inl w
  · refine Or.inr ⟨j, w1, ?_⟩
    have hj : j < n.toNatClampNeg ∧ -1 < (V j).toInt := by
      rcases s with ⟨s1, -⟩ | ⟨k, s1, s2, s3, s4, s5, -⟩
      · omega
      · obtain rfl : j = k := by omega
        exact ⟨s1, s5⟩
    have mj := hm j hj.1
    rcases w with ⟨w2, w3⟩ | ⟨w2, v1, l1, v2, l2, w3, w4, w5, w6, w7, w8⟩
    · exact Or.inl ⟨by omega, by omega⟩
    · have tj := t.at h0 hj.1
      have cj : (V j).toInt = hr j := by
        rcases tj with ⟨⟨a, b⟩ | ⟨a, b⟩, c, d⟩
        · exact a
        · omega
      obtain ⟨b1, x1, x2⟩ := w3.bf t h0 hm
      obtain ⟨c1, y1, y2⟩ := w4.af t h0 (by show (0 : Int) ≤ (V j).toInt; omega) hm
      have e : (fun i => (V i).toInt) j = hr j := cj
      rw [e] at x1 y1
      refine Or.inr ⟨by omega, b1, c1, x1, y1, ?_⟩
      by_cases q : b1 ≤ c1
      · exact Or.inl ⟨q, by omega⟩
      · exact Or.inr ⟨by omega, by omega⟩
def rnC (c m : Nat → Int) (n : Nat) (h r : Int) : Prop := ∃ f l : Int, stI c n h f l ∧ ((f = -1 ∧ r = 0) ∨ (∃ j : Nat, f = ((j : Nat) : Int) ∧ r = m j))
theorem rnC.ra {V : Nat → Int32} {hr m num : Nat → Int} {n : Int32} {h r : Int} (t : TL V hr n.toInt) (h0 : 0 ≤ n.toInt) (hm : ∀ i, i < n.toNatClampNeg → m i = num i) (w : rnC (fun i => (V i).toInt) m n.toNatClampNeg h r) : RA hr num n.toNatClampNeg h r := by
  obtain ⟨f, l, s, w⟩ := w
  refine ⟨f, s.te t h0, ?_⟩
  rcases w with w | ⟨j, w1, w⟩
  · exact Or.inl w
  · refine Or.inr ⟨j, w1, ?_⟩
    have hj : j < n.toNatClampNeg := by
      rcases s with ⟨s1, -⟩ | ⟨k, s1, s2, -⟩
      · omega
      · obtain rfl : j = k := by omega
        exact s1
    rw [w]
    exact hm j hj
/-- sky: code, what is answered -/
def skC (h w : Int) : Int := if 0 ≤ h ∧ h ≤ 40000 ∧ 0 ≤ w ∧ w ≤ 2 then 0 else 1
theorem skC_s (h w : Int) : (skC h w = 1 ∧ ¬ (0 ≤ h ∧ h ≤ 40000 ∧ 0 ≤ w ∧ w ≤ 2)) ∨ (skC h w = 0 ∧ (0 ≤ h ∧ h ≤ 40000 ∧ 0 ≤ w ∧ w ≤ 2)) := by
  unfold skC
  split <;> omega
def skP (g : gz) (h w a : Int) : Prop := (w = 0 ∧ a = g 1 (h % 12).toNat + osm (g 2) (g 3) (g 4) h (g 0 3).toNat) ∨ (w = 1 ∧ WA (g 5) (g 6) (g 0 4).toNat h a) ∨ (w = 2 ∧ RA (g 7) (g 8) (g 0 5).toNat h a)
theorem skP.uniq {g : gz} {h w a b : Int} (x : skP g h w a) (y : skP g h w b) : a = b := by
  rcases x with ⟨x1, x2⟩ | ⟨x1, x2⟩ | ⟨x1, x2⟩
  · rcases y with ⟨y1, y2⟩ | ⟨y1, y2⟩ | ⟨y1, y2⟩ <;> omega
  · rcases y with ⟨y1, y2⟩ | ⟨y1, y2⟩ | ⟨y1, y2⟩
    · omega
    · exact x2.uniq y2
    · omega
  · rcases y with ⟨y1, y2⟩ | ⟨y1, y2⟩ | ⟨y1, y2⟩
    · omega
    · omega
    · exact x2.uniq y2
noncomputable def skA (g : gz) (h w : Int) : Int := Classical.epsilon (skP g h w)
theorem skP.eq {g : gz} {h w a : Int} (x : skP g h w a) : a = skA g h w := x.uniq (Classical.epsilon_spec ⟨a, x⟩)
theorem PS.sky {g : gz} {ho ns nw nr : Int32} {VT VF VO VM VH VN VR VQ : Nat → Int32} (p : PS g 0 ho ns nw nr VT VF VO VM VH VN VR VQ) {h w r : Int} (x : (w = 0 ∧ r = (VT (h % 12).toNat).toInt + osm (fun i => (VF i).toInt) (fun i => (VO i).toInt) (fun i => (VM i).toInt) h ns.toNatClampNeg) ∨ (w = 1 ∧ wdC (fun i => (VH i).toInt) (fun i => (VN i).toInt) nw.toNatClampNeg h r) ∨ (w = 2 ∧ rnC (fun i => (VR i).toInt) (fun i => (VQ i).toInt) nr.toNatClampNeg h r)) : r = skA g h w := by
  obtain ⟨-, ⟨p2, p2a, -⟩, ⟨p3, p3a, -⟩, ⟨p4, p4a, -⟩, p5, p6, p7, p8, p9, p10⟩ := p
  have n2 := tn_of (i := ns) rfl p2a
  have n3 := tn_of (i := nw) rfl p3a
  have n4 := tn_of (i := nr) rfl p4a
  apply skP.eq
  rcases x with ⟨x1, x2⟩ | ⟨x1, x2⟩ | ⟨x1, x2⟩
  · refine Or.inl ⟨x1, ?_⟩
    rw [x2, (p5 _ (by omega)).1, show (g 0 3).toNat = ns.toNatClampNeg by omega]
    congr 1
    exact osm_congr _ (fun j hj => ⟨(p6 j (by omega)).1, (p6 j (by omega)).2.1, (p6 j (by omega)).2.2.1⟩)
  · refine Or.inr (Or.inl ⟨x1, ?_⟩)
    rw [show (g 0 4).toNat = nw.toNatClampNeg by omega]
    exact x2.wa p7 p3a (fun i hi => p8 i (by omega))
  · refine Or.inr (Or.inr ⟨x1, ?_⟩)
    rw [show (g 0 5).toNat = nr.toNatClampNeg by omega]
    exact x2.ra p9 p4a (fun i hi => p10 i (by omega))
/-- the reference's loops -/
theorem te_0 {hr : Nat → Int} {h : Int} : TE hr 0 h (-1) := Or.inl ⟨rfl, fun i hi => absurd hi (Nat.not_lt_zero i)⟩
theorem te_new {hr : Nat → Int} {k : Nat} {h r : Int} (s : TE hr k h r) (a : hr k ≤ h) (b : r < 0 ∨ ∃ j : Nat, r = ((j : Nat) : Int) ∧ hr j ≤ hr k) : TE hr (k + 1) h ((k : Nat) : Int) := by
  refine Or.inr ⟨k, by omega, rfl, a, fun i hi hc => ?_⟩
  by_cases e : i = k
  · exact Or.inr ⟨by rw [e], by omega⟩
  · rcases s with ⟨s1, s2⟩ | ⟨j, s1, s2, s3, s4⟩
    · have := s2 i (by omega); omega
    · rcases b with b | ⟨j1, b1, b2⟩
      · omega
      · obtain rfl : j = j1 := by omega
        have := s4 i (by omega) hc
        omega
theorem te_old {hr : Nat → Int} {k : Nat} {h r : Int} (s : TE hr k h r) (a : h < hr k ∨ ∃ j : Nat, r = ((j : Nat) : Int) ∧ hr k < hr j) : TE hr (k + 1) h r := by
  rcases s with ⟨s1, s2⟩ | ⟨j, s1, s2, s3, s4⟩
  · refine Or.inl ⟨s1, fun i hi => ?_⟩
    by_cases e : i = k
    · rw [e]
      rcases a with a | ⟨j1, b1, b2⟩
      · exact a
      · omega
    · exact s2 i (by omega)
  · refine Or.inr ⟨j, by omega, s2, s3, fun i hi hc => ?_⟩
    by_cases e : i = k
    · rw [e] at hc ⊢
      rcases a with a | ⟨j1, b1, b2⟩
      · omega
      · obtain rfl : j = j1 := by omega
        exact Or.inl b2
    · exact s4 i (by omega) hc
/-- the place in the world of what was found -/
def TP (l0 : Int) (r b : Int) : Prop := (r = -1 ∧ b = -1) ∨ (0 ≤ r ∧ b = l0 + 2 * r)
def teI (hr : Nat → Int) (k : Nat) (l0 h b : Int) : Prop := ∃ r : Int, TE hr k h r ∧ TP l0 r b
theorem te_00 {hr : Nat → Int} {l0 h b : Int} (e : b = -1) : teI hr 0 l0 h b := ⟨-1, te_0, Or.inl ⟨rfl, e⟩⟩
theorem te_n {hr : Nat → Int} {k : Nat} {l0 h b b1 : Int} (s : teI hr k l0 h b) (a : hr k ≤ h) (c : b < 0 ∨ ∃ j : Nat, b = l0 + 2 * ((j : Nat) : Int) ∧ hr j ≤ hr k) (h0 : 0 ≤ l0) (e : b1 = l0 + 2 * ((k : Nat) : Int)) : teI hr (k + 1) l0 h b1 := by
  obtain ⟨r, s1, s2⟩ := s
  refine ⟨_, te_new s1 a ?_, Or.inr ⟨by omega, e⟩⟩
  unfold TP at s2
  rcases c with c | ⟨j, c1, c2⟩
  · exact Or.inl (by omega)
  · rcases s2 with s2 | s2
    · exact Or.inl (by omega)
    · exact Or.inr ⟨j, by omega, c2⟩
theorem te_o {hr : Nat → Int} {k : Nat} {l0 h b : Int} (s : teI hr k l0 h b) (h0 : 0 ≤ l0) (a : h < hr k ∨ ∃ j : Nat, b = l0 + 2 * ((j : Nat) : Int) ∧ hr k < hr j) : teI hr (k + 1) l0 h b := by
  obtain ⟨r, s1, s2⟩ := s
  refine ⟨r, te_old s1 ?_, s2⟩
  unfold TP at s2
  rcases a with a | ⟨j, c1, c2⟩
  · exact Or.inl a
  · exact Or.inr ⟨j, by omega, c2⟩
/-- what is at the place found -/
theorem teI.at {hr : Nat → Int} {k : Nat} {l0 h b : Int} (s : teI hr k l0 h b) (h0 : 0 ≤ l0) (hb : 0 ≤ b) : ∃ j : Nat, j < k ∧ b = l0 + 2 * ((j : Nat) : Int) := by
  obtain ⟨r, s1, s2⟩ := s
  unfold TP at s2
  rcases s1 with ⟨s1, -⟩ | ⟨j, s1, s3, -⟩
  · omega
  · exact ⟨j, s1, by omega⟩
theorem te_ls {hr : Nat → Int} {n k : Nat} {l0 b : Int} (s : teI hr n l0 (hr k) b) (hk : k < n) (h0 : 0 ≤ l0) : (b = l0 + 2 * ((k : Nat) : Int)) ↔ Lst hr ((n : Nat) : Int) k := by
  obtain ⟨r, s1, s2⟩ := s
  unfold TP at s2
  rcases s1 with ⟨s1, s3⟩ | ⟨j, s1, s3, s4, s5⟩
  · have := s3 k hk; omega
  · constructor
    · intro e
      obtain rfl : j = k := by omega
      intro i hi hi2 e2
      have := s5 i (by omega) (by omega)
      omega
    · intro ls
      have h1 := s5 k hk (Int.le_refl _)
      by_cases q : k < j
      · have := ls j q (by omega); omega
      · omega
def bfI (hr num : Nat → Int) (n : Int) (k : Nat) (l0 o b : Int) : Prop := (b = -1 ∧ ∀ i, i < k → 0 ≤ num i → Lst hr n i → o ≤ hr i) ∨ (∃ j : Nat, j < k ∧ b = l0 + 2 * ((j : Nat) : Int) ∧ 0 ≤ num j ∧ Lst hr n j ∧ hr j < o ∧ ∀ i, i < k → 0 ≤ num i → Lst hr n i → hr i < o → hr i ≤ hr j)
def afI (hr num : Nat → Int) (n : Int) (k : Nat) (l0 o b : Int) : Prop := (b = -1 ∧ ∀ i, i < k → 0 ≤ num i → Lst hr n i → hr i ≤ o) ∨ (∃ j : Nat, j < k ∧ b = l0 + 2 * ((j : Nat) : Int) ∧ 0 ≤ num j ∧ Lst hr n j ∧ o < hr j ∧ ∀ i, i < k → 0 ≤ num i → Lst hr n i → o < hr i → hr j ≤ hr i)
theorem bf_00 {hr num : Nat → Int} {n l0 o b : Int} (e : b = -1) : bfI hr num n 0 l0 o b := Or.inl ⟨e, fun i hi => absurd hi (Nat.not_lt_zero i)⟩
theorem af_00 {hr num : Nat → Int} {n l0 o b : Int} (e : b = -1) : afI hr num n 0 l0 o b := Or.inl ⟨e, fun i hi => absurd hi (Nat.not_lt_zero i)⟩
theorem bf_n {hr num : Nat → Int} {n : Int} {k : Nat} {l0 o b b1 : Int} (s : bfI hr num n k l0 o b) (h0 : 0 ≤ l0) (p : 0 ≤ num k) (ls : Lst hr n k) (a : hr k < o) (c : b < 0 ∨ ∃ j : Nat, b = l0 + 2 * ((j : Nat) : Int) ∧ hr j < hr k) (e : b1 = l0 + 2 * ((k : Nat) : Int)) : bfI hr num n (k + 1) l0 o b1 := by
  refine Or.inr ⟨k, by omega, e, p, ls, a, fun i hi hp hl hc => ?_⟩
  by_cases q : i = k
  · rw [q]; exact Int.le_refl _
  · rcases s with ⟨s1, s2⟩ | ⟨j, s1, s2, s3, s4, s5, s6⟩
    · have := s2 i (by omega) hp hl; omega
    · rcases c with c | ⟨j1, c1, c2⟩
      · omega
      · obtain rfl : j = j1 := by omega
        have := s6 i (by omega) hp hl hc; omega
theorem bf_o {hr num : Nat → Int} {n : Int} {k : Nat} {l0 o b : Int} (s : bfI hr num n k l0 o b) (h0 : 0 ≤ l0) (a : num k < 0 ∨ ¬ Lst hr n k ∨ o ≤ hr k ∨ ∃ j : Nat, b = l0 + 2 * ((j : Nat) : Int) ∧ hr k ≤ hr j) : bfI hr num n (k + 1) l0 o b := by
  rcases s with ⟨s1, s2⟩ | ⟨j, s1, s2, s3, s4, s5, s6⟩
  · refine Or.inl ⟨s1, fun i hi hp hl => ?_⟩
    by_cases q : i = k
    · rw [q] at hp hl ⊢
      rcases a with a | a | a | ⟨j1, c1, c2⟩
      · omega
      · exact absurd hl a
      · exact a
      · omega
    · exact s2 i (by omega) hp hl
  · refine Or.inr ⟨j, by omega, s2, s3, s4, s5, fun i hi hp hl hc => ?_⟩
    by_cases q : i = k
    · rw [q] at hp hl hc ⊢
      rcases a with a | a | a | ⟨j1, c1, c2⟩
      · omega
      · exact absurd hl a
      · omega
      · obtain rfl : j = j1 := by omega
        exact c2
    · exact s6 i (by omega) hp hl hc
theorem af_n {hr num : Nat → Int} {n : Int} {k : Nat} {l0 o b b1 : Int} (s : afI hr num n k l0 o b) (h0 : 0 ≤ l0) (p : 0 ≤ num k) (ls : Lst hr n k) (a : o < hr k) (c : b < 0 ∨ ∃ j : Nat, b = l0 + 2 * ((j : Nat) : Int) ∧ hr k < hr j) (e : b1 = l0 + 2 * ((k : Nat) : Int)) : afI hr num n (k + 1) l0 o b1 := by
  refine Or.inr ⟨k, by omega, e, p, ls, a, fun i hi hp hl hc => ?_⟩
  by_cases q : i = k
  · rw [q]; exact Int.le_refl _
  · rcases s with ⟨s1, s2⟩ | ⟨j, s1, s2, s3, s4, s5, s6⟩
    · have := s2 i (by omega) hp hl; omega
    · rcases c with c | ⟨j1, c1, c2⟩
      · omega
      · obtain rfl : j = j1 := by omega
        have := s6 i (by omega) hp hl hc; omega
theorem af_o {hr num : Nat → Int} {n : Int} {k : Nat} {l0 o b : Int} (s : afI hr num n k l0 o b) (h0 : 0 ≤ l0) (a : num k < 0 ∨ ¬ Lst hr n k ∨ hr k ≤ o ∨ ∃ j : Nat, b = l0 + 2 * ((j : Nat) : Int) ∧ hr j ≤ hr k) : afI hr num n (k + 1) l0 o b := by
  rcases s with ⟨s1, s2⟩ | ⟨j, s1, s2, s3, s4, s5, s6⟩
  · refine Or.inl ⟨s1, fun i hi hp hl => ?_⟩
    by_cases q : i = k
    · rw [q] at hp hl ⊢
      rcases a with a | a | a | ⟨j1, c1, c2⟩
      · omega
      · exact absurd hl a
      · exact a
      · omega
    · exact s2 i (by omega) hp hl
  · refine Or.inr ⟨j, by omega, s2, s3, s4, s5, fun i hi hp hl hc => ?_⟩
    by_cases q : i = k
    · rw [q] at hp hl hc ⊢
      rcases a with a | a | a | ⟨j1, c1, c2⟩
      · omega
      · exact absurd hl a
      · omega
      · obtain rfl : j = j1 := by omega
        exact c2
    · exact s6 i (by omega) hp hl hc
theorem bfI.at {hr num : Nat → Int} {n : Int} {k : Nat} {l0 o b : Int} (s : bfI hr num n k l0 o b) (h0 : 0 ≤ b) : ∃ j : Nat, j < k ∧ b = l0 + 2 * ((j : Nat) : Int) := by
  rcases s with ⟨s1, -⟩ | ⟨j, s1, s2, -⟩
  · omega
  · exact ⟨j, s1, s2⟩
theorem afI.at {hr num : Nat → Int} {n : Int} {k : Nat} {l0 o b : Int} (s : afI hr num n k l0 o b) (h0 : 0 ≤ b) : ∃ j : Nat, j < k ∧ b = l0 + 2 * ((j : Nat) : Int) := by
  rcases s with ⟨s1, -⟩ | ⟨j, s1, s2, -⟩
  · omega
  · exact ⟨j, s1, s2⟩
theorem bfI.bf {hr num : Nat → Int} {n : Nat} {l0 o b v : Int} (s : bfI hr num ((n : Nat) : Int) n l0 o b) (h0 : 0 ≤ l0) (e : (b < 0 ∧ v = 0) ∨ ∃ j : Nat, b = l0 + 2 * ((j : Nat) : Int) ∧ v = num j) : BF hr num n o v := by
  rcases s with ⟨s1, s2⟩ | ⟨j, s1, s2, s3, s4, s5, s6⟩
  · rcases e with ⟨e1, e2⟩ | ⟨j1, e1, e2⟩
    · exact Or.inl ⟨e2, s2⟩
    · omega
  · rcases e with ⟨e1, e2⟩ | ⟨j1, e1, e2⟩
    · omega
    · obtain rfl : j = j1 := by omega
      exact Or.inr ⟨j, s1, s3, s4, s5, e2, s6⟩
theorem afI.af {hr num : Nat → Int} {n : Nat} {l0 o b v : Int} (s : afI hr num ((n : Nat) : Int) n l0 o b) (h0 : 0 ≤ l0) (e : (b < 0 ∧ v = 0) ∨ ∃ j : Nat, b = l0 + 2 * ((j : Nat) : Int) ∧ v = num j) : AF hr num n o v := by
  rcases s with ⟨s1, s2⟩ | ⟨j, s1, s2, s3, s4, s5, s6⟩
  · rcases e with ⟨e1, e2⟩ | ⟨j1, e1, e2⟩
    · exact Or.inl ⟨e2, s2⟩
    · omega
  · rcases e with ⟨e1, e2⟩ | ⟨j1, e1, e2⟩
    · omega
    · obtain rfl : j = j1 := by omega
      exact Or.inr ⟨j, s1, s3, s4, s5, e2, s6⟩
theorem teI.ra {hr num : Nat → Int} {n : Nat} {l0 h b v : Int} (s : teI hr n l0 h b) (h0 : 0 ≤ l0) (e : (b < 0 ∧ v = 0) ∨ ∃ j : Nat, b = l0 + 2 * ((j : Nat) : Int) ∧ v = num j) : RA hr num n h v := by
  obtain ⟨r, s1, s2⟩ := s
  unfold TP at s2
  refine ⟨r, s1, ?_⟩
  rcases e with ⟨e1, e2⟩ | ⟨j1, e1, e2⟩
  · exact Or.inl ⟨by omega, e2⟩
  · exact Or.inr ⟨j1, by omega, e2⟩
theorem teI.wa0 {hr num : Nat → Int} {n : Nat} {l0 h b v : Int} (s : teI hr n l0 h b) (h0 : 0 ≤ l0) (e : b < 0 ∧ v = 0) : WA hr num n h v := by
  obtain ⟨r, s1, s2⟩ := s
  unfold TP at s2
  exact ⟨r, s1, Or.inl ⟨by omega, e.2⟩⟩
theorem teI.wa1 {hr num : Nat → Int} {n j : Nat} {l0 h b v : Int} (s : teI hr n l0 h b) (h0 : 0 ≤ l0) (e1 : b = l0 + 2 * ((j : Nat) : Int)) (e2 : (0 ≤ num j ∧ v = num j) ∨ (num j < 0 ∧ ∃ x y : Int, BF hr num n (hr j) x ∧ AF hr num n (hr j) y ∧ ((x ≤ y ∧ v = y) ∨ (y ≤ x ∧ v = x)))) : WA hr num n h v := by
  obtain ⟨r, s1, s2⟩ := s
  unfold TP at s2
  exact ⟨r, s1, Or.inr ⟨j, by omega, e2⟩⟩
/-- the reference's answer -/
theorem RW.sky {g : gz} {U : Nat → Nat} (p : RW g 0 U) {h w r : Int} (x : (w = 0 ∧ (0 ≤ SU U 42 ∧ SU U 42 ≤ 20) ∧ r = SU U (30 + (h % 12).toNat) + osm (fun i => SU U (43 + 3 * i)) (fun i => SU U (44 + 3 * i)) (fun i => SU U (45 + 3 * i)) h (SU U 42).toNat) ∨ (w = 1 ∧ (0 ≤ SU U 103 ∧ SU U 103 ≤ 60) ∧ WA (fun i => SU U (104 + 2 * i)) (fun i => SU U (105 + 2 * i)) (SU U 103).toNat h r) ∨ (w = 2 ∧ (0 ≤ SU U 224 ∧ SU U 224 ≤ 60) ∧ RA (fun i => SU U (225 + 2 * i)) (fun i => SU U (226 + 2 * i)) (SU U 224).toNat h r)) : r = skA g h w := by
  obtain ⟨⟨p1, p2, p3⟩, p5, p6, p7⟩ := p
  apply skP.eq
  rcases x with ⟨x1, b3, x2⟩ | ⟨x1, b4, x2⟩ | ⟨x1, b5, x2⟩
  · refine Or.inl ⟨x1, ?_⟩
    rw [x2, p5 _ (by omega), ← p1]
    congr 1
    exact osm_congr _ (fun j hj => p6 j (by omega))
  · refine Or.inr (Or.inl ⟨x1, ?_⟩)
    rw [← p2]
    exact x2.congr (fun i hi => ⟨(p7 i (by omega)).1, (p7 i (by omega)).2.1⟩)
  · refine Or.inr (Or.inr ⟨x1, ?_⟩)
    rw [← p3]
    exact x2.congr (fun i hi => ⟨(p7 i (by omega)).2.2.1, (p7 i (by omega)).2.2.2⟩)
