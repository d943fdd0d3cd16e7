/-- longs by their toInt -/
theorem tl_a {x y z : Int64} {a b : Int} (e : z = x + y) (hx : x.toInt = a) (hy : y.toInt = b) (h1 : -9223372036854775808 ≤ a + b) (h2 : a + b ≤ 9223372036854775807) : z.toInt = a + b := by
  subst e
  rw [Int64.toInt_add, hx, hy]
  exact Int.bmod_eq_of_le (by omega) (by omega)
theorem tl_s {x y z : Int64} {a b : Int} (e : z = x - y) (hx : x.toInt = a) (hy : y.toInt = b) (h1 : -9223372036854775808 ≤ a - b) (h2 : a - b ≤ 9223372036854775807) : z.toInt = a - b := by
  subst e
  rw [Int64.toInt_sub, hx, hy]
  exact Int.bmod_eq_of_le (by omega) (by omega)
theorem tl_m {x y z : Int64} {a b A B : Int} (e : z = x * y) (hx : x.toInt = a) (hy : y.toInt = b) (h0 : -A ≤ a) (h1 : a ≤ A) (h2 : -B ≤ b) (h3 : b ≤ B) (h4 : A * B ≤ 9223372036854775807) : z.toInt = a * b ∧ -(A * B) ≤ z.toInt ∧ z.toInt ≤ A * B := by
  have hA : 0 ≤ A := by omega
  have hB : 0 ≤ B := by omega
  have m : (a * b).natAbs ≤ (A * B).natAbs := by
    rw [Int.natAbs_mul, Int.natAbs_mul]
    exact Nat.mul_le_mul (by omega) (by omega)
  have mp := Int.mul_nonneg hA hB
  have k : z.toInt = a * b := by
    subst e
    rw [Int64.toInt_mul, hx, hy]
    exact Int.bmod_eq_of_le (by omega) (by omega)
  exact ⟨k, by omega, by omega⟩
theorem tl_ne {y : Int64} {b : Int} (hy : y.toInt = b) (h : 0 < b) : ¬ y = 0 := fun e => by
  rw [e] at hy
  have : (0 : Int64).toInt = 0 := by decide
  omega
theorem tl_d {x y z : Int64} {a b : Int} (e : z = x / y) (hx : x.toInt = a) (hy : y.toInt = b) (h0 : 0 ≤ a) (h1 : 0 < b) : z.toInt = a / b := by
  subst e
  rw [lg_ldiv_nonneg (by omega) (by omega), hx, hy]
theorem tl_db {x y z : Int64} {a b : Int} (e : z = x / y) (hx : x.toInt = a) (hy : y.toInt = b) (h0 : 0 ≤ a) (h1 : 0 < b) : 0 ≤ z.toInt ∧ z.toInt ≤ a := by
  rw [tl_d e hx hy h0 h1]
  exact ⟨Int.ediv_nonneg h0 (Int.le_of_lt h1), Int.ediv_le_self b h0⟩
theorem tl_i {x : Int64} {z : Int32} {a : Int} (e : z = x.toInt32) (hx : x.toInt = a) (h1 : -2147483648 ≤ a) (h2 : a ≤ 2147483647) : z.toInt = a := by
  have q := congrArg Int64.toInt (lg_i2l_l2i (x := x) (by omega) (by omega))
  rw [Int32.toInt_toInt64] at q
  rw [e, q, hx]
theorem tl_c {x y : Int64} {z : Int32} {a b : Int} (e : z = lg_cmp x y) (hx : x.toInt = a) (hy : y.toInt = b) : (a < b ∧ z.toInt = -1) ∨ (a = b ∧ z.toInt = 0) ∨ (b < a ∧ z.toInt = 1) := by
  subst e
  unfold lg_cmp
  by_cases q : x > y
  · rw [if_pos q]
    have := Int64.lt_iff_toInt_lt.mp q
    exact Or.inr (Or.inr ⟨by omega, by decide⟩)
  · rw [if_neg q]
    by_cases q2 : x = y
    · rw [if_pos q2]
      exact Or.inr (Or.inl ⟨by rw [← hx, ← hy, q2], by decide⟩)
    · rw [if_neg q2]
      have q3 : ¬ y.toInt < x.toInt := fun h => q (Int64.lt_iff_toInt_lt.mpr h)
      have q4 : x.toInt ≠ y.toInt := fun h => q2 (Int64.toInt_inj.mp h)
      exact Or.inl ⟨by omega, by decide⟩
