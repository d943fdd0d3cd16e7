/-- the year by which a job is done: the least number k of years to wait, then its own -/
def dn (year cash income cost last d : Int) : Prop := ∃ k : Nat, d = year + ((k : Nat) : Int) + last ∧ cost ≤ cash + ((k : Nat) : Int) * income ∧ (∀ i : Nat, i < k → cash + ((i : Nat) : Int) * income < cost) ∧ d ≤ 200
theorem dn.uniq {year cash income cost last d e : Int} (x : dn year cash income cost last d) (y : dn year cash income cost last e) : d = e := by
  obtain ⟨k, x1, x2, x3, -⟩ := x
  obtain ⟨j, y1, y2, y3, -⟩ := y
  rcases Nat.lt_trichotomy k j with h | h | h
  · have := y3 k h; omega
  · subst h; omega
  · have := x3 j h; omega
theorem dn_ge {year cash income cost last d : Int} (x : dn year cash income cost last d) (hl : 0 ≤ last) : year ≤ d := by
  obtain ⟨k, x1, -⟩ := x
  omega
noncomputable def dnO (year cash income cost last : Int) : Option Int := @dite (Option Int) (∃ d, dn year cash income cost last d) (Classical.propDecidable _) (fun h => some (Classical.choose h)) (fun _ => none)
theorem dnO_s {year cash income cost last d : Int} (h : dn year cash income cost last d) : dnO year cash income cost last = some d := by
  unfold dnO
  rw [dif_pos ⟨d, h⟩]
  exact congrArg some ((Classical.choose_spec (⟨d, h⟩ : ∃ d, dn year cash income cost last d)).uniq h)
theorem dnO_n {year cash income cost last : Int} (h : ∀ d, ¬ dn year cash income cost last d) : dnO year cash income cost last = none := by
  unfold dnO
  rw [dif_neg (fun ⟨d, q⟩ => h d q)]
theorem dnO_e {year cash income cost last d : Int} (h : dnO year cash income cost last = some d) : dn year cash income cost last d := by
  unfold dnO at h
  split at h
  · rename_i q
    cases h
    exact Classical.choose_spec q
  · cases h
def fo {α : Type} (f : Nat → α → α) : Nat → α → α
  | 0, a => a
  | k + 1, a => f k (fo f k a)
theorem fo_s {α : Type} (f : Nat → α → α) (k : Nat) (a : α) : fo f (k + 1) a = f k (fo f k a) := rfl
theorem fo_id {α : Type} {f : Nat → α → α} {a : α} : ∀ k : Nat, (∀ j, j < k → f j a = a) → fo f k a = a
  | 0, _ => rfl
  | k + 1, h => by
    show f k (fo f k a) = a
    rw [fo_id k (fun j hj => h j (by omega))]
    exact h k (by omega)
theorem fo_inv {α : Type} {f : Nat → α → α} {a : α} {P : α → Prop} (ha : P a) : ∀ k : Nat, (∀ j b, j < k → P b → P (f j b)) → P (fo f k a)
  | 0, _ => ha
  | k + 1, h => h k _ (by omega) (fo_inv ha k (fun j b hj hb => h j b (by omega) hb))
abbrev oA : Type := Int × (Nat → Int)
/-- one job tried at a place: it is used already, or can't be done in time, or the rest is searched behind it -/
def sgO (U : Nat → Bool) (D : Nat → Option Int) (F : Nat → Int → oA → oA) : Nat → oA → oA := fun j b => if U j = true then b else (D j).elim b (fun d => F j d b)
theorem sg_u {U : Nat → Bool} {D : Nat → Option Int} {F : Nat → Int → oA → oA} {j : Nat} {b : oA} (h : U j = true) : sgO U D F j b = b := if_pos h
theorem sg_n {U : Nat → Bool} {D : Nat → Option Int} {F : Nat → Int → oA → oA} {j : Nat} {b : oA} (h : D j = none) : sgO U D F j b = b := by
  unfold sgO
  rw [h]
  by_cases q : U j = true
  · rw [if_pos q]
  · rw [if_neg q]; rfl
theorem sg_c {U : Nat → Bool} {D : Nat → Option Int} {F : Nat → Int → oA → oA} {j : Nat} {b : oA} {d : Int} (hu : U j = false) (h : D j = some d) : sgO U D F j b = F j d b := by
  unfold sgO
  rw [if_neg (by rw [hu]; decide), h]
  rfl
/-- the search: the first of the least lateness -/
noncomputable def soO (N : Nat) (C Y B A : Nat → Int) : Nat → Nat → (Nat → Bool) → Int → Int → Int → Int → (Nat → Int) → oA → oA
  | 0, _, _, _, _, _, sum, row, a => if 0 ≤ a.1 ∧ a.1 ≤ sum then a else (sum, row)
  | m + 1, n, U, year, cash, income, sum, row, a => fo (sgO U (fun j => dnO year cash income (C j) (Y j)) (fun j d b => soO N C Y B A m (n + 1) (fun i => U i || i == j) d (cash + income * (d - year) - C j) (income + B j) (sum + A j * d) (fun i => if i = n then ((j : Nat) : Int) else row i) b)) N a
theorem sg_all {U : Nat → Bool} {D : Nat → Option Int} {F : Nat → Int → oA → oA} {j : Nat} {b : oA} {P : oA → Prop} (hb : P b) (hF : ∀ d, D j = some d → P (F j d b)) : P (sgO U D F j b) := by
  by_cases q : U j = true
  · rw [sg_u q]; exact hb
  · cases e : D j with
    | none => rw [sg_n e]; exact hb
    | some d => rw [sg_c (Bool.eq_false_iff.mpr q) e]; exact hF d e
/-- what is no better already stays soO -/
theorem so_cut {N : Nat} {C Y B A : Nat → Int} (hY : ∀ j, j < N → 0 ≤ Y j) (hA : ∀ j, j < N → 0 ≤ A j) : ∀ (m n : Nat) (U : Nat → Bool) (year cash income sum : Int) (row : Nat → Int) (a : oA), 0 ≤ year → 0 ≤ a.1 ∧ a.1 ≤ sum → soO N C Y B A m n U year cash income sum row a = a := by
  intro m
  induction m with
  | zero => intro n U year cash income sum row a _ h; exact if_pos h
  | succ m ih =>
    intro n U year cash income sum row a hy h
    show fo _ N a = a
    refine fo_id N (fun j hj => ?_)
    refine sg_all (P := fun z => z = a) rfl (fun d e => ?_)
    have hd := dn_ge (dnO_e e) (hY j hj)
    refine ih _ _ _ _ _ _ _ a (by omega) ⟨h.1, ?_⟩
    have := Int.mul_nonneg (hA j hj) (show (0 : Int) ≤ d by omega)
    omega
theorem so_ok {N : Nat} {C Y B A : Nat → Int} (hY : ∀ j, j < N → 0 ≤ Y j) (hA : ∀ j, j < N → 0 ≤ A j) : ∀ (m n : Nat) (U : Nat → Bool) (year cash income sum : Int) (row : Nat → Int) (a : oA), 0 ≤ year → 0 ≤ sum → (a.1 = -1 ∨ 0 ≤ a.1) → ((soO N C Y B A m n U year cash income sum row a).1 = -1 ∨ 0 ≤ (soO N C Y B A m n U year cash income sum row a).1) := by
  intro m
  induction m with
  | zero =>
    intro n U year cash income sum row a _ hs h
    show ((if 0 ≤ a.1 ∧ a.1 ≤ sum then a else (sum, row) : oA).1 = -1 ∨ 0 ≤ (if 0 ≤ a.1 ∧ a.1 ≤ sum then a else (sum, row) : oA).1)
    by_cases q : 0 ≤ a.1 ∧ a.1 ≤ sum
    · rw [if_pos q]; exact h
    · rw [if_neg q]; exact Or.inr hs
  | succ m ih =>
    intro n U year cash income sum row a hy hs h
    show ((fo _ N a).1 = -1 ∨ 0 ≤ (fo _ N a).1)
    refine fo_inv (P := fun z : oA => z.1 = -1 ∨ 0 ≤ z.1) h N (fun j b hj hb => ?_)
    refine sg_all (P := fun z : oA => z.1 = -1 ∨ 0 ≤ z.1) hb (fun d e => ?_)
    have hd := dn_ge (dnO_e e) (hY j hj)
    have := Int.mul_nonneg (hA j hj) (show (0 : Int) ≤ d by omega)
    exact ih _ _ _ _ _ _ _ b (by omega) (by omega) hb
noncomputable def sx (N K : Nat) (aC aY aB aA : Nat → Int32) (U : Nat → Bool) (yr ca ic su : Int) (R : Nat → Int) (a : oA) : oA := soO N (fun j => (aC j).toInt) (fun j => (aY j).toInt) (fun j => (aB j).toInt) (fun j => (aA j).toInt) (N - K) K U yr ca ic su R a
noncomputable def slO (N K : Nat) (aC aY aB aA : Nat → Int32) (U : Nat → Bool) (yr ca ic su : Int) (R : Nat → Int) (a : oA) (i : Nat) : oA := fo (sgO U (fun j => dnO yr ca ic (aC j).toInt (aY j).toInt) (fun j d b => sx N (K + 1) aC aY aB aA (fun i => U i || i == j) d (ca + ic * (d - yr) - (aC j).toInt) (ic + (aB j).toInt) (su + (aA j).toInt * d) (fun i => if i = K then ((j : Nat) : Int) else R i) b)) i a
theorem sx_s {N K : Nat} {aC aY aB aA : Nat → Int32} {U : Nat → Bool} {yr ca ic su : Int} {R : Nat → Int} {a : oA} (h : K < N) : sx N K aC aY aB aA U yr ca ic su R a = slO N K aC aY aB aA U yr ca ic su R a N := by
  unfold slO sx
  obtain ⟨m, e⟩ : ∃ m, N - K = m + 1 := ⟨N - (K + 1), by omega⟩
  rw [e, show N - (K + 1) = m by omega]
  rfl
theorem sx_0 {N K : Nat} {aC aY aB aA : Nat → Int32} {U : Nat → Bool} {yr ca ic su : Int} {R : Nat → Int} {a : oA} (h : N = K) : sx N K aC aY aB aA U yr ca ic su R a = if 0 ≤ a.1 ∧ a.1 ≤ su then a else (su, R) := by
  unfold sx
  rw [show N - K = 0 by omega]
  rfl
theorem sl_u {N K : Nat} {aC aY aB aA : Nat → Int32} {U : Nat → Bool} {yr ca ic su : Int} {R : Nat → Int} {a : oA} {i : Nat} (h : U i = true) : slO N K aC aY aB aA U yr ca ic su R a (i + 1) = slO N K aC aY aB aA U yr ca ic su R a i := by
  unfold slO
  rw [fo_s]
  exact sg_u h
theorem sl_n {N K : Nat} {aC aY aB aA : Nat → Int32} {U : Nat → Bool} {yr ca ic su : Int} {R : Nat → Int} {a : oA} {i : Nat} (h : dnO yr ca ic (aC i).toInt (aY i).toInt = none) : slO N K aC aY aB aA U yr ca ic su R a (i + 1) = slO N K aC aY aB aA U yr ca ic su R a i := by
  unfold slO
  rw [fo_s]
  exact sg_n h
theorem sl_call {N K K1 : Nat} {aC aY aB aA : Nat → Int32} {U U1 : Nat → Bool} {yr ca ic su d c1 i1 s1 : Int} {R : Nat → Int} {a : oA} {i : Nat} (hK : K1 = K + 1) (hu : U i = false) (hd : dnO yr ca ic (aC i).toInt (aY i).toInt = some d) (e1 : U1 = fun k => U k || k == i) (e3 : c1 = ca + ic * (d - yr) - (aC i).toInt) (e4 : i1 = ic + (aB i).toInt) (e5 : s1 = su + (aA i).toInt * d) : sx N K1 aC aY aB aA U1 d c1 i1 s1 (fun k => if k = K then ((i : Nat) : Int) else R k) (slO N K aC aY aB aA U yr ca ic su R a i) = slO N K aC aY aB aA U yr ca ic su R a (i + 1) := by
  subst hK e1 e3 e4 e5
  unfold slO
  rw [fo_s]
  symm
  exact sg_c (D := fun j => dnO yr ca ic (aC j).toInt (aY j).toInt) hu hd
theorem sx_cut {N K : Nat} {aC aY aB aA : Nat → Int32} {U : Nat → Bool} {yr ca ic su : Int} {R : Nat → Int} {a : oA} (hY : ∀ j, j < N → 0 ≤ (aY j).toInt) (hA : ∀ j, j < N → 0 ≤ (aA j).toInt) (hy : 0 ≤ yr) (h : 0 ≤ a.1 ∧ a.1 ≤ su) : sx N K aC aY aB aA U yr ca ic su R a = a := so_cut hY hA _ _ _ _ _ _ _ _ _ hy h
theorem sx_ok {N K : Nat} {aC aY aB aA : Nat → Int32} {U : Nat → Bool} {yr ca ic su : Int} {R : Nat → Int} {a : oA} (hY : ∀ j, j < N → 0 ≤ (aY j).toInt) (hA : ∀ j, j < N → 0 ≤ (aA j).toInt) (hy : 0 ≤ yr) (hs : 0 ≤ su) (h : a.1 = -1 ∨ 0 ≤ a.1) : (sx N K aC aY aB aA U yr ca ic su R a).1 = -1 ∨ 0 ≤ (sx N K aC aY aB aA U yr ca ic su R a).1 := so_ok hY hA _ _ _ _ _ _ _ _ _ hy hs h
theorem sl_ok {N K : Nat} {aC aY aB aA : Nat → Int32} {U : Nat → Bool} {yr ca ic su : Int} {R : Nat → Int} {a : oA} {i : Nat} (hi : i ≤ N) (hY : ∀ j, j < N → 0 ≤ (aY j).toInt) (hA : ∀ j, j < N → 0 ≤ (aA j).toInt) (hy : 0 ≤ yr) (hs : 0 ≤ su) (h : a.1 = -1 ∨ 0 ≤ a.1) : (slO N K aC aY aB aA U yr ca ic su R a i).1 = -1 ∨ 0 ≤ (slO N K aC aY aB aA U yr ca ic su R a i).1 := by
  unfold slO
  refine fo_inv (P := fun z : oA => z.1 = -1 ∨ 0 ≤ z.1) h i (fun j b hj hb => ?_)
  refine sg_all (P := fun z : oA => z.1 = -1 ∨ 0 ≤ z.1) hb (fun d e => ?_)
  have hd := dn_ge (dnO_e e) (hY j (by omega))
  have := Int.mul_nonneg (hA j (by omega)) (show (0 : Int) ≤ d by omega)
  exact sx_ok hY hA (by omega) (by omega) hb
/-- with the least wait known: done by d, or not at all -/
theorem dn_k {year cash income cost last : Int} {k : Nat} (h1 : cost ≤ cash + ((k : Nat) : Int) * income) (h2 : ∀ i : Nat, i < k → cash + ((i : Nat) : Int) * income < cost) : (year + ((k : Nat) : Int) + last ≤ 200 → dnO year cash income cost last = some (year + ((k : Nat) : Int) + last)) ∧ (200 < year + ((k : Nat) : Int) + last → dnO year cash income cost last = none) := by
  refine ⟨fun h => dnO_s ⟨k, rfl, h1, h2, h⟩, fun h => dnO_n (fun d q => ?_)⟩
  obtain ⟨j, q1, q2, q3, q4⟩ := q
  rcases Nat.lt_trichotomy j k with z | z | z
  · have := h2 j z; omega
  · subst z; omega
  · have := q3 k z; omega
theorem dn_0 {year cash cost last : Int} (h : cash < cost) : dnO year cash 0 cost last = none := dnO_n (fun d q => by
  obtain ⟨j, q1, q2, q3, q4⟩ := q
  rw [Int.mul_zero] at q2
  omega)
/-- the wait was too long already -/
theorem dn_late {year cash income cost last : Int} {k : Nat} (hl : 1 ≤ last) (h2 : ∀ i : Nat, i < k → cash + ((i : Nat) : Int) * income < cost) (h : 200 < year + ((k : Nat) : Int) + last) : dnO year cash income cost last = none := dnO_n (fun d q => by
  obtain ⟨j, q1, q2, q3, q4⟩ := q
  rcases Nat.lt_or_ge j k with z | z
  · have := h2 j z; omega
  · omega)
/-- the class's division -/
theorem dn_div {cash income cost : Int} (h : cash < cost) (hi : 0 < income) : 0 ≤ (cost - cash + income - 1) / income ∧ cost ≤ cash + (cost - cash + income - 1) / income * income ∧ ∀ i : Int, i < (cost - cash + income - 1) / income → cash + i * income < cost := by
  have e := Int.mul_ediv_add_emod (cost - cash + income - 1) income
  have r1 := Int.emod_nonneg (cost - cash + income - 1) (show income ≠ 0 by omega)
  have r2 := Int.emod_lt_of_pos (cost - cash + income - 1) hi
  have q0 : 0 ≤ (cost - cash + income - 1) / income := Int.ediv_nonneg (by omega) (by omega)
  rw [Int.mul_comm] at e
  generalize (cost - cash + income - 1) / income = q at e q0 ⊢
  generalize (cost - cash + income - 1) % income = r at e r1 r2
  refine ⟨q0, by omega, fun i hi2 => ?_⟩
  have m := Int.mul_le_mul_of_nonneg_right (show i ≤ q - 1 by omega) (show 0 ≤ income by omega)
  rw [Int.sub_mul, Int.one_mul] at m
  omega
/-- the reference's waiting: soO many years went by -/
def wtO (yr ca ic cost y c : Int) : Prop := ∃ k : Nat, y = yr + ((k : Nat) : Int) ∧ c = ca + ((k : Nat) : Int) * ic ∧ ∀ i : Nat, i < k → ca + ((i : Nat) : Int) * ic < cost
theorem wt_0 {yr ca ic cost y c : Int} (hy : y = yr) (hc : c = ca) : wtO yr ca ic cost y c := ⟨0, by omega, by rw [hc]; omega, fun i h => absurd h (Nat.not_lt_zero i)⟩
theorem wt_s {yr ca ic cost y c y1 c1 : Int} (h : wtO yr ca ic cost y c) (hc : c < cost) (ey : y1 = y + 1) (ec : c1 = c + ic) : wtO yr ca ic cost y1 c1 := by
  obtain ⟨k, e1, e2, e3⟩ := h
  refine ⟨k + 1, by omega, by rw [Int.natCast_succ, Int.add_mul, Int.one_mul]; omega, fun i hi => ?_⟩
  by_cases q : i = k
  · rw [q, ← e2]; exact hc
  · exact e3 i (by omega)
theorem wt_some {yr ca ic cost last y c d : Int} (h : wtO yr ca ic cost y c) (hc : cost ≤ c) (hd : d = y + last) (h2 : d ≤ 200) : dnO yr ca ic cost last = some d := by
  obtain ⟨k, e1, e2, e3⟩ := h
  obtain rfl : d = yr + ((k : Nat) : Int) + last := by omega
  exact (dn_k (by rw [← e2]; exact hc) e3).1 h2
theorem wt_none {yr ca ic cost last y c : Int} (h : wtO yr ca ic cost y c) (hl : 1 ≤ last) (h2 : 200 < y + last) : dnO yr ca ic cost last = none := by
  obtain ⟨k, e1, e2, e3⟩ := h
  exact dn_late hl e3 (by omega)
theorem wt_cash {yr ca ic cost last y c d z : Int} (h : wtO yr ca ic cost y c) (hz : z = ic * last) (hd : d = y + last) : c - cost + z = ca + ic * (d - yr) - cost := by
  obtain ⟨k, e1, e2, e3⟩ := h
  rw [show d - yr = ((k : Nat) : Int) + last by omega, Int.mul_add, ← hz, Int.mul_comm ic ((k : Nat) : Int)]
  omega
/-- the class's year -/
def yw (yr ca ic cost r : Int) : Prop := (cost ≤ ca ∧ r = yr) ∨ (ca < cost ∧ ic = 0 ∧ r = 200) ∨ (ca < cost ∧ 0 < ic ∧ r = yr + (cost - ca + ic - 1) / ic)
theorem yw_k {yr ca ic cost r : Int} (h : yw yr ca ic cost r) : (ca < cost ∧ ic = 0 ∧ r = 200) ∨ ∃ k : Nat, r = yr + ((k : Nat) : Int) ∧ cost ≤ ca + ((k : Nat) : Int) * ic ∧ ∀ i : Nat, i < k → ca + ((i : Nat) : Int) * ic < cost := by
  rcases h with ⟨h1, h2⟩ | h | ⟨h1, h2, h3⟩
  · exact Or.inr ⟨0, by omega, by omega, fun i h => absurd h (Nat.not_lt_zero i)⟩
  · exact Or.inl h
  · obtain ⟨q0, q1, q2⟩ := dn_div h1 h2
    refine Or.inr ⟨((cost - ca + ic - 1) / ic).toNat, ?_, ?_, fun i hi => q2 _ (by omega)⟩
    · rw [Int.toNat_of_nonneg q0]; exact h3
    · rw [Int.toNat_of_nonneg q0]; exact q1
theorem yw_some {yr ca ic cost last r d : Int} (h : yw yr ca ic cost r) (hl : 1 ≤ last) (hd : d = r + last) (h2 : d ≤ 200) : dnO yr ca ic cost last = some d := by
  rcases yw_k h with ⟨h1, h3, h4⟩ | ⟨k, e1, e2, e3⟩
  · omega
  · obtain rfl : d = yr + ((k : Nat) : Int) + last := by omega
    exact (dn_k e2 e3).1 h2
theorem yw_none {yr ca ic cost last r : Int} (h : yw yr ca ic cost r) (hl : 1 ≤ last) (h2 : 200 < r + last) : dnO yr ca ic cost last = none := by
  rcases yw_k h with ⟨h1, h3, h4⟩ | ⟨k, e1, e2, e3⟩
  · rw [h3]; exact dn_0 h1
  · exact dn_late hl e3 (by omega)
theorem dn_cash {yr ca ic cost last d : Int} (h : dnO yr ca ic cost last = some d) (hi : 0 ≤ ic) (hl : 0 ≤ last) : yr ≤ d ∧ cost ≤ ca + ic * (d - yr) := by
  obtain ⟨k, e1, e2, e3, e4⟩ := dnO_e h
  have m := Int.mul_nonneg hi hl
  refine ⟨by omega, ?_⟩
  rw [show d - yr = ((k : Nat) : Int) + last by omega, Int.mul_add, Int.mul_comm ic ((k : Nat) : Int)]
  omega
/-- rows -/
theorem rr_s {V : Nat → Int32} {R : Nat → Int} {K K1 i n : Nat} {x : Int32} (hK : K1 = K + 1) (hn : n = K) (hx : x.toInt = ((i : Nat) : Int)) (h : ∀ k, k < K → (V k).toInt = R k) : ∀ k, k < K1 → (cu V n x k).toInt = (if k = K then ((i : Nat) : Int) else R k) := by
  intro k hk
  by_cases q : k = K
  · rw [cu_s (by omega), if_pos q]; exact hx
  · rw [cu_o (by omega), if_neg q]; exact h k (by omega)
theorem cp_s {V Z : Nat → Int32} {R : Nat → Int} {i K n : Nat} {x : Int32} (hn : n = i) (hx : x = V n) (hV : ∀ k, k < K → (V k).toInt = R k) (hi : i < K) (h : ∀ k, k < i → (Z k).toInt = R k) : ∀ k, k < i + 1 → (cu Z n x k).toInt = R k := by
  intro k hk
  by_cases q : k = i
  · rw [cu_s (by omega), hx, hn, q]; exact hV i hi
  · rw [cu_o (by omega)]; exact h k (by omega)
def bt (x : Int32) (i : Nat) : Bool := x.toBitVec.getLsbD i
theorem b_ext {x y : Int32} (h : ∀ i, i < 32 → bt x i = bt y i) : x = y := Int32.toBitVec_inj.mp (BitVec.eq_of_getLsbD_eq (fun i hi => h i hi))
theorem b_or (x y : Int32) (i : Nat) : bt (x ||| y) i = (bt x i || bt y i) := by unfold bt; rw [Int32.toBitVec_or, BitVec.getLsbD_or]
theorem b_and (x y : Int32) (i : Nat) : bt (x &&& y) i = (bt x i && bt y i) := by unfold bt; rw [Int32.toBitVec_and, BitVec.getLsbD_and]
theorem b_big {x : Int32} {i : Nat} (h : 32 ≤ i) : bt x i = false := BitVec.getLsbD_of_ge _ _ h
theorem b_0 (i : Nat) : bt 0 i = false := BitVec.getLsbD_zero
theorem s_l : ∀ n, n < 32 → ((nI n &&& 31).toBitVec.smod 32).toNat = n := by decide +kernel
theorem b_shl (n : Nat) (hn : n < 32) (x : Int32) {i : Nat} (hi : i < 32) : bt (x <<< (nI n &&& 31)) i = (decide (n ≤ i) && bt x (i - n)) := by
  unfold bt
  rw [Int32.toBitVec_shiftLeft]
  show (x.toBitVec <<< ((nI n &&& 31).toBitVec.smod 32).toNat).getLsbD i = _
  rw [s_l n hn, BitVec.getLsbD_shiftLeft]
  rcases Nat.lt_or_ge i n with h | h
  · simp [h, Nat.not_le.mpr h]
  · simp [hi, h, Nat.not_lt.mpr h]
theorem b_sshr (n : Nat) (hn : n < 32) (x : Int32) {i : Nat} (hi : i < 32) : bt (x >>> (nI n &&& 31)) i = if n + i < 32 then bt x (n + i) else bt x 31 := by
  unfold bt
  rw [Int32.toBitVec_shiftRight]
  show (x.toBitVec.sshiftRight ((nI n &&& 31).toBitVec.smod 32).toNat).getLsbD i = _
  rw [s_l n hn, BitVec.getLsbD_sshiftRight, BitVec.msb_eq_getLsbD_last]
  simp [hi]
theorem bt_1 (i : Nat) : bt 1 i = decide (i = 0) := by
  rcases Nat.lt_or_ge i 32 with h | h
  · exact (by decide +kernel : ∀ i, i < 32 → bt 1 i = decide (i = 0)) i h
  · rw [b_big h, decide_eq_false (by omega)]
theorem bt_z : bt 0 = fun _ => false := funext b_0
theorem bt_or {us y z : Int32} {j : Nat} (hj : j < 7) (ey : y = 1 <<< (nI j &&& 31)) (ez : z = us ||| y) : bt z = fun k => bt us k || k == j := by
  subst ey
  subst ez
  funext k
  rw [b_or]
  rcases Nat.lt_or_ge k 32 with h | h
  · rw [b_shl j (by omega) 1 h, bt_1]
    congr 1
    rw [Bool.eq_iff_iff]
    simp only [Bool.and_eq_true, decide_eq_true_eq, beq_iff_eq]
    omega
  · rw [b_big (x := 1 <<< (nI j &&& 31)) h, show (k == j) = false from beq_eq_false_iff_ne.mpr (by omega)]
theorem bt_t {us y z : Int32} {j : Nat} (hj : j < 7) (ey : y = us >>> (nI j &&& 31)) (ez : z = y &&& 1) : (z.toInt = 1 → bt us j = true) ∧ (z.toInt ≠ 1 → bt us j = false) := by
  subst ey
  subst ez
  have b0 : bt ((us >>> (nI j &&& 31)) &&& 1) 0 = bt us j := by
    rw [b_and, b_sshr j (by omega) us (by omega), bt_1, if_pos (by omega)]
    simp
  refine ⟨fun h => ?_, fun h => ?_⟩
  · have e : (us >>> (nI j &&& 31)) &&& 1 = 1 := Int32.toInt_inj.mp (h.trans (by decide))
    rw [← b0, e]
    decide
  · cases hb : bt us j with
    | false => rfl
    | true =>
      refine absurd ?_ h
      have e : (us >>> (nI j &&& 31)) &&& 1 = 1 := b_ext (fun i hi => by
        by_cases q : i = 0
        · rw [q, b0, hb]; decide
        · rw [b_and, bt_1, decide_eq_false q, Bool.and_false])
      rw [e]
      decide
/-- the class's flags -/
def pb (P : Nat → Int32) : Nat → Bool := fun k => decide ((P k).toInt = 1)
theorem pb_z : pb (fun _ => 0) = fun _ => false := funext (fun _ => by
  show decide ((0 : Int32).toInt = 1) = false
  decide)
theorem pb_cu {P : Nat → Int32} {j n : Nat} (hn : n = j) : pb (cu P n 1) = fun k => pb P k || k == j := by
  subst hn
  funext k
  show decide ((cu P n 1 k).toInt = 1) = (decide ((P k).toInt = 1) || k == n)
  by_cases q : k = n
  · rw [cu_s q, show (k == n) = true from beq_iff_eq.mpr q, Bool.or_true]
    decide
  · rw [cu_o q, show (k == n) = false from beq_eq_false_iff_ne.mpr q, Bool.or_false]
theorem pb_1 {P : Nat → Int32} {j n : Nat} {x : Int32} (hn : n = j) (hx : x = P n) (h : x.toInt = 1) : pb P j = true := by
  show decide ((P j).toInt = 1) = true
  rw [← hn, ← hx]
  exact decide_eq_true h
theorem pb_0 {P : Nat → Int32} {j n : Nat} {x : Int32} (hn : n = j) (hx : x = P n) (h : x.toInt ≠ 1) : pb P j = false := by
  show decide ((P j).toInt = 1) = false
  rw [← hn, ← hx]
  exact decide_eq_false h
theorem pb_r {P : Nat → Int32} {n k : Nat} {x : Int32} (hx : x = P n) (h : x.toInt = 0) : cu (cu P n 1) n 0 k = P k := by
  by_cases q : k = n
  · rw [cu_s q, q, ← hx]; exact Int32.toInt_inj.mp (h.trans (by decide)).symm
  · rw [cu_o q, cu_o q]
/-- products, exactly -/
theorem ti_mulx {x y z : Int32} {a b A B : Int} (e : z = x * y) (hx : x.toInt = a) (hy : y.toInt = b) (h0 : 0 ≤ a) (h1 : a ≤ A) (h2 : 0 ≤ b) (h3 : b ≤ B) (h4 : A * B ≤ 2147483647) : z.toInt = a * b := by
  have m0 := Int.mul_nonneg h0 h2
  have m1 := Int.mul_le_mul h1 h3 h2 (show 0 ≤ A by omega)
  exact ti_mul e hx hy (by omega) (by omega)
/-- longs by their toInt -/
theorem tl_a {x y z : Int64} {a b : Int} (e : z = x + y) (hx : x.toInt = a) (hy : y.toInt = b) (h1 : -9223372036854775808 ≤ a + b) (h2 : a + b ≤ 9223372036854775807) : z.toInt = a + b := by
  subst e
  rw [Int64.toInt_add, hx, hy]
  exact Int.bmod_eq_of_le (by omega) (by omega)
theorem tl_s {x y z : Int64} {a b : Int} (e : z = x - y) (hx : x.toInt = a) (hy : y.toInt = b) (h1 : -9223372036854775808 ≤ a - b) (h2 : a - b ≤ 9223372036854775807) : z.toInt = a - b := by
  subst e
  rw [Int64.toInt_sub, hx, hy]
  exact Int.bmod_eq_of_le (by omega) (by omega)
theorem tl_m {x y z : Int64} {a b A B : Int} (e : z = x * y) (hx : x.toInt = a) (hy : y.toInt = b) (h0 : -A ≤ a) (h1 : a ≤ A) (h2 : -B ≤ b) (h3 : b ≤ B) (h4 : A * B ≤ 9223372036854775807) : z.toInt = a * b ∧ -(A * B) ≤ z.toInt ∧ z.toInt ≤ A * B := by
  have hA : 0 ≤ A := by omega
  have hB : 0 ≤ B := by omega
  have m : (a * b).natAbs ≤ (A * B).natAbs := by
    rw [Int.natAbs_mul, Int.natAbs_mul]
    exact Nat.mul_le_mul (by omega) (by omega)
  have mp := Int.mul_nonneg hA hB
  have k : z.toInt = a * b := by
    subst e
    rw [Int64.toInt_mul, hx, hy]
    exact Int.bmod_eq_of_le (by omega) (by omega)
  exact ⟨k, by omega, by omega⟩
theorem tl_ne {y : Int64} {b : Int} (hy : y.toInt = b) (h : 0 < b) : ¬ y = 0 := fun e => by
  rw [e] at hy
  have : (0 : Int64).toInt = 0 := by decide
  omega
theorem tl_d {x y z : Int64} {a b : Int} (e : z = x / y) (hx : x.toInt = a) (hy : y.toInt = b) (h0 : 0 ≤ a) (h1 : 0 < b) : z.toInt = a / b := by
  subst e
  rw [lg_ldiv_nonneg (by omega) (by omega), hx, hy]
theorem tl_db {x y z : Int64} {a b : Int} (e : z = x / y) (hx : x.toInt = a) (hy : y.toInt = b) (h0 : 0 ≤ a) (h1 : 0 < b) : 0 ≤ z.toInt ∧ z.toInt ≤ a := by
  rw [tl_d e hx hy h0 h1]
  exact ⟨Int.ediv_nonneg h0 (Int.le_of_lt h1), Int.ediv_le_self b h0⟩
theorem tl_i {x : Int64} {z : Int32} {a : Int} (e : z = x.toInt32) (hx : x.toInt = a) (h1 : -2147483648 ≤ a) (h2 : a ≤ 2147483647) : z.toInt = a := by
  have q := congrArg Int64.toInt (lg_i2l_l2i (x := x) (by omega) (by omega))
  rw [Int32.toInt_toInt64] at q
  rw [e, q, hx]
theorem tl_c {x y : Int64} {z : Int32} {a b : Int} (e : z = lg_cmp x y) (hx : x.toInt = a) (hy : y.toInt = b) : (a < b ∧ z.toInt = -1) ∨ (a = b ∧ z.toInt = 0) ∨ (b < a ∧ z.toInt = 1) := by
  subst e
  unfold lg_cmp
  by_cases q : x > y
  · rw [if_pos q]
    have := Int64.lt_iff_toInt_lt.mp q
    exact Or.inr (Or.inr ⟨by omega, by decide⟩)
  · rw [if_neg q]
    by_cases q2 : x = y
    · rw [if_pos q2]
      exact Or.inr (Or.inl ⟨by rw [← hx, ← hy, q2], by decide⟩)
    · rw [if_neg q2]
      have q3 : ¬ y.toInt < x.toInt := fun h => q (Int64.lt_iff_toInt_lt.mpr h)
      have q4 : x.toInt ≠ y.toInt := fun h => q2 (Int64.toInt_inj.mp h)
      exact Or.inl ⟨by omega, by decide⟩
/-- what both sides keep: how many jobs; cost, years, what it brings, acres of each -/
abbrev gz : Type := Int32 × (Nat → Int32) × (Nat → Int32) × (Nat → Int32) × (Nat → Int32)
def joI (a b c d : Int) : Prop := 0 ≤ a ∧ a ≤ 1000000 ∧ 1 ≤ b ∧ b ≤ 20 ∧ 0 ≤ c ∧ c ≤ 100000 ∧ 0 ≤ d ∧ d ≤ 1000
def joR (n : Int) (C Y B A : Nat → Int32) : Prop := ∀ k : Nat, ((k : Nat) : Int) < n → (0 ≤ (C k).toInt ∧ (C k).toInt ≤ 1000000) ∧ (1 ≤ (Y k).toInt ∧ (Y k).toInt ≤ 20) ∧ (0 ≤ (B k).toInt ∧ (B k).toInt ≤ 100000) ∧ (0 ≤ (A k).toInt ∧ (A k).toInt ≤ 1000)
def joP (g : gz) : Prop := (0 ≤ g.1.toInt ∧ g.1.toInt ≤ 7) ∧ joR g.1.toInt g.2.1 g.2.2.1 g.2.2.2.1 g.2.2.2.2
noncomputable def orS (n : Int) (C Y B A : Nat → Int32) (coin : Int) : oA := sx n.toNat 0 C Y B A (fun _ => false) 0 coin 0 0 (fun _ => 0) (-1, fun _ => 0)
noncomputable def orV (n : Int) (C Y B A : Nat → Int32) (coin place : Int) : Int := if (orS n C Y B A coin).1 < 0 ∨ place = -1 then (orS n C Y B A coin).1 else if 0 ≤ place ∧ place < n then (orS n C Y B A coin).2 place.toNat else -1
theorem orV_a {n : Int} {C Y B A : Nat → Int32} {coin place : Int} (h : (orS n C Y B A coin).1 < 0 ∨ place = -1) : orV n C Y B A coin place = (orS n C Y B A coin).1 := if_pos h
theorem orV_b {n : Int} {C Y B A : Nat → Int32} {coin place : Int} (h : ¬ ((orS n C Y B A coin).1 < 0 ∨ place = -1)) (h2 : 0 ≤ place ∧ place < n) : orV n C Y B A coin place = (orS n C Y B A coin).2 place.toNat := by
  unfold orV
  rw [if_neg h, if_pos h2]
theorem orV_c {n : Int} {C Y B A : Nat → Int32} {coin place : Int} (h : ¬ ((orS n C Y B A coin).1 < 0 ∨ place = -1)) (h2 : ¬ (0 ≤ place ∧ place < n)) : orV n C Y B A coin place = -1 := by
  unfold orV
  rw [if_neg h, if_neg h2]
theorem orS_r {n : Int} {N : Nat} {C Y B A : Nat → Int32} {coin z1 z2 z3 : Int} {us : Int32} (hn : N = n.toNat) (hu : us = 0) (h1 : z1 = 0) (h2 : z2 = 0) (h3 : z3 = 0) : sx N 0 C Y B A (bt us) z1 coin z2 z3 (fun _ => 0) (-1, fun _ => 0) = orS n C Y B A coin := by
  subst hn hu h1 h2 h3
  rw [bt_z]
  rfl
theorem orS_c {n : Int} {N : Nat} {C Y B A P : Nat → Int32} {coin c z1 z2 z3 : Int} (hn : N = n.toNat) (hP : P = fun _ => 0) (hc : c = coin) (h1 : z1 = 0) (h2 : z2 = 0) (h3 : z3 = 0) : sx N 0 C Y B A (pb P) z1 c z2 z3 (fun _ => 0) (-1, fun _ => 0) = orS n C Y B A coin := by
  subst hn hP hc h1 h2 h3
  rw [pb_z]
  rfl
theorem orS_ok {n : Int} {C Y B A : Nat → Int32} {coin : Int} (hn : 0 ≤ n) (h : joR n C Y B A) : (orS n C Y B A coin).1 = -1 ∨ 0 ≤ (orS n C Y B A coin).1 := sx_ok (fun j hj => by have := (h j (by omega)).2.1.1; omega) (fun j hj => (h j (by omega)).2.2.2.1) (Int.le_refl 0) (Int.le_refl 0) (Or.inl rfl)
noncomputable def orA (g : gz) (coin place : Int) : Int := orV g.1.toInt g.2.1 g.2.2.1 g.2.2.2.1 g.2.2.2.2 coin place
noncomputable def orC (coin : Int) : Int := @ite Int (0 ≤ coin ∧ coin ≤ 1000000) (Classical.propDecidable _) 0 1
theorem orC_s (coin : Int) : ((0 ≤ coin ∧ coin ≤ 1000000) ∧ orC coin = 0) ∨ (¬ (0 ≤ coin ∧ coin ≤ 1000000) ∧ orC coin = 1) := by
  unfold orC
  by_cases q : 0 ≤ coin ∧ coin ≤ 1000000
  · exact Or.inl ⟨q, if_pos q⟩
  · exact Or.inr ⟨q, if_neg q⟩
noncomputable def joC (a b c d : Int) : Int := @ite Int (joI a b c d) (Classical.propDecidable _) 0 1
theorem joC_s (a b c d : Int) : ((0 ≤ a ∧ a ≤ 1000000 ∧ 1 ≤ b ∧ b ≤ 20 ∧ 0 ≤ c ∧ c ≤ 100000 ∧ 0 ≤ d ∧ d ≤ 1000) ∧ joC a b c d = 0) ∨ (¬ (0 ≤ a ∧ a ≤ 1000000 ∧ 1 ≤ b ∧ b ≤ 20 ∧ 0 ≤ c ∧ c ≤ 100000 ∧ 0 ≤ d ∧ d ≤ 1000) ∧ joC a b c d = 1) := by
  unfold joC
  by_cases q : joI a b c d
  · exact Or.inl ⟨q, if_pos q⟩
  · exact Or.inr ⟨q, if_neg q⟩
noncomputable def joF (g : gz) (p0 p1 p2 p3 : Int32) : gz := @ite gz (joC p0.toInt p1.toInt p2.toInt p3.toInt = 0 ∧ g.1.toInt < 7) (Classical.propDecidable _) (nI (g.1.toNatClampNeg + 1), cu g.2.1 g.1.toNatClampNeg p0, cu g.2.2.1 g.1.toNatClampNeg p1, cu g.2.2.2.1 g.1.toNatClampNeg p2, cu g.2.2.2.2 g.1.toNatClampNeg p3) g
theorem joF_1 {g : gz} {p0 p1 p2 p3 : Int32} (h : joC p0.toInt p1.toInt p2.toInt p3.toInt = 0 ∧ g.1.toInt < 7) : joF g p0 p1 p2 p3 = (nI (g.1.toNatClampNeg + 1), cu g.2.1 g.1.toNatClampNeg p0, cu g.2.2.1 g.1.toNatClampNeg p1, cu g.2.2.2.1 g.1.toNatClampNeg p2, cu g.2.2.2.2 g.1.toNatClampNeg p3) := if_pos h
theorem joF_0 {g : gz} {p0 p1 p2 p3 : Int32} (h : ¬ (joC p0.toInt p1.toInt p2.toInt p3.toInt = 0 ∧ g.1.toInt < 7)) : joF g p0 p1 p2 p3 = g := if_neg h
noncomputable def joA (g : gz) : Int := @ite Int (g.1.toInt < 7) (Classical.propDecidable _) (g.1.toInt + 1) (-1)
theorem joA_s (g : gz) : (g.1.toInt < 7 ∧ joA g = g.1.toInt + 1) ∨ (¬ g.1.toInt < 7 ∧ joA g = -1) := by
  unfold joA
  by_cases q : g.1.toInt < 7
  · exact Or.inl ⟨q, if_pos q⟩
  · exact Or.inr ⟨q, if_neg q⟩
def jsF (g : gz) : gz := (0, g.2)
theorem joR.cu {n n1 : Int} {C Y B A : Nat → Int32} (h : joR n C Y B A) {k : Nat} (hk : ((k : Nat) : Int) = n) (hn : n1 = n + 1) {p0 p1 p2 p3 : Int32} (q : joI p0.toInt p1.toInt p2.toInt p3.toInt) : joR n1 (cu C k p0) (cu Y k p1) (cu B k p2) (cu A k p3) := by
  intro j hj
  by_cases e : j = k
  · rw [cu_s e, cu_s e, cu_s e, cu_s e]
    obtain ⟨q1, q2, q3, q4, q5, q6, q7, q8⟩ := q
    exact ⟨⟨q1, q2⟩, ⟨q3, q4⟩, ⟨q5, q6⟩, ⟨q7, q8⟩⟩
  · rw [cu_o e, cu_o e, cu_o e, cu_o e]
    exact h j (by omega)
theorem nI_suc {x : Int32} {z : Int32} (h0 : 0 ≤ x.toInt) (h1 : x.toInt ≤ 7) (hz : z.toInt = x.toInt + 1) : z = nI (x.toNatClampNeg + 1) := by
  have q := tn_of (i := x) rfl h0
  exact Int32.toInt_inj.mp (by rw [nI_toInt (by omega)]; omega)
theorem joP.job {g : gz} (h : joP g) {p0 p1 p2 p3 : Int32} : joP (joF g p0 p1 p2 p3) := by
  rcases joC_s p0.toInt p1.toInt p2.toInt p3.toInt with ⟨q, e⟩ | ⟨q, e⟩
  · by_cases q7 : g.1.toInt < 7
    · rw [joF_1 ⟨e, q7⟩]
      have t := tn_of (i := g.1) rfl h.1.1
      have n1 : (nI (g.1.toNatClampNeg + 1)).toInt = g.1.toInt + 1 := by rw [nI_toInt (by omega)]; omega
      exact ⟨⟨by show (0 : Int) ≤ (nI (g.1.toNatClampNeg + 1)).toInt; omega, by show (nI (g.1.toNatClampNeg + 1)).toInt ≤ 7; omega⟩, h.2.cu t n1 q⟩
    · rw [joF_0 (fun z => q7 z.2)]; exact h
  · rw [joF_0 (fun z => by omega)]; exact h
theorem joP.jobs {g : gz} : joP (jsF g) := ⟨⟨by show (0 : Int) ≤ (0 : Int32).toInt; decide, by show (0 : Int32).toInt ≤ 7; decide⟩, fun k hk => by
  have : ((k : Nat) : Int) < (0 : Int32).toInt := hk
  have z : (0 : Int32).toInt = 0 := by decide
  omega⟩
