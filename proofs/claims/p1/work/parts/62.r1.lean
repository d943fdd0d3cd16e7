/-- n lies between a and b -/
def Btw (n a b : Int32) : Prop := (if b < a then b else a) ≤ n ∧ n ≤ (if a < b then b else a)
theorem btw_dec (n a b : Int32) : Btw n a b ∨ ¬ Btw n a b := Classical.em _
/-- the square s lies in the rectangle of f and t -/
def Rect (s f t : Int32) : Prop := Btw (s - s / 12 * 12) (f - f / 12 * 12) (t - t / 12 * 12) ∧ Btw (s / 12) (f / 12) (t / 12)
def w_x_isBetween : List Cond := .code yX11_isBetween cX11_isBetween 3 (some .boolean) :: ([.methodLink RX11 588 Lib.Math.min.name, .static Lib.Math.min.name, .initialized "java/lang/Math", .code Lib.Math.min.name Lib.Math.min.code 2 (some .int), .methodLink RX11 591 Lib.Math.max.name, .static Lib.Math.max.name, .code Lib.Math.max.name Lib.Math.max.code 2 (some .int)] ++ bs)
set_option maxHeartbeats 4000000 in
set_option maxRecDepth 100000 in
theorem x_isBetween (l : Launch) (dC : Nat → ClassId) (dI : Nat → Nat → Nat) (n a b : Int32) (sz : Nat) : Met l yX11_isBetween w_x_isBetween ({ frames := 1, cells := 0, slots := 0, locals := 40 }) (va_Pc [.int n, .int a, .int b] (fun U => U.heap.size = sz ∧ va_P (dC, dI) vwCl [] U.heap ∧ va_K (dC, dI) vwCl [] U ∧ va_D (fun _ => True) [])) (va_Qi (fun (r : Int32) (u : Unit) => (r = 1 ∧ Btw n a b) ∨ (r = 0 ∧ ¬ Btw n a b)) (fun (_ : Unit) (_ : State) => True) (va_A [] sz)) 0 0 (va_A [] sz) := by
  refine Met.ofW (cc := cX11_isBetween) (maxL := 3) (ret := (some .boolean)) (by decide) rfl ?_
  intro p e s m args below meth c s₁ B hml hv
  obtain ⟨rfl, hsz, hP, hK, hD0⟩ := hv
  have hx := B.exec
  have hb := B.bytes
  have hr := B.returns
  have hts := atoms_spec (ws := w_x_isBetween) B.pre
  have hown : s.vm.findClass RX11 = some m.cls := findClass_of_methodNamed B.named
  have hlocks := B.notSynchronized
  subst hsz
  have hD := hD0.self (sz := s.heap.size)
  generalize hAe : va_A [] s.heap.size = A at hD ⊢
  have hA : ∀ q : Nat, s.heap.size ≤ q → A q := fun q h => by rw [← hAe]; exact Or.inr h
  have hS : va_S A s.heap s.heap [] := va_S.rf
  have hP : va_P (dC, dI) vwCl [] s.heap := hP
  have hl := lv_entry ([.int n, .int a, .int b]) (n := 3) (Nat.le_of_ble_eq_true rfl)
  rw [lg_entry_eq]
  generalize (lg_sl ([.int n, .int a, .int b]) ++ List.replicate (3 - (lg_sl ([.int n, .int a, .int b])).length) Slot.unset).toArray = ls at hl ⊢
  have hl : lv_has ls 3 [(0, .int n), (1, .int a), (2, .int b)] := hl
  refine lv_iload_n hx hb dX11_isBetween_0 rfl (lv_at hl 1 rfl) ?_
  refine lv_iload_n hx hb dX11_isBetween_1 rfl (lv_at hl 2 rfl) ?_
  refine va_mmin hx hb (hml.trans hl.1.symm) hown (ht_at hts 0 rfl) (ht_at hts 1 rfl) (ht_at hts 2 rfl) (ht_at hts 3 rfl) (Nat.le_of_ble_eq_true rfl) (Nat.le_of_ble_eq_true rfl) (Nat.le_of_ble_eq_true rfl) (Nat.le_of_ble_eq_true rfl) dX11_isBetween_2 ?_
  refine lv_topi (fun x1 ex1 => ?_)
  refine lv_iload_n hx hb dX11_isBetween_5 rfl (lv_at hl 0 rfl) ?_
  refine lv_icmp_gt (tgt := 22) hx hb dX11_isBetween_6 (by decide) (fun c2 => ?_) (fun c2 => ?_)
  · refine lv_iconst (v := 0) hx hb dX11_isBetween_22 (by decide) ?_
    exact W.zret (v := 0) hx hb hr (by decide) (fun t ht hW => ⟨⟨0, (), rfl, (by exact Or.inr ⟨rfl, fun h => Int32.not_lt.mpr h.1 (by rw [← ex1]; exact c2)⟩), trivial⟩, hS.F ht⟩) hS.2.2 dX11_isBetween_23
  · refine lv_iload_n hx hb dX11_isBetween_9 rfl (lv_at hl 0 rfl) ?_
    refine lv_iload_n hx hb dX11_isBetween_10 rfl (lv_at hl 1 rfl) ?_
    refine lv_iload_n hx hb dX11_isBetween_11 rfl (lv_at hl 2 rfl) ?_
    refine va_mmax hx hb (hml.trans hl.1.symm) hown (ht_at hts 4 rfl) (ht_at hts 5 rfl) (ht_at hts 2 rfl) (ht_at hts 6 rfl) (Nat.le_of_ble_eq_true rfl) (Nat.le_of_ble_eq_true rfl) (Nat.le_of_ble_eq_true rfl) (Nat.le_of_ble_eq_true rfl) dX11_isBetween_12 ?_
    refine lv_topi (fun x3 ex3 => ?_)
    refine lv_icmp_gt (tgt := 22) hx hb dX11_isBetween_15 (by decide) (fun c4 => ?_) (fun c4 => ?_)
    · refine lv_iconst (v := 0) hx hb dX11_isBetween_22 (by decide) ?_
      exact W.zret (v := 0) hx hb hr (by decide) (fun t ht hW => ⟨⟨0, (), rfl, (by exact Or.inr ⟨rfl, fun h => Int32.not_lt.mpr h.2 (by rw [← ex3]; exact c4)⟩), trivial⟩, hS.F ht⟩) hS.2.2 dX11_isBetween_23
    · refine lv_iconst (v := 1) hx hb dX11_isBetween_18 (by decide) ?_
      refine lv_goto (tgt := 23) hx hb dX11_isBetween_19 (by decide) ?_
      exact W.zret (v := 1) hx hb hr (by decide) (fun t ht hW => ⟨⟨1, (), rfl, (by exact Or.inl ⟨rfl, by rw [← ex1]; exact Int32.not_lt.mp c2, by rw [← ex3]; exact Int32.not_lt.mp c4⟩), trivial⟩, hS.F ht⟩) hS.2.2 dX11_isBetween_23
