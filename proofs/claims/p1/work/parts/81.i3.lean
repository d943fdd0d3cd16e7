/-- the reference's table: 0 at what the basin has, else far -/
def bq (o : Option Nat) (j : Nat) : Int32 := if o = some j then 0 else 1000000000
theorem bq_p {o : Option Nat} {j : Nat} (h : o = some j) : bq o j = 0 := if_pos h
theorem bq_n {o : Option Nat} {j : Nat} (h : ¬ o = some j) : bq o j = 1000000000 := if_neg h
/-- the next table, with the first i places looked at -/
def eq9 (b c : Nat) (o : Option Nat) (i j : Nat) : Int32 := match o with | some v => if v < i ∧ v + b ≤ c ∧ j = v + b then 0 else 1000000000 | none => 1000000000
theorem eq9_0 (b c : Nat) (o : Option Nat) (j : Nat) : eq9 b c o 0 j = 1000000000 := by
  cases o with
  | none => rfl
  | some v =>
    show (if v < 0 ∧ v + b ≤ c ∧ j = v + b then (0 : Int32) else 1000000000) = 1000000000
    exact if_neg (fun h => absurd h.1 (Nat.not_lt_zero _))
theorem eq9_n {b c i j : Nat} {o : Option Nat} (h : ¬ (o = some i ∧ i + b ≤ c)) : eq9 b c o (i + 1) j = eq9 b c o i j := by
  cases o with
  | none => rfl
  | some v =>
    show (if v < i + 1 ∧ v + b ≤ c ∧ j = v + b then (0 : Int32) else 1000000000) = if v < i ∧ v + b ≤ c ∧ j = v + b then 0 else 1000000000
    by_cases k : v = i
    · subst k
      have : ¬ v + b ≤ c := fun q => h ⟨rfl, q⟩
      rw [if_neg (fun q => this q.2.1), if_neg (fun q => this q.2.1)]
    · have e : (v < i + 1 ∧ v + b ≤ c ∧ j = v + b) = (v < i ∧ v + b ≤ c ∧ j = v + b) := by
        apply propext; constructor
        · intro q; exact ⟨by omega, q.2⟩
        · intro q; exact ⟨by omega, q.2⟩
      simp only [e]
theorem eq9_p {b c i j : Nat} {o : Option Nat} (h : o = some i) (hk : i + b ≤ c) (g : Nat → Int32) (hg : g j = eq9 b c o i j) : upd g (i + b) 0 j = eq9 b c o (i + 1) j := by
  subst h
  show _ = if i < i + 1 ∧ i + b ≤ c ∧ j = i + b then (0 : Int32) else 1000000000
  by_cases e : j = i + b
  · subst e; rw [pk_us, if_pos ⟨Nat.lt_succ_self _, hk, rfl⟩]
  · rw [pk_un e, hg, if_neg (fun q => e q.2.2)]
    exact if_neg (fun q => e q.2.2)
theorem eq9_i {b c i : Nat} {o : Option Nat} (h : o = some i) (j : Nat) : eq9 b c o i j = 1000000000 := by
  subst h
  exact if_neg (fun q => absurd q.1 (Nat.lt_irrefl _))
theorem eq9_end {b c : Nat} {o : Option Nat} (ho : ∀ v, o = some v → v ≤ 1000) (j : Nat) : eq9 b c o 1001 j = bq (lnx b c o) j := by
  cases o with
  | none => rfl
  | some v =>
    have hv := ho v rfl
    show (if v < 1001 ∧ v + b ≤ c ∧ j = v + b then (0 : Int32) else 1000000000) = bq (if v + b ≤ c then some (v + b) else none) j
    by_cases k : v + b ≤ c
    · rw [if_pos k]
      by_cases e : j = v + b
      · rw [if_pos ⟨by omega, k, e⟩, bq_p (by rw [e])]
      · rw [if_neg (fun q => e q.2.2), bq_n (fun q => e (Option.some.inj q).symm)]
    · rw [if_neg k, if_neg (fun q => k q.2.1), bq_n (fun q => by cases q)]
/-- the least of the first i places -/
def mn9 (o : Option Nat) (i : Nat) : Int32 := match o with | some v => if v < i then 0 else 1000000000 | none => 1000000000
theorem mn9_0 (o : Option Nat) : mn9 o 0 = 1000000000 := by
  cases o with
  | none => rfl
  | some v =>
    show (if v < 0 then (0 : Int32) else 1000000000) = 1000000000
    exact if_neg (Nat.not_lt_zero _)
theorem mn9_p {o : Option Nat} {i : Nat} (h : o = some i) : mn9 o (i + 1) = 0 := by subst h; exact if_pos (Nat.lt_succ_self _)
theorem mn9_p0 {o : Option Nat} {i : Nat} (h : o = some i) : mn9 o i = 1000000000 := by subst h; exact if_neg (Nat.lt_irrefl _)
theorem mn9_n {o : Option Nat} {i : Nat} (h : ¬ o = some i) : mn9 o (i + 1) = mn9 o i := by
  cases o with
  | none => rfl
  | some v =>
    have hv : v ≠ i := fun e => h (by rw [e])
    show (if v < i + 1 then (0 : Int32) else 1000000000) = if v < i then 0 else 1000000000
    by_cases k : v < i
    · rw [if_pos k, if_pos (by omega)]
    · rw [if_neg k, if_neg (by omega)]
theorem mn9_far (o : Option Nat) (i : Nat) : (if (1000000000 : Int32) < mn9 o i then (1000000000 : Int32) else mn9 o i) = mn9 o i := by
  cases o with
  | none => rfl
  | some v =>
    show (if (1000000000 : Int32) < (if v < i then 0 else 1000000000) then (1000000000 : Int32) else if v < i then 0 else 1000000000) = if v < i then 0 else 1000000000
    by_cases k : v < i
    · rw [if_pos k]; rfl
    · rw [if_neg k]; rfl
theorem mn9_end {o : Option Nat} (ho : ∀ v, o = some v → v ≤ 1000) : (o = none ∧ mn9 o 1001 = 1000000000) ∨ ((∃ v, o = some v) ∧ mn9 o 1001 = 0) := by
  cases o with
  | none => exact Or.inl ⟨rfl, rfl⟩
  | some v => exact Or.inr ⟨⟨v, rfl⟩, if_pos (by have := ho v rfl; omega)⟩
theorem bq_upd {f : Nat → Int32} {o : Option Nat} {i : Nat} {x : Int32} (hi : i < 2 ^ 31) (hx : x = bq o i) (h : ∀ j, j < i → f j = bq o j) : ∀ j, j < i + 1 → upd f (nI i).toNatClampNeg x j = bq o j := by
  intro j hj
  rw [nI_clamp hi]
  by_cases e : j = i
  · rw [e, pk_us, hx]
  · rw [pk_un e, h j (by omega)]
theorem so_ne {a i : Nat} (h : ¬ i = a) : ¬ (some a : Option Nat) = some i := fun e => h (Option.some.inj e).symm
theorem cp_step {z y : Nat → Int32} {i : Nat} {x : Int32} (hi : i < 2 ^ 31) (hx : x = y (nI i).toNatClampNeg) (h : ∀ j, j < i → z j = y j) : ∀ j, j < i + 1 → upd z (nI i).toNatClampNeg x j = y j := by
  intro j hj
  rw [nI_clamp hi] at hx ⊢
  by_cases e : j = i
  · rw [e, pk_us, hx]
  · rw [pk_un e, h j (by omega)]
def w_j_bitCount0 : List Cond := .code yJ6_bitCount_0f7a4 cJ6_bitCount_0f7a4 1 (some .int) :: ([.constant RJ6 265 1431655765, .constant RJ6 266 858993459, .constant RJ6 267 252645135] ++ bs)
set_option maxHeartbeats 4000000 in
set_option maxRecDepth 100000 in
theorem j_bitCount0 (l : Launch) (dC : Nat → ClassId) (dI : Nat → Nat → Nat)  (sz : Nat) : Met l yJ6_bitCount_0f7a4 w_j_bitCount0 ({ frames := 0, cells := 0, slots := 0, locals := 0 }) (va_Pc [.int 0] (fun U => U.heap.size = sz ∧ va_P (dC, dI) vwCl [] U.heap ∧ va_K (dC, dI) vwCl [] U ∧ va_D (fun _ => True) [])) (va_Qi (fun (r : Int32) (u : Unit) => r = 0) (fun (_ : Unit) (_ : State) => True) (va_A [] sz)) 0 0 (va_A [] sz) := by
  refine va_MetF (cc := cJ6_bitCount_0f7a4) (maxL := 1) (ret := (some .int)) (by decide +kernel) rfl ?_
  intro p e s m args below meth c s₁ B hml hv
  obtain ⟨rfl, hsz, hP, hK, hD0⟩ := hv
  have hx := B.exec
  have hb := B.bytes
  have hr := B.returns
  have hts := atoms_spec (ws := w_j_bitCount0) B.pre
  have hown : s.vm.findClass RJ6 = some m.cls := findClass_of_methodNamed B.named
  have hlocks := B.notSynchronized
  subst hsz
  have hD := hD0.self (sz := s.heap.size)
  generalize hAe : va_A [] s.heap.size = A at hD ⊢
  have hA : ∀ q : Nat, s.heap.size ≤ q → A q := fun q h => by rw [← hAe]; exact Or.inr h
  have hS : va_S A s.heap s.heap [] := va_S.rf
  have hP : va_P (dC, dI) vwCl [] s.heap := hP
  have hl := lv_entry ([.int 0]) (n := 1) (Nat.le_of_ble_eq_true rfl)
  rw [lg_entry_eq]
  generalize (lg_sl ([.int 0]) ++ List.replicate (1 - (lg_sl ([.int 0])).length) Slot.unset).toArray = ls at hl ⊢
  have hl : lv_has ls 1 [(0, .int 0)] := hl
  refine lv_iload_n hx hb dJ6_bitCount_0f7a4_0 rfl (lv_at hl 0 rfl) ?_
  refine lv_iload_n hx hb dJ6_bitCount_0f7a4_1 rfl (lv_at hl 0 rfl) ?_
  refine lv_iconst (v := 1) hx hb dJ6_bitCount_0f7a4_2 (by decide) ?_
  refine lv_iushr hx hb dJ6_bitCount_0f7a4_3 rfl ?_
  refine lv_topi (fun x1 ex1 => ?_)
  obtain rfl : x1 = 0 := ex1.trans (by decide)
  refine lv_ldcw (v := 1431655765) hx hb hown (ht_at hts 0 rfl) dJ6_bitCount_0f7a4_4 ?_
  refine lv_iand hx hb dJ6_bitCount_0f7a4_7 ?_
  refine lv_topi (fun x2 ex2 => ?_)
  obtain rfl : x2 = 0 := ex2.trans (by decide)
  refine lv_isub hx hb dJ6_bitCount_0f7a4_8 ?_
  refine lv_topi (fun x3 ex3 => ?_)
  obtain rfl : x3 = 0 := ex3.trans (by decide)
  refine lv_istore_n (lv' := [(0, .int 0)]) hx hb dJ6_bitCount_0f7a4_9 rfl hl (by decide) rfl (fun ls hl => ?_)
  refine lv_iload_n hx hb dJ6_bitCount_0f7a4_10 rfl (lv_at hl 0 rfl) ?_
  refine lv_ldcw (v := 858993459) hx hb hown (ht_at hts 1 rfl) dJ6_bitCount_0f7a4_11 ?_
  refine lv_iand hx hb dJ6_bitCount_0f7a4_14 ?_
  refine lv_topi (fun x4 ex4 => ?_)
  obtain rfl : x4 = 0 := ex4.trans (by decide)
  refine lv_iload_n hx hb dJ6_bitCount_0f7a4_15 rfl (lv_at hl 0 rfl) ?_
  refine lv_iconst (v := 2) hx hb dJ6_bitCount_0f7a4_16 (by decide) ?_
  refine lv_iushr hx hb dJ6_bitCount_0f7a4_17 rfl ?_
  refine lv_topi (fun x5 ex5 => ?_)
  obtain rfl : x5 = 0 := ex5.trans (by decide)
  refine lv_ldcw (v := 858993459) hx hb hown (ht_at hts 1 rfl) dJ6_bitCount_0f7a4_18 ?_
  refine lv_iand hx hb dJ6_bitCount_0f7a4_21 ?_
  refine lv_topi (fun x6 ex6 => ?_)
  obtain rfl : x6 = 0 := ex6.trans (by decide)
  refine lv_iadd hx hb dJ6_bitCount_0f7a4_22 ?_
  refine lv_topi (fun x7 ex7 => ?_)
  obtain rfl : x7 = 0 := ex7.trans (by decide)
  refine lv_istore_n (lv' := [(0, .int 0)]) hx hb dJ6_bitCount_0f7a4_23 rfl hl (by decide) rfl (fun ls hl => ?_)
  refine lv_iload_n hx hb dJ6_bitCount_0f7a4_24 rfl (lv_at hl 0 rfl) ?_
  refine lv_iload_n hx hb dJ6_bitCount_0f7a4_25 rfl (lv_at hl 0 rfl) ?_
  refine lv_iconst (v := 4) hx hb dJ6_bitCount_0f7a4_26 (by decide) ?_
  refine lv_iushr hx hb dJ6_bitCount_0f7a4_27 rfl ?_
  refine lv_topi (fun x8 ex8 => ?_)
  obtain rfl : x8 = 0 := ex8.trans (by decide)
  refine lv_iadd hx hb dJ6_bitCount_0f7a4_28 ?_
  refine lv_topi (fun x9 ex9 => ?_)
  obtain rfl : x9 = 0 := ex9.trans (by decide)
  refine lv_ldcw (v := 252645135) hx hb hown (ht_at hts 2 rfl) dJ6_bitCount_0f7a4_29 ?_
  refine lv_iand hx hb dJ6_bitCount_0f7a4_32 ?_
  refine lv_topi (fun x10 ex10 => ?_)
  obtain rfl : x10 = 0 := ex10.trans (by decide)
  refine lv_istore_n (lv' := [(0, .int 0)]) hx hb dJ6_bitCount_0f7a4_33 rfl hl (by decide) rfl (fun ls hl => ?_)
  refine lv_iload_n hx hb dJ6_bitCount_0f7a4_34 rfl (lv_at hl 0 rfl) ?_
  refine lv_iload_n hx hb dJ6_bitCount_0f7a4_35 rfl (lv_at hl 0 rfl) ?_
  refine lv_bipush (v := 8) hx hb dJ6_bitCount_0f7a4_36 (by decide) ?_
  refine lv_iushr hx hb dJ6_bitCount_0f7a4_38 rfl ?_
  refine lv_topi (fun x11 ex11 => ?_)
  obtain rfl : x11 = 0 := ex11.trans (by decide)
  refine lv_iadd hx hb dJ6_bitCount_0f7a4_39 ?_
  refine lv_topi (fun x12 ex12 => ?_)
  obtain rfl : x12 = 0 := ex12.trans (by decide)
  refine lv_istore_n (lv' := [(0, .int 0)]) hx hb dJ6_bitCount_0f7a4_40 rfl hl (by decide) rfl (fun ls hl => ?_)
  refine lv_iload_n hx hb dJ6_bitCount_0f7a4_41 rfl (lv_at hl 0 rfl) ?_
  refine lv_iload_n hx hb dJ6_bitCount_0f7a4_42 rfl (lv_at hl 0 rfl) ?_
  refine lv_bipush (v := 16) hx hb dJ6_bitCount_0f7a4_43 (by decide) ?_
  refine lv_iushr hx hb dJ6_bitCount_0f7a4_45 rfl ?_
  refine lv_topi (fun x13 ex13 => ?_)
  obtain rfl : x13 = 0 := ex13.trans (by decide)
  refine lv_iadd hx hb dJ6_bitCount_0f7a4_46 ?_
  refine lv_topi (fun x14 ex14 => ?_)
  obtain rfl : x14 = 0 := ex14.trans (by decide)
  refine lv_istore_n (lv' := [(0, .int 0)]) hx hb dJ6_bitCount_0f7a4_47 rfl hl (by decide) rfl (fun ls hl => ?_)
  refine lv_iload_n hx hb dJ6_bitCount_0f7a4_48 rfl (lv_at hl 0 rfl) ?_
  refine lv_bipush (v := 63) hx hb dJ6_bitCount_0f7a4_49 (by decide) ?_
  refine lv_iand hx hb dJ6_bitCount_0f7a4_51 ?_
  refine lv_topi (fun x15 ex15 => ?_)
  obtain rfl : x15 = 0 := ex15.trans (by decide)
  exact W.iret (v := 0) hx hb hr (fun t ht hW => ⟨⟨0, (), rfl, (by rfl), trivial⟩, hS.F ht⟩) hS.2.2 dJ6_bitCount_0f7a4_52
def w_m_lifts : List Cond := .code yX12_lifts_ cX12_lifts_ 13 (some .int) :: ([.fieldLink RX12 194 "SeaLandModel" "thrown" "I", .code yX12_in cX12_in 3 (some .boolean), .methodLink RX12 197 yX12_in, .static yX12_in, .initialized RX12, .code yX12_throwsIf cX12_throwsIf 3 (some .boolean), .methodLink RX12 224 yX12_throwsIf, .instanceMethod yX12_throwsIf, .selects RX12 yX12_throwsIf yX12_throwsIf, .fieldLink RX12 9 "SeaLandModel" "world" "[I", .constant RX12 538 1000000000, .fieldLink RX12 161 "SeaLandModel" "best" "[I", .methodLink RX12 207 Lib.Math.min.name, .static Lib.Math.min.name, .initialized "java/lang/Math", .code Lib.Math.min.name Lib.Math.min.code 2 (some .int), .code yJ6_bitCount_0f7a4 cJ6_bitCount_0f7a4 1 (some .int), .constant RJ6 265 1431655765, .constant RJ6 266 858993459, .constant RJ6 267 252645135, .methodLink RX12 545 yJ6_bitCount_0f7a4, .static yJ6_bitCount_0f7a4, .initialized RJ6, .fieldLink RX12 164 "SeaLandModel" "next" "[I", .methodLink RX12 211 Lib.Math.max.name, .static Lib.Math.max.name, .code Lib.Math.max.name Lib.Math.max.code 2 (some .int)] ++ bs)
set_option maxHeartbeats 4000000 in
set_option maxRecDepth 100000 in
theorem m_lifts (l : Launch) (dC : Nat → ClassId) (dI : Nat → Nat → Nat) (h0 : Nat) (q : Nat → Nat) (cm : Nat → ClassId) (p0 p1 p2 p3 : Int32) (sz : Nat) : Met l yX12_lifts_ w_m_lifts ({ frames := 1, cells := 0, slots := 0, locals := 40 }) (va_Pc [.ref h0, .int p0, .int p1, .int p2, .int p3] (fun U => U.heap.size = sz ∧ va_P (dC, dI) vwCl [(h0, .inr (15, mF q 0)), (q 1, .inl ((cm 1), 1749, .inl (fun _ => 0))), (q 65, .inl ((cm 65), 1001, .inl (fun _ => 0))), (q 66, .inl ((cm 66), 1001, .inl (fun _ => 0)))] U.heap ∧ va_K (dC, dI) vwCl [((cm 1), .int), ((cm 65), .int), ((cm 66), .int)] U ∧ va_D (fun _ => True) [(h0, .inr (15, mF q 0)), (q 1, .inl ((cm 1), 1749, .inl (fun _ => 0))), (q 65, .inl ((cm 65), 1001, .inl (fun _ => 0))), (q 66, .inl ((cm 66), 1001, .inl (fun _ => 0)))])) (va_Qi (fun (r : Int32) (u : List Value) => u[0]? = some (.int (T_lifts p0 p1 p2 p3).1) ∧ ((T_lifts p0 p1 p2 p3).1 = 0 → r = (T_lifts p0 p1 p2 p3).2)) (fun (fs : List Value) (t : State) => va_P (dC, dI) vwCl [(h0, .inr (15, fs))] t.heap ∧ va_D (va_A [(h0, .inr (15, mF q 0)), (q 1, .inl ((cm 1), 1749, .inl (fun _ => 0))), (q 65, .inl ((cm 65), 1001, .inl (fun _ => 0))), (q 66, .inl ((cm 66), 1001, .inl (fun _ => 0)))] sz) [(h0, .inr (15, fs))]) (va_A [(h0, .inr (15, mF q 0)), (q 1, .inl ((cm 1), 1749, .inl (fun _ => 0))), (q 65, .inl ((cm 65), 1001, .inl (fun _ => 0))), (q 66, .inl ((cm 66), 1001, .inl (fun _ => 0)))] sz)) 0 0 (va_A [(h0, .inr (15, mF q 0)), (q 1, .inl ((cm 1), 1749, .inl (fun _ => 0))), (q 65, .inl ((cm 65), 1001, .inl (fun _ => 0))), (q 66, .inl ((cm 66), 1001, .inl (fun _ => 0)))] sz) := by
  refine Met.ofW (cc := cX12_lifts_) (maxL := 13) (ret := (some .int)) (by decide) rfl ?_
  intro p e s m args below meth c s₁ B hml hv
  obtain ⟨rfl, hsz, hP, hK, hD0⟩ := hv
  have hx := B.exec
  have hb := B.bytes
  have hr := B.returns
  have hts := atoms_spec (ws := w_m_lifts) B.pre
  have hown : s.vm.findClass RX12 = some m.cls := findClass_of_methodNamed B.named
  have hlocks := B.notSynchronized
  subst hsz
  have hD := hD0.self (sz := s.heap.size)
  generalize hAe : va_A [(h0, .inr (15, mF q 0)), (q 1, .inl ((cm 1), 1749, .inl (fun _ => 0))), (q 65, .inl ((cm 65), 1001, .inl (fun _ => 0))), (q 66, .inl ((cm 66), 1001, .inl (fun _ => 0)))] s.heap.size = A at hD ⊢
  have hA : ∀ q : Nat, s.heap.size ≤ q → A q := fun q h => by rw [← hAe]; exact Or.inr h
  have hS : va_S A s.heap s.heap [] := va_S.rf
  have hP : va_P (dC, dI) vwCl [(h0, .inr (15, mF q 0)), (q 1, .inl ((cm 1), 1749, .inl (fun _ => 0))), (q 65, .inl ((cm 65), 1001, .inl (fun _ => 0))), (q 66, .inl ((cm 66), 1001, .inl (fun _ => 0)))] s.heap := hP
  have hl := lv_entry ([.ref h0, .int p0, .int p1, .int p2, .int p3]) (n := 13) (Nat.le_of_ble_eq_true rfl)
  rw [lg_entry_eq]
  generalize (lg_sl ([.ref h0, .int p0, .int p1, .int p2, .int p3]) ++ List.replicate (13 - (lg_sl ([.ref h0, .int p0, .int p1, .int p2, .int p3])).length) Slot.unset).toArray = ls at hl ⊢
  have hl : lv_has ls 13 [(0, .ref h0), (1, .int p0), (2, .int p1), (3, .int p2), (4, .int p3)] := hl
  refine lv_aload_n hx hb dX12_lifts__0 rfl (lv_at hl 0 rfl) ?_
  refine lv_iconst (v := 0) hx hb dX12_lifts__1 (by decide) ?_
  refine va_put (D := (dC, dI)) (ci := 15) (v := .int 0) (ty := .int) (C := RX12) (T := TX12) (N := 78) hx hb hts bF_X12 tyX12 tyX12_ok nmX12 hown hK hP hD hS 0 rfl rfl 0 (by decide) (ht_at hts 0 rfl) (fun _ h9 => h9) rfl (by decide +kernel) rfl rfl (Nat.le_of_ble_eq_true rfl) dX12_lifts__2 (fun H locs hP hD hS => ?_)
  have hP : va_P (dC, dI) vwCl [(h0, .inr (15, mF q 0)), (q 1, .inl ((cm 1), 1749, .inl (fun _ => 0))), (q 65, .inl ((cm 65), 1001, .inl (fun _ => 0))), (q 66, .inl ((cm 66), 1001, .inl (fun _ => 0)))] H := hP
  have hD : va_D A [(h0, .inr (15, mF q 0)), (q 1, .inl ((cm 1), 1749, .inl (fun _ => 0))), (q 65, .inl ((cm 65), 1001, .inl (fun _ => 0))), (q 66, .inl ((cm 66), 1001, .inl (fun _ => 0)))] := hD
  refine lv_aload_n hx hb dX12_lifts__5 rfl (lv_at hl 0 rfl) ?_
  refine lv_iload_n hx hb dX12_lifts__6 rfl (lv_at hl 1 rfl) ?_
  refine lv_iconst (v := 0) hx hb dX12_lifts__7 (by decide) ?_
  refine lv_sipush (v := 1000) hx hb dX12_lifts__8 (by decide) ?_
  have hPc := hP.sub (ws' := []) [] rfl
  have hDc := hD.sub (ws' := []) [] (by decide) rfl
  have hKc := hK.sub (tys' := []) [] rfl
  have hFc := va_free (wc := []) hD hS hA [] rfl
  refine va_calli (va_runS (As := [.int p0, .int 0, .int 1000]) (rest := [.ref h0]) ⟨hx, hb, hml, hown, hts⟩ (c_min_ l dC dI p0 0 1000 H.size ) (va_cwS 3 hts (goodIn_app (goodIn_r _ [3, 4, 5] (by decide +kernel) (by decide +kernel)) (goodIn_ca (goodIn_r _ [2] (by decide +kernel) (by decide +kernel)) (bs_in _ _))) rfl rfl rfl (by decide +kernel) ⟨(Nat.le_of_ble_eq_true rfl), (Nat.le_of_ble_eq_true rfl)⟩) ⟨fun a U g mk q => by obtain ⟨q0, q1, qP, qK, qD⟩ := q; exact ⟨q0, q1, qP, va_K.moved (u := U) (U := U.calling g mk a) (Vm.Alike.refl U.vm) qK, qD⟩, fun U hU hW => ⟨rfl, by rw [hU], by rw [hU]; exact hPc, va_K.moved hW.alike hKc, hDc.weaken (fun _ _ _ _ => trivial)⟩⟩ rfl rfl hl.1 rfl (lv_room (Nat.le_of_ble_eq_true rfl)) dX12_lifts__11 ⟨(Nat.le_of_ble_eq_true rfl), (Nat.le_of_ble_eq_true rfl)⟩) hS (fun q _ h => hFc q h) hFc (fun r2 u t H1 locs ht hvm hw3 hB hz1 hk1 hS => ?_)
  have hP1 : va_P (dC, dI) vwCl [] H1 := nilP
  have hD1 : va_D (va_A [] H.size) [] := nilD
  have hK := hK
  obtain ⟨hP, hD⟩ := va_join (wr := [(h0, .inr (15, mF q 0)), (q 1, .inl ((cm 1), 1749, .inl (fun _ => 0))), (q 65, .inl ((cm 65), 1001, .inl (fun _ => 0))), (q 66, .inl ((cm 66), 1001, .inl (fun _ => 0)))]) (w1 := []) hP hD [] [0, 1, 2, 3] rfl rfl (by decide) (by decide) hk1 hFc hP1 hD1
  generalize H1 = H at hP hS ⊢
  have hP : va_P (dC, dI) vwCl [(h0, .inr (15, mF q 0)), (q 1, .inl ((cm 1), 1749, .inl (fun _ => 0))), (q 65, .inl ((cm 65), 1001, .inl (fun _ => 0))), (q 66, .inl ((cm 66), 1001, .inl (fun _ => 0)))] H := hP
  have hD : va_D A [(h0, .inr (15, mF q 0)), (q 1, .inl ((cm 1), 1749, .inl (fun _ => 0))), (q 65, .inl ((cm 65), 1001, .inl (fun _ => 0))), (q 66, .inl ((cm 66), 1001, .inl (fun _ => 0)))] := hD
  try dsimp only at hw3
  by_cases hc4 : (0 : Int32) ≤ p0 ∧ p0 ≤ (1000 : Int32)
  · rw [if_pos hc4] at hw3
    subst hw3
    refine lv_if_eq (tgt := 49) hx hb dX12_lifts__14 (by decide) (fun c5 => absurd c5 (by decide)) (fun c5 => ?_)
    refine lv_iload_n hx hb dX12_lifts__17 rfl (lv_at hl 2 rfl) ?_
    refine lv_iconst (v := 0) hx hb dX12_lifts__18 (by decide) ?_
    refine lv_bipush (v := 100) hx hb dX12_lifts__19 (by decide) ?_
    have hPc := hP.sub (ws' := []) [] rfl
    have hDc := hD.sub (ws' := []) [] (by decide) rfl
    have hKc := hK.sub (tys' := []) [] rfl
    have hFc := va_free (wc := []) hD hS hA [] rfl
    refine va_calli (va_runS (As := [.int p1, .int 0, .int 100]) (rest := [.ref h0]) ⟨hx, hb, hml, hown, hts⟩ (c_min_ l dC dI p1 0 100 H.size ) (va_cwS 3 hts (goodIn_app (goodIn_r _ [3, 4, 5] (by decide +kernel) (by decide +kernel)) (goodIn_ca (goodIn_r _ [2] (by decide +kernel) (by decide +kernel)) (bs_in _ _))) rfl rfl rfl (by decide +kernel) ⟨(Nat.le_of_ble_eq_true rfl), (Nat.le_of_ble_eq_true rfl)⟩) ⟨fun a U g mk q => by obtain ⟨q0, q1, qP, qK, qD⟩ := q; exact ⟨q0, q1, qP, va_K.moved (u := U) (U := U.calling g mk a) (Vm.Alike.refl U.vm) qK, qD⟩, fun U hU hW => ⟨rfl, by rw [hU], by rw [hU]; exact hPc, va_K.moved hW.alike hKc, hDc.weaken (fun _ _ _ _ => trivial)⟩⟩ rfl rfl hl.1 rfl (lv_room (Nat.le_of_ble_eq_true rfl)) dX12_lifts__21 ⟨(Nat.le_of_ble_eq_true rfl), (Nat.le_of_ble_eq_true rfl)⟩) hS (fun q _ h => hFc q h) hFc (fun r7 u t H1 locs ht hvm hw8 hB hz1 hk1 hS => ?_)
    have hP1 : va_P (dC, dI) vwCl [] H1 := nilP
    have hD1 : va_D (va_A [] H.size) [] := nilD
    have hK := hK
    obtain ⟨hP, hD⟩ := va_join (wr := [(h0, .inr (15, mF q 0)), (q 1, .inl ((cm 1), 1749, .inl (fun _ => 0))), (q 65, .inl ((cm 65), 1001, .inl (fun _ => 0))), (q 66, .inl ((cm 66), 1001, .inl (fun _ => 0)))]) (w1 := []) hP hD [] [0, 1, 2, 3] rfl rfl (by decide) (by decide) hk1 hFc hP1 hD1
    generalize H1 = H at hP hS ⊢
    have hP : va_P (dC, dI) vwCl [(h0, .inr (15, mF q 0)), (q 1, .inl ((cm 1), 1749, .inl (fun _ => 0))), (q 65, .inl ((cm 65), 1001, .inl (fun _ => 0))), (q 66, .inl ((cm 66), 1001, .inl (fun _ => 0)))] H := hP
    have hD : va_D A [(h0, .inr (15, mF q 0)), (q 1, .inl ((cm 1), 1749, .inl (fun _ => 0))), (q 65, .inl ((cm 65), 1001, .inl (fun _ => 0))), (q 66, .inl ((cm 66), 1001, .inl (fun _ => 0)))] := hD
    try dsimp only at hw8
    by_cases hc9 : (0 : Int32) ≤ p1 ∧ p1 ≤ (100 : Int32)
    · rw [if_pos hc9] at hw8
      subst hw8
      refine lv_if_eq (tgt := 49) hx hb dX12_lifts__24 (by decide) (fun c10 => absurd c10 (by decide)) (fun c10 => ?_)
      refine lv_iload_n hx hb dX12_lifts__27 rfl (lv_at hl 3 rfl) ?_
      refine lv_iconst (v := 1) hx hb dX12_lifts__28 (by decide) ?_
      refine lv_bipush (v := 24) hx hb dX12_lifts__29 (by decide) ?_
      have hPc := hP.sub (ws' := []) [] rfl
      have hDc := hD.sub (ws' := []) [] (by decide) rfl
      have hKc := hK.sub (tys' := []) [] rfl
      have hFc := va_free (wc := []) hD hS hA [] rfl
      refine va_calli (va_runS (As := [.int p2, .int 1, .int 24]) (rest := [.ref h0]) ⟨hx, hb, hml, hown, hts⟩ (c_min_ l dC dI p2 1 24 H.size ) (va_cwS 3 hts (goodIn_app (goodIn_r _ [3, 4, 5] (by decide +kernel) (by decide +kernel)) (goodIn_ca (goodIn_r _ [2] (by decide +kernel) (by decide +kernel)) (bs_in _ _))) rfl rfl rfl (by decide +kernel) ⟨(Nat.le_of_ble_eq_true rfl), (Nat.le_of_ble_eq_true rfl)⟩) ⟨fun a U g mk q => by obtain ⟨q0, q1, qP, qK, qD⟩ := q; exact ⟨q0, q1, qP, va_K.moved (u := U) (U := U.calling g mk a) (Vm.Alike.refl U.vm) qK, qD⟩, fun U hU hW => ⟨rfl, by rw [hU], by rw [hU]; exact hPc, va_K.moved hW.alike hKc, hDc.weaken (fun _ _ _ _ => trivial)⟩⟩ rfl rfl hl.1 rfl (lv_room (Nat.le_of_ble_eq_true rfl)) dX12_lifts__31 ⟨(Nat.le_of_ble_eq_true rfl), (Nat.le_of_ble_eq_true rfl)⟩) hS (fun q _ h => hFc q h) hFc (fun r12 u t H1 locs ht hvm hw13 hB hz1 hk1 hS => ?_)
      have hP1 : va_P (dC, dI) vwCl [] H1 := nilP
      have hD1 : va_D (va_A [] H.size) [] := nilD
      have hK := hK
      obtain ⟨hP, hD⟩ := va_join (wr := [(h0, .inr (15, mF q 0)), (q 1, .inl ((cm 1), 1749, .inl (fun _ => 0))), (q 65, .inl ((cm 65), 1001, .inl (fun _ => 0))), (q 66, .inl ((cm 66), 1001, .inl (fun _ => 0)))]) (w1 := []) hP hD [] [0, 1, 2, 3] rfl rfl (by decide) (by decide) hk1 hFc hP1 hD1
      generalize H1 = H at hP hS ⊢
      have hP : va_P (dC, dI) vwCl [(h0, .inr (15, mF q 0)), (q 1, .inl ((cm 1), 1749, .inl (fun _ => 0))), (q 65, .inl ((cm 65), 1001, .inl (fun _ => 0))), (q 66, .inl ((cm 66), 1001, .inl (fun _ => 0)))] H := hP
      have hD : va_D A [(h0, .inr (15, mF q 0)), (q 1, .inl ((cm 1), 1749, .inl (fun _ => 0))), (q 65, .inl ((cm 65), 1001, .inl (fun _ => 0))), (q 66, .inl ((cm 66), 1001, .inl (fun _ => 0)))] := hD
      try dsimp only at hw13
      by_cases hc14 : (1 : Int32) ≤ p2 ∧ p2 ≤ (24 : Int32)
      · rw [if_pos hc14] at hw13
        subst hw13
        refine lv_if_eq (tgt := 49) hx hb dX12_lifts__34 (by decide) (fun c15 => absurd c15 (by decide)) (fun c15 => ?_)
        refine lv_iload hx hb dX12_lifts__37 (lv_at hl 4 rfl) ?_
        refine lv_iconst (v := 0) hx hb dX12_lifts__39 (by decide) ?_
        refine lv_sipush (v := 1000) hx hb dX12_lifts__40 (by decide) ?_
        have hPc := hP.sub (ws' := []) [] rfl
        have hDc := hD.sub (ws' := []) [] (by decide) rfl
        have hKc := hK.sub (tys' := []) [] rfl
        have hFc := va_free (wc := []) hD hS hA [] rfl
        refine va_calli (va_runS (As := [.int p3, .int 0, .int 1000]) (rest := [.ref h0]) ⟨hx, hb, hml, hown, hts⟩ (c_min_ l dC dI p3 0 1000 H.size ) (va_cwS 3 hts (goodIn_app (goodIn_r _ [3, 4, 5] (by decide +kernel) (by decide +kernel)) (goodIn_ca (goodIn_r _ [2] (by decide +kernel) (by decide +kernel)) (bs_in _ _))) rfl rfl rfl (by decide +kernel) ⟨(Nat.le_of_ble_eq_true rfl), (Nat.le_of_ble_eq_true rfl)⟩) ⟨fun a U g mk q => by obtain ⟨q0, q1, qP, qK, qD⟩ := q; exact ⟨q0, q1, qP, va_K.moved (u := U) (U := U.calling g mk a) (Vm.Alike.refl U.vm) qK, qD⟩, fun U hU hW => ⟨rfl, by rw [hU], by rw [hU]; exact hPc, va_K.moved hW.alike hKc, hDc.weaken (fun _ _ _ _ => trivial)⟩⟩ rfl rfl hl.1 rfl (lv_room (Nat.le_of_ble_eq_true rfl)) dX12_lifts__43 ⟨(Nat.le_of_ble_eq_true rfl), (Nat.le_of_ble_eq_true rfl)⟩) hS (fun q _ h => hFc q h) hFc (fun r17 u t H1 locs ht hvm hw18 hB hz1 hk1 hS => ?_)
        have hP1 : va_P (dC, dI) vwCl [] H1 := nilP
        have hD1 : va_D (va_A [] H.size) [] := nilD
        have hK := hK
        obtain ⟨hP, hD⟩ := va_join (wr := [(h0, .inr (15, mF q 0)), (q 1, .inl ((cm 1), 1749, .inl (fun _ => 0))), (q 65, .inl ((cm 65), 1001, .inl (fun _ => 0))), (q 66, .inl ((cm 66), 1001, .inl (fun _ => 0)))]) (w1 := []) hP hD [] [0, 1, 2, 3] rfl rfl (by decide) (by decide) hk1 hFc hP1 hD1
        generalize H1 = H at hP hS ⊢
        have hP : va_P (dC, dI) vwCl [(h0, .inr (15, mF q 0)), (q 1, .inl ((cm 1), 1749, .inl (fun _ => 0))), (q 65, .inl ((cm 65), 1001, .inl (fun _ => 0))), (q 66, .inl ((cm 66), 1001, .inl (fun _ => 0)))] H := hP
        have hD : va_D A [(h0, .inr (15, mF q 0)), (q 1, .inl ((cm 1), 1749, .inl (fun _ => 0))), (q 65, .inl ((cm 65), 1001, .inl (fun _ => 0))), (q 66, .inl ((cm 66), 1001, .inl (fun _ => 0)))] := hD
        try dsimp only at hw18
        by_cases hc19 : (0 : Int32) ≤ p3 ∧ p3 ≤ (1000 : Int32)
        · rw [if_pos hc19] at hw18
          subst hw18
          refine lv_if_ne (tgt := 53) hx hb dX12_lifts__46 (by decide) (fun c20 => ?_) (fun c20 => absurd c20 (by decide))
          refine lv_iconst (v := 0) hx hb dX12_lifts__53 (by decide) ?_
          refine lv_iconst (v := 1) hx hb dX12_lifts__54 (by decide) ?_
          have hPc := hP.sub (ws' := [(h0, .inr (15, mF q 0))]) [0] rfl
          have hDc := hD.sub (ws' := [(h0, .inr (15, mF q 0))]) [0] (by decide) rfl
          have hKc := hK.sub (tys' := []) [] rfl
          have hFc := va_free (wc := [(h0, .inr (15, mF q 0))]) hD hS hA [0] rfl
          refine va_calli (va_runV (As := [.int 0, .int 1]) (rest := []) ⟨hx, hb, hml, hown, hts⟩ (c_m_throwsIf0 l dC dI h0 (mF q 0) 1 H.size ) (cwV 2 hts (goodIn_app (goodIn_r _ [7, 8, 9, 5] (by decide +kernel) (by decide +kernel)) (goodIn_ca (goodIn_r _ [6] (by decide +kernel) (by decide +kernel)) (bs_in _ _))) rfl rfl rfl (by decide +kernel) ⟨(Nat.le_of_ble_eq_true rfl), (Nat.le_of_ble_eq_true rfl)⟩) ⟨fun a U g mk q => by obtain ⟨q0, q1, qP, qK, qD⟩ := q; exact ⟨q0, q1, qP, va_K.moved (u := U) (U := U.calling g mk a) (Vm.Alike.refl U.vm) qK, qD⟩, va_recv hKc hPc (ci := 15) (q0 := 0) rfl rfl, fun U hU hW => ⟨rfl, by rw [hU], by rw [hU]; exact hPc, va_K.moved hW.alike hKc, hDc.weaken (fun _ _ _ _ => trivial)⟩⟩ rfl rfl hl.1 rfl (lv_room (Nat.le_of_ble_eq_true rfl)) dX12_lifts__55 ⟨(Nat.le_of_ble_eq_true rfl), (Nat.le_of_ble_eq_true rfl)⟩) hS (fun q _ h => hFc q h) hFc (fun r22 u t H1 locs ht hvm hw23 hB hz1 hk1 hS => ?_)
          obtain ⟨hP1, hD1⟩ := hB
          rw [ht] at hP1
          obtain ⟨hP, hD⟩ := va_join (wr := [(q 1, .inl ((cm 1), 1749, .inl (fun _ => 0))), (q 65, .inl ((cm 65), 1001, .inl (fun _ => 0))), (q 66, .inl ((cm 66), 1001, .inl (fun _ => 0)))]) (w1 := [(h0, .inr (15, mF q 0))]) hP hD [0] [1, 2, 3] rfl rfl (by decide) (by decide) hk1 hFc hP1 hD1
          generalize H1 = H at hP hS ⊢
          have hP : va_P (dC, dI) vwCl [(q 1, .inl ((cm 1), 1749, .inl (fun _ => 0))), (q 65, .inl ((cm 65), 1001, .inl (fun _ => 0))), (q 66, .inl ((cm 66), 1001, .inl (fun _ => 0))), (h0, .inr (15, mF q 0))] H := hP
          have hD : va_D A [(q 1, .inl ((cm 1), 1749, .inl (fun _ => 0))), (q 65, .inl ((cm 65), 1001, .inl (fun _ => 0))), (q 66, .inl ((cm 66), 1001, .inl (fun _ => 0))), (h0, .inr (15, mF q 0))] := hD
          try dsimp only at hw23
          obtain rfl : 0 = r22 := (hw23).symm
          refine lv_if_eq (tgt := 63) hx hb dX12_lifts__58 (by decide) (fun c24 => ?_) (fun c24 => absurd c24 (by decide))
          refine lv_iconst (v := 0) hx hb dX12_lifts__63 (by decide) ?_
          refine lv_istore (lv' := [(5, .int 0), (0, .ref h0), (1, .int p0), (2, .int p1), (3, .int p2), (4, .int p3)]) hx hb dX12_lifts__64 hl (by decide) rfl (fun ls hl => ?_)
          refine lv_iconst (v := 0) hx hb dX12_lifts__66 (by decide) ?_
          refine lv_istore (lv' := [(6, .int 0), (5, .int 0), (0, .ref h0), (1, .int p0), (2, .int p1), (3, .int p2), (4, .int p3)]) hx hb dX12_lifts__67 hl (by decide) rfl (fun ls hl => ?_)
          refine lv_iload hx hb dX12_lifts__69 (lv_at hl 0 rfl) ?_
          refine lv_aload_n hx hb dX12_lifts__71 rfl (lv_at hl 2 rfl) ?_
          refine va_get (D := (dC, dI)) (ci := 15) (v := .ref (q 1)) (C := RX12) (T := TX12) (N := 78) hx hb hts bF_X12 hown hK hP 3 rfl rfl 1 (by decide) (ht_at hts 9 rfl) (fun _ h9 => h9) rfl dX12_lifts__72 ?_
          refine lv_sipush (v := 1428) hx hb dX12_lifts__75 (by decide) ?_
          refine va_iald hx hb hK hP 0 0 rfl rfl (by unfold vp_in; decide) dX12_lifts__78 ?_
          refine lv_topi (fun x25 ex25 => ?_)
          obtain rfl : 0 = x25 := (ex25).symm
          refine lv_icmp_ge (tgt := 126) hx hb dX12_lifts__79 (by decide) (fun c26 => ?_) (fun c26 => absurd c26 (by decide))
          refine lv_iconst (v := 0) hx hb dX12_lifts__126 (by decide) ?_
          refine lv_istore (lv' := [(6, .int 0), (5, .int 0), (0, .ref h0), (1, .int p0), (2, .int p1), (3, .int p2), (4, .int p3)]) hx hb dX12_lifts__127 hl (by decide) rfl (fun ls hl => ?_)
          obtain ⟨wa, hwa, e0⟩ := nI_of2 (M := 1000) (n := 1000) (by decide) (Int32.not_lt.mpr hc4.1) hc4.2
          obtain ⟨wb, hwb, e1⟩ := nI_of2 (M := 100) (n := 100) (by decide) (Int32.not_lt.mpr hc9.1) hc9.2
          obtain ⟨wm, hwm, e2⟩ := nI_of2 (M := 24) (n := 24) (by decide) (ge1 hc14.1) hc14.2
          obtain ⟨wc, hwc, e3⟩ := nI_of2 (M := 1000) (n := 1000) (by decide) (Int32.not_lt.mpr hc19.1) hc19.2
          have key27 : ∀ (n27 i : Nat), i + n27 = 1001 → ∀ (f : Nat → Int32), ∀ (hf : ∀ j, j < i → f j = bq (some wa) j), ∀ (H : Heap) (locs : List Loc), va_P (dC, dI) vwCl [(q 1, .inl ((cm 1), 1749, .inl (fun _ => 0))), (q 65, .inl ((cm 65), 1001, .inl f)), (q 66, .inl ((cm 66), 1001, .inl (fun _ => 0))), (h0, .inr (15, mF q 0))] H → va_D A [(q 1, .inl ((cm 1), 1749, .inl (fun _ => 0))), (q 65, .inl ((cm 65), 1001, .inl f)), (q 66, .inl ((cm 66), 1001, .inl (fun _ => 0))), (h0, .inr (15, mF q 0))] → va_S A s.heap H locs → ∀ ls : Array Slot, lv_has ls 13 [(6, .int (nI i)), (0, .ref h0), (1, .int p0), (2, .int p1), (3, .int p2), (4, .int p3), (5, .int 0)] → W p l e (headSpec w_m_lifts ({ frames := 1, cells := 0, slots := 0, locals := 40 })).room s m #[.ref h0, .int p0, .int p1, .int p2, .int p3] below meth c H locs 0 0 (MQ below (va_Qi (fun (r : Int32) (u : List Value) => u[0]? = some (.int (T_lifts p0 p1 p2 p3).1) ∧ ((T_lifts p0 p1 p2 p3).1 = 0 → r = (T_lifts p0 p1 p2 p3).2)) (fun (fs : List Value) (t : State) => va_P (dC, dI) vwCl [(h0, .inr (15, fs))] t.heap ∧ va_D A [(h0, .inr (15, fs))]) A) #[.ref h0, .int p0, .int p1, .int p2, .int p3] s 0 0 A) (F0 m 129 ls []) := by
            intro n27
            induction n27 with
            | zero =>
              intro i hn27 f hf H locs hP hD hS ls hl
              obtain rfl : 1001 = i := by omega
              refine lv_iload hx hb dX12_lifts__129 (lv_at hl 0 rfl) ?_
              refine lv_sipush (v := 1001) hx hb dX12_lifts__131 (by decide) ?_
              refine lv_icmp_ge (tgt := 163) hx hb dX12_lifts__134 (by decide) (fun c28 => ?_) (fun c28 => absurd c28 (by decide))
              refine lv_iconst (v := 1) hx hb dX12_lifts__163 (by decide) ?_
              refine lv_istore (lv' := [(6, .int 1), (0, .ref h0), (1, .int p0), (2, .int p1), (3, .int p2), (4, .int p3), (5, .int 0)]) hx hb dX12_lifts__164 hl (by decide) rfl (fun ls hl => ?_)
              have key29 : ∀ (n29 i : Nat), i + n29 = (wm + 1) → ∀ (f g : Nat → Int32), ∀ (hf : 0 < i ∧ ∀ j, j < 1001 → f j = bq (lq wa wb wc (i - 1)) j), ∀ (H : Heap) (locs : List Loc), va_P (dC, dI) vwCl [(q 1, .inl ((cm 1), 1749, .inl (fun _ => 0))), (q 65, .inl ((cm 65), 1001, .inl f)), (q 66, .inl ((cm 66), 1001, .inl g)), (h0, .inr (15, mF q 0))] H → va_D A [(q 1, .inl ((cm 1), 1749, .inl (fun _ => 0))), (q 65, .inl ((cm 65), 1001, .inl f)), (q 66, .inl ((cm 66), 1001, .inl g)), (h0, .inr (15, mF q 0))] → va_S A s.heap H locs → ∀ ls : Array Slot, lv_has ls 13 [(6, .int (nI i)), (0, .ref h0), (1, .int p0), (2, .int p1), (3, .int p2), (4, .int p3), (5, .int 0)] → W p l e (headSpec w_m_lifts ({ frames := 1, cells := 0, slots := 0, locals := 40 })).room s m #[.ref h0, .int p0, .int p1, .int p2, .int p3] below meth c H locs 0 0 (MQ below (va_Qi (fun (r : Int32) (u : List Value) => u[0]? = some (.int (T_lifts p0 p1 p2 p3).1) ∧ ((T_lifts p0 p1 p2 p3).1 = 0 → r = (T_lifts p0 p1 p2 p3).2)) (fun (fs : List Value) (t : State) => va_P (dC, dI) vwCl [(h0, .inr (15, fs))] t.heap ∧ va_D A [(h0, .inr (15, fs))]) A) #[.ref h0, .int p0, .int p1, .int p2, .int p3] s 0 0 A) (F0 m 166 ls []) := by
                intro n29
                induction n29 with
                | zero =>
                  intro i hn29 f g hf H locs hP hD hS ls hl
                  obtain rfl : (wm + 1) = i := by omega
                  refine lv_iload hx hb dX12_lifts__166 (lv_at hl 0 rfl) ?_
                  refine lv_iload_n hx hb dX12_lifts__168 rfl (lv_at hl 4 rfl) ?_
                  refine lv_icmp_gt (tgt := 449) hx hb dX12_lifts__169 (by decide) (fun c30 => ?_) (fun c30 => absurd (gt_e rfl e2 (Nat.lt_succ_self _) (by omega)) c30)
                  refine lv_ldcw (v := 1000000000) hx hb hown (ht_at hts 10 rfl) dX12_lifts__449 ?_
                  refine lv_istore (lv' := [(6, .int 1000000000), (0, .ref h0), (1, .int p0), (2, .int p1), (3, .int p2), (4, .int p3), (5, .int 0)]) hx hb dX12_lifts__452 hl (by decide) rfl (fun ls hl => ?_)
                  refine lv_iconst (v := 0) hx hb dX12_lifts__454 (by decide) ?_
                  refine lv_istore (lv' := [(7, .int 0), (6, .int 1000000000), (0, .ref h0), (1, .int p0), (2, .int p1), (3, .int p2), (4, .int p3), (5, .int 0)]) hx hb dX12_lifts__455 hl (by decide) rfl (fun ls hl => ?_)
                  have hf := hf.2
                  rw [Nat.add_sub_cancel] at hf
                  have ho : ∀ v, lq wa wb wc wm = some v → v ≤ 1000 := fun v h => lq_le hwa hwc _ v h
                  have hans : lL (lq p0.toNatClampNeg p1.toNatClampNeg p3.toNatClampNeg p2.toNatClampNeg) = lL (lq wa wb wc wm) := by rw [e0, e1, e2, e3, nI_clamp (by omega), nI_clamp (by omega), nI_clamp (by omega), nI_clamp (by omega)]
                  generalize hoe : lq wa wb wc wm = o at hf ho hans
                  have e60 : (1000000000 : Int32) = mn9 o 0 := (mn9_0 o).symm
                  rw [e60] at hl
                  have key31 : ∀ (n31 i5 : Nat), i5 + n31 = 1001 → ∀ (H : Heap) (locs : List Loc), va_P (dC, dI) vwCl [(q 1, .inl ((cm 1), 1749, .inl (fun _ => 0))), (q 65, .inl ((cm 65), 1001, .inl f)), (q 66, .inl ((cm 66), 1001, .inl g)), (h0, .inr (15, mF q 0))] H → va_D A [(q 1, .inl ((cm 1), 1749, .inl (fun _ => 0))), (q 65, .inl ((cm 65), 1001, .inl f)), (q 66, .inl ((cm 66), 1001, .inl g)), (h0, .inr (15, mF q 0))] → va_S A s.heap H locs → ∀ ls : Array Slot, lv_has ls 13 [(7, .int (nI i5)), (6, .int (mn9 o i5)), (0, .ref h0)] → W p l e (headSpec w_m_lifts ({ frames := 1, cells := 0, slots := 0, locals := 40 })).room s m #[.ref h0, .int p0, .int p1, .int p2, .int p3] below meth c H locs 0 0 (MQ below (va_Qi (fun (r : Int32) (u : List Value) => u[0]? = some (.int (T_lifts p0 p1 p2 p3).1) ∧ ((T_lifts p0 p1 p2 p3).1 = 0 → r = (T_lifts p0 p1 p2 p3).2)) (fun (fs : List Value) (t : State) => va_P (dC, dI) vwCl [(h0, .inr (15, fs))] t.heap ∧ va_D A [(h0, .inr (15, fs))]) A) #[.ref h0, .int p0, .int p1, .int p2, .int p3] s 0 0 A) (F0 m 457 ls []) := by
                    intro n31
                    induction n31 with
                    | zero =>
                      intro i5 hn31 H locs hP hD hS ls hl
                      obtain rfl : 1001 = i5 := by omega
                      refine lv_iload hx hb dX12_lifts__457 (lv_at hl 0 rfl) ?_
                      refine lv_sipush (v := 1001) hx hb dX12_lifts__459 (by decide) ?_
                      refine lv_icmp_ge (tgt := 485) hx hb dX12_lifts__462 (by decide) (fun c32 => ?_) (fun c32 => absurd c32 (by decide))
                      rcases mn9_end ho with ⟨ho9, em⟩ | ⟨⟨v9, ho9⟩, em⟩
                      · rw [em] at hl
                        refine lv_iload hx hb dX12_lifts__485 (lv_at hl 1 rfl) ?_
                        refine lv_ldcw (v := 1000000000) hx hb hown (ht_at hts 10 rfl) dX12_lifts__487 ?_
                        refine lv_icmp_ne (tgt := 497) hx hb dX12_lifts__490 (by decide) (fun c33 => absurd c33 (by decide)) (fun c33 => ?_)
                        refine lv_iconst (v := (-1)) hx hb dX12_lifts__493 (by decide) ?_
                        refine lv_goto (tgt := 499) hx hb dX12_lifts__494 (by decide) ?_
                        exact W.iret (v := (-1)) hx hb hr (fun t ht hW => ⟨⟨(-1), (mF q 0), rfl, (by unfold T_lifts; rw [if_pos hc4, if_pos hc9, if_pos hc14, if_pos hc19]; exact ⟨rfl, fun _ => by rw [hans, ho9]; rfl⟩), by rw [ht]; exact hP.sub (ws' := [(h0, .inr (15, mF q 0))]) [3] rfl, hD.sub (ws' := [(h0, .inr (15, mF q 0))]) [3] (by decide) rfl⟩, hS.F ht⟩) hS.2.2 dX12_lifts__499
                      · rw [em] at hl
                        refine lv_iload hx hb dX12_lifts__485 (lv_at hl 1 rfl) ?_
                        refine lv_ldcw (v := 1000000000) hx hb hown (ht_at hts 10 rfl) dX12_lifts__487 ?_
                        refine lv_icmp_ne (tgt := 497) hx hb dX12_lifts__490 (by decide) (fun c34 => ?_) (fun c34 => absurd c34 (by decide))
                        refine lv_iload hx hb dX12_lifts__497 (lv_at hl 1 rfl) ?_
                        exact W.iret (v := 0) hx hb hr (fun t ht hW => ⟨⟨0, (mF q 0), rfl, (by unfold T_lifts; rw [if_pos hc4, if_pos hc9, if_pos hc14, if_pos hc19]; exact ⟨rfl, fun _ => by rw [hans, ho9]; rfl⟩), by rw [ht]; exact hP.sub (ws' := [(h0, .inr (15, mF q 0))]) [3] rfl, hD.sub (ws' := [(h0, .inr (15, mF q 0))]) [3] (by decide) rfl⟩, hS.F ht⟩) hS.2.2 dX12_lifts__499
                    | succ n31 ih31 =>
                      intro i5 hn31 H locs hP hD hS ls hl
                      have hlt35 : i5 < 1001 := by omega
                      refine lv_iload hx hb dX12_lifts__457 (lv_at hl 0 rfl) ?_
                      refine lv_sipush (v := 1001) hx hb dX12_lifts__459 (by decide) ?_
                      refine lv_icmp_ge (tgt := 485) hx hb dX12_lifts__462 (by decide) (fun c36 => absurd c36 (nI_ge (b := 1001) hlt35 (by decide))) (fun c36 => ?_)
                      by_cases ho9 : o = some i5
                      · refine lv_iload hx hb dX12_lifts__465 (lv_at hl 1 rfl) ?_
                        refine lv_aload_n hx hb dX12_lifts__467 rfl (lv_at hl 2 rfl) ?_
                        refine va_get (D := (dC, dI)) (ci := 15) (v := .ref (q 65)) (C := RX12) (T := TX12) (N := 78) hx hb hts bF_X12 hown hK hP 3 rfl rfl 65 (by decide) (ht_at hts 11 rfl) (fun _ h9 => h9) rfl dX12_lifts__468 ?_
                        refine lv_iload hx hb dX12_lifts__471 (lv_at hl 0 rfl) ?_
                        refine va_iald hx hb hK hP 1 1 rfl rfl (vp_in_nI (Nat.lt_of_lt_of_le hlt35 (by decide)) (by decide)) dX12_lifts__473 ?_
                        refine lv_topi (fun x37 ex37 => ?_)
                        obtain rfl : 0 = x37 := (ex37.trans (by rw [nI_clamp (by omega), hf _ (by omega), bq_p ho9])).symm
                        refine va_mmin hx hb (hml.trans hl.1.symm) hown (ht_at hts 12 rfl) (ht_at hts 13 rfl) (ht_at hts 14 rfl) (ht_at hts 15 rfl) (Nat.le_of_ble_eq_true rfl) (Nat.le_of_ble_eq_true rfl) (Nat.le_of_ble_eq_true rfl) (Nat.le_of_ble_eq_true rfl) dX12_lifts__474 ?_
                        refine lv_topi (fun x38 ex38 => ?_)
                        refine lv_istore (lv' := [(6, .int x38), (7, .int (nI i5)), (0, .ref h0)]) hx hb dX12_lifts__477 hl (by decide) rfl (fun ls hl => ?_)
                        obtain ⟨x39, ex39⟩ : ∃ y : Int32, y = (nI i5) + 1 := ⟨_, rfl⟩
                        refine lv_iinc (v := x39) (lv' := [(7, .int x39), (6, .int x38), (0, .ref h0)]) hx hb dX12_lifts__479 hl (k := 1) rfl (by rw [ex39]; rfl) (by decide) rfl (fun ls hl => ?_)
                        refine lv_goto (tgt := 457) hx hb dX12_lifts__482 (by decide) ?_
                        obtain rfl : x39 = nI (i5 + 1) := ex39.trans (nI_1 i5)
                        obtain rfl : x38 = mn9 o (i5 + 1) := by rw [mn9_p ho9]; exact ex38.trans (by rw [mn9_p0 ho9]; rfl)
                        exact ih31 (i5 + 1) (by omega) _ _ (hP.sub [0, 1, 2, 3] rfl) (hD.sub [0, 1, 2, 3] (by decide) rfl) hS ls (lv_sub hl [0, 1, 2] rfl)
                      · refine lv_iload hx hb dX12_lifts__465 (lv_at hl 1 rfl) ?_
                        refine lv_aload_n hx hb dX12_lifts__467 rfl (lv_at hl 2 rfl) ?_
                        refine va_get (D := (dC, dI)) (ci := 15) (v := .ref (q 65)) (C := RX12) (T := TX12) (N := 78) hx hb hts bF_X12 hown hK hP 3 rfl rfl 65 (by decide) (ht_at hts 11 rfl) (fun _ h9 => h9) rfl dX12_lifts__468 ?_
                        refine lv_iload hx hb dX12_lifts__471 (lv_at hl 0 rfl) ?_
                        refine va_iald hx hb hK hP 1 1 rfl rfl (vp_in_nI (Nat.lt_of_lt_of_le hlt35 (by decide)) (by decide)) dX12_lifts__473 ?_
                        refine lv_topi (fun x40 ex40 => ?_)
                        obtain rfl : 1000000000 = x40 := (ex40.trans (by rw [nI_clamp (by omega), hf _ (by omega), bq_n ho9])).symm
                        refine va_mmin hx hb (hml.trans hl.1.symm) hown (ht_at hts 12 rfl) (ht_at hts 13 rfl) (ht_at hts 14 rfl) (ht_at hts 15 rfl) (Nat.le_of_ble_eq_true rfl) (Nat.le_of_ble_eq_true rfl) (Nat.le_of_ble_eq_true rfl) (Nat.le_of_ble_eq_true rfl) dX12_lifts__474 ?_
                        refine lv_topi (fun x41 ex41 => ?_)
                        refine lv_istore (lv' := [(6, .int x41), (7, .int (nI i5)), (0, .ref h0)]) hx hb dX12_lifts__477 hl (by decide) rfl (fun ls hl => ?_)
                        obtain ⟨x42, ex42⟩ : ∃ y : Int32, y = (nI i5) + 1 := ⟨_, rfl⟩
                        refine lv_iinc (v := x42) (lv' := [(7, .int x42), (6, .int x41), (0, .ref h0)]) hx hb dX12_lifts__479 hl (k := 1) rfl (by rw [ex42]; rfl) (by decide) rfl (fun ls hl => ?_)
                        refine lv_goto (tgt := 457) hx hb dX12_lifts__482 (by decide) ?_
                        obtain rfl : x42 = nI (i5 + 1) := ex42.trans (nI_1 i5)
                        obtain rfl : x41 = mn9 o (i5 + 1) := by rw [mn9_n ho9]; exact ex41.trans (mn9_far o i5)
                        exact ih31 (i5 + 1) (by omega) _ _ (hP.sub [0, 1, 2, 3] rfl) (hD.sub [0, 1, 2, 3] (by decide) rfl) hS ls (lv_sub hl [0, 1, 2] rfl)
                  exact key31 1001 0 (by decide) _ _ (hP.sub [0, 1, 2, 3] rfl) (hD.sub [0, 1, 2, 3] (by decide) rfl) hS ls (lv_sub hl [0, 1, 2] rfl)
                | succ n29 ih29 =>
                  intro i hn29 f g hf H locs hP hD hS ls hl
                  have hlt43 : i < (wm + 1) := by omega
                  refine lv_iload hx hb dX12_lifts__166 (lv_at hl 0 rfl) ?_
                  refine lv_iload_n hx hb dX12_lifts__168 rfl (lv_at hl 4 rfl) ?_
                  refine lv_icmp_gt (tgt := 449) hx hb dX12_lifts__169 (by decide) (fun c44 => absurd c44 (ngt_e rfl e2 (by omega) (by omega))) (fun c44 => ?_)
                  refine lv_iconst (v := 0) hx hb dX12_lifts__172 (by decide) ?_
                  refine lv_istore (lv' := [(7, .int 0), (6, .int (nI i)), (0, .ref h0), (1, .int p0), (2, .int p1), (3, .int p2), (4, .int p3), (5, .int 0)]) hx hb dX12_lifts__173 hl (by decide) rfl (fun ls hl => ?_)
                  refine lv_iconst (v := 0) hx hb dX12_lifts__175 (by decide) ?_
                  refine lv_istore (lv' := [(8, .int 0), (7, .int 0), (6, .int (nI i)), (0, .ref h0), (1, .int p0), (2, .int p1), (3, .int p2), (4, .int p3), (5, .int 0)]) hx hb dX12_lifts__176 hl (by decide) rfl (fun ls hl => ?_)
                  refine lv_iload hx hb dX12_lifts__178 (lv_at hl 0 rfl) ?_
                  refine lv_aload_n hx hb dX12_lifts__180 rfl (lv_at hl 3 rfl) ?_
                  refine va_get (D := (dC, dI)) (ci := 15) (v := .ref (q 1)) (C := RX12) (T := TX12) (N := 78) hx hb hts bF_X12 hown hK hP 3 rfl rfl 1 (by decide) (ht_at hts 9 rfl) (fun _ h9 => h9) rfl dX12_lifts__181 ?_
                  refine lv_sipush (v := 1428) hx hb dX12_lifts__184 (by decide) ?_
                  refine va_iald hx hb hK hP 0 0 rfl rfl (by unfold vp_in; decide) dX12_lifts__187 ?_
                  refine lv_topi (fun x45 ex45 => ?_)
                  obtain rfl : 0 = x45 := (ex45).symm
                  refine lv_icmp_ge (tgt := 236) hx hb dX12_lifts__188 (by decide) (fun c46 => ?_) (fun c46 => absurd c46 (by decide))
                  refine lv_iconst (v := 0) hx hb dX12_lifts__236 (by decide) ?_
                  refine lv_istore (lv' := [(8, .int 0), (7, .int 0), (6, .int (nI i)), (0, .ref h0), (1, .int p0), (2, .int p1), (3, .int p2), (4, .int p3), (5, .int 0)]) hx hb dX12_lifts__237 hl (by decide) rfl (fun ls hl => ?_)
                  obtain ⟨hip, hf⟩ := hf
                  have ho : ∀ v, lq wa wb wc (i - 1) = some v → v ≤ 1000 := fun v h => lq_le hwa hwc _ v h
                  have hln : lq wa wb wc i = lnx wb wc (lq wa wb wc (i - 1)) := by rw [← lq_s]; congr 1; omega
                  generalize hoe : lq wa wb wc (i - 1) = o at hf ho hln
                  have key47 : ∀ (n47 i2 : Nat), i2 + n47 = 1001 → ∀ (y : Nat → Int32), ∀ (hy : ∀ j, j < i2 → y j = 1000000000), ∀ (H : Heap) (locs : List Loc), va_P (dC, dI) vwCl [(q 1, .inl ((cm 1), 1749, .inl (fun _ => 0))), (q 65, .inl ((cm 65), 1001, .inl f)), (q 66, .inl ((cm 66), 1001, .inl y)), (h0, .inr (15, mF q 0))] H → va_D A [(q 1, .inl ((cm 1), 1749, .inl (fun _ => 0))), (q 65, .inl ((cm 65), 1001, .inl f)), (q 66, .inl ((cm 66), 1001, .inl y)), (h0, .inr (15, mF q 0))] → va_S A s.heap H locs → ∀ ls : Array Slot, lv_has ls 13 [(8, .int (nI i2)), (6, .int (nI i)), (7, .int 0), (0, .ref h0), (1, .int p0), (2, .int p1), (3, .int p2), (4, .int p3), (5, .int 0)] → W p l e (headSpec w_m_lifts ({ frames := 1, cells := 0, slots := 0, locals := 40 })).room s m #[.ref h0, .int p0, .int p1, .int p2, .int p3] below meth c H locs 0 0 (MQ below (va_Qi (fun (r : Int32) (u : List Value) => u[0]? = some (.int (T_lifts p0 p1 p2 p3).1) ∧ ((T_lifts p0 p1 p2 p3).1 = 0 → r = (T_lifts p0 p1 p2 p3).2)) (fun (fs : List Value) (t : State) => va_P (dC, dI) vwCl [(h0, .inr (15, fs))] t.heap ∧ va_D A [(h0, .inr (15, fs))]) A) #[.ref h0, .int p0, .int p1, .int p2, .int p3] s 0 0 A) (F0 m 239 ls []) := by
                    intro n47
                    induction n47 with
                    | zero =>
                      intro i2 hn47 y hy H locs hP hD hS ls hl
                      obtain rfl : 1001 = i2 := by omega
                      refine lv_iload hx hb dX12_lifts__239 (lv_at hl 0 rfl) ?_
                      refine lv_sipush (v := 1001) hx hb dX12_lifts__241 (by decide) ?_
                      refine lv_icmp_ge (tgt := 263) hx hb dX12_lifts__244 (by decide) (fun c48 => ?_) (fun c48 => absurd c48 (by decide))
                      refine lv_iconst (v := 0) hx hb dX12_lifts__263 (by decide) ?_
                      refine lv_istore (lv' := [(8, .int 0), (6, .int (nI i)), (7, .int 0), (0, .ref h0), (1, .int p0), (2, .int p1), (3, .int p2), (4, .int p3), (5, .int 0)]) hx hb dX12_lifts__264 hl (by decide) rfl (fun ls hl => ?_)
                      refine lv_iload hx hb dX12_lifts__266 (lv_at hl 0 rfl) ?_
                      refine lv_iconst (v := 1) hx hb dX12_lifts__268 (by decide) ?_
                      refine lv_iload hx hb dX12_lifts__269 (lv_at hl 8 rfl) ?_
                      refine lv_ishl hx hb dX12_lifts__271 ?_
                      refine lv_topi (fun x49 ex49 => ?_)
                      obtain rfl : x49 = 1 := ex49.trans (by decide)
                      refine lv_icmp_ge (tgt := 412) hx hb dX12_lifts__272 (by decide) (fun c50 => absurd c50 (by decide)) (fun c50 => ?_)
                      refine lv_iload hx hb dX12_lifts__275 (lv_at hl 2 rfl) ?_
                      refine lv_istore (lv' := [(9, .int 0), (8, .int 0), (6, .int (nI i)), (7, .int 0), (0, .ref h0), (1, .int p0), (2, .int p1), (3, .int p2), (4, .int p3), (5, .int 0)]) hx hb dX12_lifts__277 hl (by decide) rfl (fun ls hl => ?_)
                      refine lv_iconst (v := 0) hx hb dX12_lifts__279 (by decide) ?_
                      refine lv_istore (lv' := [(10, .int 0), (9, .int 0), (8, .int 0), (6, .int (nI i)), (7, .int 0), (0, .ref h0), (1, .int p0), (2, .int p1), (3, .int p2), (4, .int p3), (5, .int 0)]) hx hb dX12_lifts__280 hl (by decide) rfl (fun ls hl => ?_)
                      refine lv_iload hx hb dX12_lifts__282 (lv_at hl 0 rfl) ?_
                      refine lv_iload hx hb dX12_lifts__284 (lv_at hl 10 rfl) ?_
                      refine lv_icmp_ge (tgt := 322) hx hb dX12_lifts__286 (by decide) (fun c51 => ?_) (fun c51 => absurd c51 (by decide))
                      refine lv_iload hx hb dX12_lifts__322 (lv_at hl 2 rfl) ?_
                      have hPc := hP.sub (ws' := []) [] rfl
                      have hDc := hD.sub (ws' := []) [] (by decide) rfl
                      have hKc := hK.sub (tys' := []) [] rfl
                      have hFc := va_free (wc := []) hD hS hA [] rfl
                      refine va_calli (va_runS (As := [.int 0]) (rest := []) ⟨hx, hb, hml, hown, hts⟩ (j_bitCount0 l dC dI H.size ) (va_cwS 1 hts (goodIn_app (goodIn_r _ [21, 22, 23] (by decide +kernel) (by decide +kernel)) (goodIn_ca (goodIn_r _ [17, 18, 19, 20] (by decide +kernel) (by decide +kernel)) (bs_in _ _))) rfl rfl rfl (by decide +kernel) ⟨(Nat.le_of_ble_eq_true rfl), (Nat.le_of_ble_eq_true rfl)⟩) ⟨fun a U g mk q => by obtain ⟨q0, q1, qP, qK, qD⟩ := q; exact ⟨q0, q1, qP, va_K.moved (u := U) (U := U.calling g mk a) (Vm.Alike.refl U.vm) qK, qD⟩, fun U hU hW => ⟨rfl, by rw [hU], by rw [hU]; exact hPc, va_K.moved hW.alike hKc, hDc.weaken (fun _ _ _ _ => trivial)⟩⟩ rfl rfl hl.1 rfl (lv_room (Nat.le_of_ble_eq_true rfl)) dX12_lifts__324 ⟨(Nat.le_of_ble_eq_true rfl), (Nat.le_of_ble_eq_true rfl)⟩) hS (fun q _ h => hFc q h) hFc (fun r53 u t H1 locs ht hvm hw54 hB hz1 hk1 hS => ?_)
                      have hP1 : va_P (dC, dI) vwCl [] H1 := nilP
                      have hD1 : va_D (va_A [] H.size) [] := nilD
                      have hK := hK
                      obtain ⟨hP, hD⟩ := va_join (wr := [(q 1, .inl ((cm 1), 1749, .inl (fun _ => 0))), (q 65, .inl ((cm 65), 1001, .inl f)), (q 66, .inl ((cm 66), 1001, .inl y)), (h0, .inr (15, mF q 0))]) (w1 := []) hP hD [] [0, 1, 2, 3] rfl rfl (by decide) (by decide) hk1 hFc hP1 hD1
                      generalize H1 = H at hP hS ⊢
                      have hP : va_P (dC, dI) vwCl [(q 1, .inl ((cm 1), 1749, .inl (fun _ => 0))), (q 65, .inl ((cm 65), 1001, .inl f)), (q 66, .inl ((cm 66), 1001, .inl y)), (h0, .inr (15, mF q 0))] H := hP
                      have hD : va_D A [(q 1, .inl ((cm 1), 1749, .inl (fun _ => 0))), (q 65, .inl ((cm 65), 1001, .inl f)), (q 66, .inl ((cm 66), 1001, .inl y)), (h0, .inr (15, mF q 0))] := hD
                      try dsimp only at hw54
                      obtain rfl : 0 = r53 := (hw54).symm
                      refine lv_istore (lv' := [(10, .int 0), (9, .int 0), (8, .int 0), (6, .int (nI i)), (7, .int 0), (0, .ref h0), (1, .int p0), (2, .int p1), (3, .int p2), (4, .int p3), (5, .int 0)]) hx hb dX12_lifts__327 hl (by decide) rfl (fun ls hl => ?_)
                      refine lv_iconst (v := 0) hx hb dX12_lifts__329 (by decide) ?_
                      refine lv_istore (lv' := [(11, .int 0), (10, .int 0), (9, .int 0), (8, .int 0), (6, .int (nI i)), (7, .int 0), (0, .ref h0), (1, .int p0), (2, .int p1), (3, .int p2), (4, .int p3), (5, .int 0)]) hx hb dX12_lifts__330 hl (by decide) rfl (fun ls hl => ?_)
                      have key55 : ∀ (n55 i3 : Nat), i3 + n55 = 1001 → ∀ (y : Nat → Int32), ∀ (hy : ∀ j, j < 1001 → y j = eq9 wb wc o i3 j), ∀ (H : Heap) (locs : List Loc), va_P (dC, dI) vwCl [(q 1, .inl ((cm 1), 1749, .inl (fun _ => 0))), (q 65, .inl ((cm 65), 1001, .inl f)), (q 66, .inl ((cm 66), 1001, .inl y)), (h0, .inr (15, mF q 0))] H → va_D A [(q 1, .inl ((cm 1), 1749, .inl (fun _ => 0))), (q 65, .inl ((cm 65), 1001, .inl f)), (q 66, .inl ((cm 66), 1001, .inl y)), (h0, .inr (15, mF q 0))] → va_S A s.heap H locs → ∀ ls : Array Slot, lv_has ls 13 [(11, .int (nI i3)), (6, .int (nI i)), (7, .int 0), (8, .int 0), (9, .int 0), (10, .int 0), (0, .ref h0), (1, .int p0), (2, .int p1), (3, .int p2), (4, .int p3), (5, .int 0)] → W p l e (headSpec w_m_lifts ({ frames := 1, cells := 0, slots := 0, locals := 40 })).room s m #[.ref h0, .int p0, .int p1, .int p2, .int p3] below meth c H locs 0 0 (MQ below (va_Qi (fun (r : Int32) (u : List Value) => u[0]? = some (.int (T_lifts p0 p1 p2 p3).1) ∧ ((T_lifts p0 p1 p2 p3).1 = 0 → r = (T_lifts p0 p1 p2 p3).2)) (fun (fs : List Value) (t : State) => va_P (dC, dI) vwCl [(h0, .inr (15, fs))] t.heap ∧ va_D A [(h0, .inr (15, fs))]) A) #[.ref h0, .int p0, .int p1, .int p2, .int p3] s 0 0 A) (F0 m 332 ls []) := by
                        intro n55
                        induction n55 with
                        | zero =>
                          intro i3 hn55 y hy H locs hP hD hS ls hl
                          obtain rfl : 1001 = i3 := by omega
                          refine lv_iload hx hb dX12_lifts__332 (lv_at hl 0 rfl) ?_
                          refine lv_sipush (v := 1001) hx hb dX12_lifts__334 (by decide) ?_
                          refine lv_icmp_ge (tgt := 406) hx hb dX12_lifts__337 (by decide) (fun c56 => ?_) (fun c56 => absurd c56 (by decide))
                          refine lv_iinc (v := 1) (lv' := [(8, .int 1), (11, .int (nI 1001)), (6, .int (nI i)), (7, .int 0), (9, .int 0), (10, .int 0), (0, .ref h0), (1, .int p0), (2, .int p1), (3, .int p2), (4, .int p3), (5, .int 0)]) hx hb dX12_lifts__406 hl (k := 3) rfl (by decide) (by decide) rfl (fun ls hl => ?_)
                          refine lv_goto (tgt := 266) hx hb dX12_lifts__409 (by decide) ?_
                          refine lv_iload hx hb dX12_lifts__266 (lv_at hl 0 rfl) ?_
                          refine lv_iconst (v := 1) hx hb dX12_lifts__268 (by decide) ?_
                          refine lv_iload hx hb dX12_lifts__269 (lv_at hl 11 rfl) ?_
                          refine lv_ishl hx hb dX12_lifts__271 ?_
                          refine lv_topi (fun x57 ex57 => ?_)
                          obtain rfl : x57 = 1 := ex57.trans (by decide)
                          refine lv_icmp_ge (tgt := 412) hx hb dX12_lifts__272 (by decide) (fun c58 => ?_) (fun c58 => absurd c58 (by decide))
                          refine lv_iconst (v := 0) hx hb dX12_lifts__412 (by decide) ?_
                          refine lv_istore (lv' := [(8, .int 0), (11, .int (nI 1001)), (6, .int (nI i)), (7, .int 0), (9, .int 0), (10, .int 0), (0, .ref h0), (1, .int p0), (2, .int p1), (3, .int p2), (4, .int p3), (5, .int 0)]) hx hb dX12_lifts__413 hl (by decide) rfl (fun ls hl => ?_)
                          have hw9 : ∀ j, j < 1001 → y j = bq (lq wa wb wc i) j := fun j hj => by rw [hy j hj, hln]; exact eq9_end ho j
                          have key59 : ∀ (n59 i4 : Nat), i4 + n59 = 1001 → ∀ (z : Nat → Int32), ∀ (hy : ∀ j, j < i4 → z j = y j), ∀ (H : Heap) (locs : List Loc), va_P (dC, dI) vwCl [(q 1, .inl ((cm 1), 1749, .inl (fun _ => 0))), (q 65, .inl ((cm 65), 1001, .inl z)), (q 66, .inl ((cm 66), 1001, .inl y)), (h0, .inr (15, mF q 0))] H → va_D A [(q 1, .inl ((cm 1), 1749, .inl (fun _ => 0))), (q 65, .inl ((cm 65), 1001, .inl z)), (q 66, .inl ((cm 66), 1001, .inl y)), (h0, .inr (15, mF q 0))] → va_S A s.heap H locs → ∀ ls : Array Slot, lv_has ls 13 [(8, .int (nI i4)), (6, .int (nI i)), (0, .ref h0), (1, .int p0), (2, .int p1), (3, .int p2), (4, .int p3), (5, .int 0)] → W p l e (headSpec w_m_lifts ({ frames := 1, cells := 0, slots := 0, locals := 40 })).room s m #[.ref h0, .int p0, .int p1, .int p2, .int p3] below meth c H locs 0 0 (MQ below (va_Qi (fun (r : Int32) (u : List Value) => u[0]? = some (.int (T_lifts p0 p1 p2 p3).1) ∧ ((T_lifts p0 p1 p2 p3).1 = 0 → r = (T_lifts p0 p1 p2 p3).2)) (fun (fs : List Value) (t : State) => va_P (dC, dI) vwCl [(h0, .inr (15, fs))] t.heap ∧ va_D A [(h0, .inr (15, fs))]) A) #[.ref h0, .int p0, .int p1, .int p2, .int p3] s 0 0 A) (F0 m 415 ls []) := by
                            intro n59
                            induction n59 with
                            | zero =>
                              intro i4 hn59 z hy H locs hP hD hS ls hl
                              obtain rfl : 1001 = i4 := by omega
                              refine lv_iload hx hb dX12_lifts__415 (lv_at hl 0 rfl) ?_
                              refine lv_sipush (v := 1001) hx hb dX12_lifts__417 (by decide) ?_
                              refine lv_icmp_ge (tgt := 443) hx hb dX12_lifts__420 (by decide) (fun c60 => ?_) (fun c60 => absurd c60 (by decide))
                              obtain ⟨x61, ex61⟩ : ∃ y : Int32, y = (nI i) + 1 := ⟨_, rfl⟩
                              refine lv_iinc (v := x61) (lv' := [(6, .int x61), (8, .int (nI 1001)), (0, .ref h0), (1, .int p0), (2, .int p1), (3, .int p2), (4, .int p3), (5, .int 0)]) hx hb dX12_lifts__443 hl (k := 1) rfl (by rw [ex61]; rfl) (by decide) rfl (fun ls hl => ?_)
                              refine lv_goto (tgt := 166) hx hb dX12_lifts__446 (by decide) ?_
                              obtain rfl : x61 = nI (i + 1) := ex61.trans (nI_1 i)
                              exact ih29 (i + 1) (by omega) z y ⟨Nat.succ_pos _, fun j hj => by rw [hy j hj, hw9 j hj, Nat.add_sub_cancel]⟩ _ _ (hP.sub [0, 1, 2, 3] rfl) (hD.sub [0, 1, 2, 3] (by decide) rfl) hS ls (lv_sub hl [0, 2, 3, 4, 5, 6, 7] rfl)
                            | succ n59 ih59 =>
                              intro i4 hn59 z hy H locs hP hD hS ls hl
                              have hlt62 : i4 < 1001 := by omega
                              refine lv_iload hx hb dX12_lifts__415 (lv_at hl 0 rfl) ?_
                              refine lv_sipush (v := 1001) hx hb dX12_lifts__417 (by decide) ?_
                              refine lv_icmp_ge (tgt := 443) hx hb dX12_lifts__420 (by decide) (fun c63 => absurd c63 (nI_ge (b := 1001) hlt62 (by decide))) (fun c63 => ?_)
                              refine lv_aload_n hx hb dX12_lifts__423 rfl (lv_at hl 2 rfl) ?_
                              refine va_get (D := (dC, dI)) (ci := 15) (v := .ref (q 65)) (C := RX12) (T := TX12) (N := 78) hx hb hts bF_X12 hown hK hP 3 rfl rfl 65 (by decide) (ht_at hts 11 rfl) (fun _ h9 => h9) rfl dX12_lifts__424 ?_
                              refine lv_iload hx hb dX12_lifts__427 (lv_at hl 0 rfl) ?_
                              refine lv_aload_n hx hb dX12_lifts__429 rfl (lv_at hl 2 rfl) ?_
                              refine va_get (D := (dC, dI)) (ci := 15) (v := .ref (q 66)) (C := RX12) (T := TX12) (N := 78) hx hb hts bF_X12 hown hK hP 3 rfl rfl 66 (by decide) (ht_at hts 23 rfl) (fun _ h9 => h9) rfl dX12_lifts__430 ?_
                              refine lv_iload hx hb dX12_lifts__433 (lv_at hl 0 rfl) ?_
                              refine va_iald hx hb hK hP 2 2 rfl rfl (vp_in_nI (Nat.lt_of_lt_of_le hlt62 (by decide)) (by decide)) dX12_lifts__435 ?_
                              refine lv_topi (fun x64 ex64 => ?_)
                              refine va_iast hx hb hK hP hD hS 1 1 rfl rfl (vp_in_nI (Nat.lt_of_lt_of_le hlt62 (by decide)) (by decide)) dX12_lifts__436 (fun H locs hP hD hS => ?_)
                              have hP : va_P (dC, dI) vwCl [(q 1, .inl ((cm 1), 1749, .inl (fun _ => 0))), (q 65, .inl ((cm 65), 1001, .inl (upd z (nI i4).toNatClampNeg x64))), (q 66, .inl ((cm 66), 1001, .inl y)), (h0, .inr (15, mF q 0))] H := hP
                              have hD : va_D A [(q 1, .inl ((cm 1), 1749, .inl (fun _ => 0))), (q 65, .inl ((cm 65), 1001, .inl (upd z (nI i4).toNatClampNeg x64))), (q 66, .inl ((cm 66), 1001, .inl y)), (h0, .inr (15, mF q 0))] := hD
                              obtain ⟨x65, ex65⟩ : ∃ y : Int32, y = (nI i4) + 1 := ⟨_, rfl⟩
                              refine lv_iinc (v := x65) (lv' := [(8, .int x65), (6, .int (nI i)), (0, .ref h0), (1, .int p0), (2, .int p1), (3, .int p2), (4, .int p3), (5, .int 0)]) hx hb dX12_lifts__437 hl (k := 0) rfl (by rw [ex65]; rfl) (by decide) rfl (fun ls hl => ?_)
                              refine lv_goto (tgt := 415) hx hb dX12_lifts__440 (by decide) ?_
                              obtain rfl : x65 = nI (i4 + 1) := ex65.trans (nI_1 i4)
                              exact ih59 (i4 + 1) (by omega) (upd z (nI i4).toNatClampNeg x64) (cp_step (by omega) ex64 hy) _ _ (hP.sub [0, 1, 2, 3] rfl) (hD.sub [0, 1, 2, 3] (by decide) rfl) hS ls (lv_sub hl [0, 1, 2, 3, 4, 5, 6, 7] rfl)
                          exact key59 1001 0 (by decide) f (fun _ h => absurd h (Nat.not_lt_zero _)) _ _ (hP.sub [0, 1, 2, 3] rfl) (hD.sub [0, 1, 2, 3] (by decide) rfl) hS ls (lv_sub hl [0, 2, 6, 7, 8, 9, 10, 11] rfl)
                        | succ n55 ih55 =>
                          intro i3 hn55 y hy H locs hP hD hS ls hl
                          have hlt66 : i3 < 1001 := by omega
                          refine lv_iload hx hb dX12_lifts__332 (lv_at hl 0 rfl) ?_
                          refine lv_sipush (v := 1001) hx hb dX12_lifts__334 (by decide) ?_
                          refine lv_icmp_ge (tgt := 406) hx hb dX12_lifts__337 (by decide) (fun c67 => absurd c67 (nI_ge (b := 1001) hlt66 (by decide))) (fun c67 => ?_)
                          refine lv_iconst (v := 0) hx hb dX12_lifts__340 (by decide) ?_
                          refine lv_iload hx hb dX12_lifts__341 (lv_at hl 0 rfl) ?_
                          refine lv_iload_n hx hb dX12_lifts__343 rfl (lv_at hl 8 rfl) ?_
                          refine lv_iadd hx hb dX12_lifts__344 ?_
                          refine lv_topi (fun x68 ex68 => ?_)
                          obtain rfl : nI (i3 + wb) = x68 := (ex68.trans (by rw [e1, nI_add])).symm
                          refine lv_iload hx hb dX12_lifts__345 (lv_at hl 4 rfl) ?_
                          refine lv_isub hx hb dX12_lifts__347 ?_
                          refine lv_topi (fun x69 ex69 => ?_)
                          obtain rfl : nI (i3 + wb) = x69 := (ex69.trans (Int32.sub_zero _)).symm
                          refine va_mmax hx hb (hml.trans hl.1.symm) hown (ht_at hts 24 rfl) (ht_at hts 25 rfl) (ht_at hts 14 rfl) (ht_at hts 26 rfl) (Nat.le_of_ble_eq_true rfl) (Nat.le_of_ble_eq_true rfl) (Nat.le_of_ble_eq_true rfl) (Nat.le_of_ble_eq_true rfl) dX12_lifts__348 ?_
                          refine lv_topi (fun x70 ex70 => ?_)
                          obtain rfl : nI (i3 + wb) = x70 := (ex70.trans (nI_max0 (by omega))).symm
                          refine lv_istore (lv' := [(12, .int (nI (i3 + wb))), (11, .int (nI i3)), (6, .int (nI i)), (7, .int 0), (8, .int 0), (9, .int 0), (10, .int 0), (0, .ref h0), (1, .int p0), (2, .int p1), (3, .int p2), (4, .int p3), (5, .int 0)]) hx hb dX12_lifts__351 hl (by decide) rfl (fun ls hl => ?_)
                          by_cases ho9 : o = some i3
                          · refine lv_aload_n hx hb dX12_lifts__353 rfl (lv_at hl 7 rfl) ?_
                            refine va_get (D := (dC, dI)) (ci := 15) (v := .ref (q 65)) (C := RX12) (T := TX12) (N := 78) hx hb hts bF_X12 hown hK hP 3 rfl rfl 65 (by decide) (ht_at hts 11 rfl) (fun _ h9 => h9) rfl dX12_lifts__354 ?_
                            refine lv_iload hx hb dX12_lifts__357 (lv_at hl 1 rfl) ?_
                            refine va_iald hx hb hK hP 1 1 rfl rfl (vp_in_nI (Nat.lt_of_lt_of_le hlt66 (by decide)) (by decide)) dX12_lifts__359 ?_
                            refine lv_topi (fun x71 ex71 => ?_)
                            obtain rfl : 0 = x71 := (ex71.trans (by rw [nI_clamp (by omega), hf _ (by omega), bq_p ho9])).symm
                            refine lv_ldcw (v := 1000000000) hx hb hown (ht_at hts 10 rfl) dX12_lifts__360 ?_
                            refine lv_icmp_ge (tgt := 400) hx hb dX12_lifts__363 (by decide) (fun c72 => absurd c72 (by decide)) (fun c72 => ?_)
                            refine lv_iload hx hb dX12_lifts__366 (lv_at hl 0 rfl) ?_
                            refine lv_iload hx hb dX12_lifts__368 (lv_at hl 11 rfl) ?_
                            refine lv_icmp_gt (tgt := 400) hx hb dX12_lifts__370 (by decide) (fun c73 => ?_) (fun c73 => ?_)
                            · obtain ⟨x74, ex74⟩ : ∃ y : Int32, y = (nI i3) + 1 := ⟨_, rfl⟩
                              refine lv_iinc (v := x74) (lv' := [(11, .int x74), (12, .int (nI (i3 + wb))), (6, .int (nI i)), (7, .int 0), (8, .int 0), (9, .int 0), (10, .int 0), (0, .ref h0), (1, .int p0), (2, .int p1), (3, .int p2), (4, .int p3), (5, .int 0)]) hx hb dX12_lifts__400 hl (k := 1) rfl (by rw [ex74]; rfl) (by decide) rfl (fun ls hl => ?_)
                              refine lv_goto (tgt := 332) hx hb dX12_lifts__403 (by decide) ?_
                              obtain rfl : x74 = nI (i3 + 1) := ex74.trans (nI_1 i3)
                              exact ih55 (i3 + 1) (by omega) y (fun j hj => (hy j hj).trans (eq9_n (fun q => absurd c73 (ngt_e rfl e3 q.2 (by omega)))).symm) _ _ (hP.sub [0, 1, 2, 3] rfl) (hD.sub [0, 1, 2, 3] (by decide) rfl) hS ls (lv_sub hl [0, 2, 3, 4, 5, 6, 7, 8, 9, 10, 11, 12] rfl)
                            · have hk9 : i3 + wb ≤ wc := Nat.le_of_not_lt (fun k => c73 (gt_e rfl e3 k (by omega)))
                              refine lv_aload_n hx hb dX12_lifts__373 rfl (lv_at hl 7 rfl) ?_
                              refine va_get (D := (dC, dI)) (ci := 15) (v := .ref (q 66)) (C := RX12) (T := TX12) (N := 78) hx hb hts bF_X12 hown hK hP 3 rfl rfl 66 (by decide) (ht_at hts 23 rfl) (fun _ h9 => h9) rfl dX12_lifts__374 ?_
                              refine lv_iload hx hb dX12_lifts__377 (lv_at hl 0 rfl) ?_
                              refine lv_aload_n hx hb dX12_lifts__379 rfl (lv_at hl 7 rfl) ?_
                              refine va_get (D := (dC, dI)) (ci := 15) (v := .ref (q 66)) (C := RX12) (T := TX12) (N := 78) hx hb hts bF_X12 hown hK hP 3 rfl rfl 66 (by decide) (ht_at hts 23 rfl) (fun _ h9 => h9) rfl dX12_lifts__380 ?_
                              refine lv_iload hx hb dX12_lifts__383 (lv_at hl 0 rfl) ?_
                              refine va_iald hx hb hK hP 2 2 rfl rfl (vp_in_nI (by omega) (by decide)) dX12_lifts__385 ?_
                              refine lv_topi (fun x75 ex75 => ?_)
                              obtain rfl : 1000000000 = x75 := (ex75.trans (by rw [nI_clamp (by omega), hy _ (by omega), eq9_i ho9])).symm
                              refine lv_aload_n hx hb dX12_lifts__386 rfl (lv_at hl 7 rfl) ?_
                              refine va_get (D := (dC, dI)) (ci := 15) (v := .ref (q 65)) (C := RX12) (T := TX12) (N := 78) hx hb hts bF_X12 hown hK hP 3 rfl rfl 65 (by decide) (ht_at hts 11 rfl) (fun _ h9 => h9) rfl dX12_lifts__387 ?_
                              refine lv_iload hx hb dX12_lifts__390 (lv_at hl 1 rfl) ?_
                              refine va_iald hx hb hK hP 1 1 rfl rfl (vp_in_nI (Nat.lt_of_lt_of_le hlt66 (by decide)) (by decide)) dX12_lifts__392 ?_
                              refine lv_topi (fun x76 ex76 => ?_)
                              obtain rfl : 0 = x76 := (ex76.trans (by rw [nI_clamp (by omega), hf _ (by omega), bq_p ho9])).symm
                              refine lv_iload hx hb dX12_lifts__393 (lv_at hl 6 rfl) ?_
                              refine lv_iadd hx hb dX12_lifts__395 ?_
                              refine lv_topi (fun x77 ex77 => ?_)
                              obtain rfl : x77 = 0 := ex77.trans (by decide)
                              refine va_mmin hx hb (hml.trans hl.1.symm) hown (ht_at hts 12 rfl) (ht_at hts 13 rfl) (ht_at hts 14 rfl) (ht_at hts 15 rfl) (Nat.le_of_ble_eq_true rfl) (Nat.le_of_ble_eq_true rfl) (Nat.le_of_ble_eq_true rfl) (Nat.le_of_ble_eq_true rfl) dX12_lifts__396 ?_
                              refine lv_topi (fun x78 ex78 => ?_)
                              obtain rfl : x78 = 0 := ex78.trans (by decide)
                              refine va_iast hx hb hK hP hD hS 2 2 rfl rfl (vp_in_nI (by omega) (by decide)) dX12_lifts__399 (fun H locs hP hD hS => ?_)
                              have hP : va_P (dC, dI) vwCl [(q 1, .inl ((cm 1), 1749, .inl (fun _ => 0))), (q 65, .inl ((cm 65), 1001, .inl f)), (q 66, .inl ((cm 66), 1001, .inl (upd y (nI (i3 + wb)).toNatClampNeg 0))), (h0, .inr (15, mF q 0))] H := hP
                              have hD : va_D A [(q 1, .inl ((cm 1), 1749, .inl (fun _ => 0))), (q 65, .inl ((cm 65), 1001, .inl f)), (q 66, .inl ((cm 66), 1001, .inl (upd y (nI (i3 + wb)).toNatClampNeg 0))), (h0, .inr (15, mF q 0))] := hD
                              obtain ⟨x79, ex79⟩ : ∃ y : Int32, y = (nI i3) + 1 := ⟨_, rfl⟩
                              refine lv_iinc (v := x79) (lv' := [(11, .int x79), (12, .int (nI (i3 + wb))), (6, .int (nI i)), (7, .int 0), (8, .int 0), (9, .int 0), (10, .int 0), (0, .ref h0), (1, .int p0), (2, .int p1), (3, .int p2), (4, .int p3), (5, .int 0)]) hx hb dX12_lifts__400 hl (k := 1) rfl (by rw [ex79]; rfl) (by decide) rfl (fun ls hl => ?_)
                              refine lv_goto (tgt := 332) hx hb dX12_lifts__403 (by decide) ?_
                              obtain rfl : x79 = nI (i3 + 1) := ex79.trans (nI_1 i3)
                              exact ih55 (i3 + 1) (by omega) (upd y (nI (i3 + wb)).toNatClampNeg 0) (fun j hj => by rw [nI_clamp (by omega)]; exact eq9_p ho9 hk9 _ (hy j hj)) _ _ (hP.sub [0, 1, 2, 3] rfl) (hD.sub [0, 1, 2, 3] (by decide) rfl) hS ls (lv_sub hl [0, 2, 3, 4, 5, 6, 7, 8, 9, 10, 11, 12] rfl)
                          · refine lv_aload_n hx hb dX12_lifts__353 rfl (lv_at hl 7 rfl) ?_
                            refine va_get (D := (dC, dI)) (ci := 15) (v := .ref (q 65)) (C := RX12) (T := TX12) (N := 78) hx hb hts bF_X12 hown hK hP 3 rfl rfl 65 (by decide) (ht_at hts 11 rfl) (fun _ h9 => h9) rfl dX12_lifts__354 ?_
                            refine lv_iload hx hb dX12_lifts__357 (lv_at hl 1 rfl) ?_
                            refine va_iald hx hb hK hP 1 1 rfl rfl (vp_in_nI (Nat.lt_of_lt_of_le hlt66 (by decide)) (by decide)) dX12_lifts__359 ?_
                            refine lv_topi (fun x80 ex80 => ?_)
                            obtain rfl : 1000000000 = x80 := (ex80.trans (by rw [nI_clamp (by omega), hf _ (by omega), bq_n ho9])).symm
                            refine lv_ldcw (v := 1000000000) hx hb hown (ht_at hts 10 rfl) dX12_lifts__360 ?_
                            refine lv_icmp_ge (tgt := 400) hx hb dX12_lifts__363 (by decide) (fun c81 => ?_) (fun c81 => absurd c81 (by decide))
                            obtain ⟨x82, ex82⟩ : ∃ y : Int32, y = (nI i3) + 1 := ⟨_, rfl⟩
                            refine lv_iinc (v := x82) (lv' := [(11, .int x82), (12, .int (nI (i3 + wb))), (6, .int (nI i)), (7, .int 0), (8, .int 0), (9, .int 0), (10, .int 0), (0, .ref h0), (1, .int p0), (2, .int p1), (3, .int p2), (4, .int p3), (5, .int 0)]) hx hb dX12_lifts__400 hl (k := 1) rfl (by rw [ex82]; rfl) (by decide) rfl (fun ls hl => ?_)
                            refine lv_goto (tgt := 332) hx hb dX12_lifts__403 (by decide) ?_
                            obtain rfl : x82 = nI (i3 + 1) := ex82.trans (nI_1 i3)
                            exact ih55 (i3 + 1) (by omega) y (fun j hj => (hy j hj).trans (eq9_n (fun q => ho9 q.1)).symm) _ _ (hP.sub [0, 1, 2, 3] rfl) (hD.sub [0, 1, 2, 3] (by decide) rfl) hS ls (lv_sub hl [0, 2, 3, 4, 5, 6, 7, 8, 9, 10, 11, 12] rfl)
                      exact key55 1001 0 (by decide) y (fun j hj => (hy j hj).trans (eq9_0 _ _ _ _).symm) _ _ (hP.sub [0, 1, 2, 3] rfl) (hD.sub [0, 1, 2, 3] (by decide) rfl) hS ls (lv_sub hl [0, 4, 5, 3, 2, 1, 6, 7, 8, 9, 10, 11] rfl)
                    | succ n47 ih47 =>
                      intro i2 hn47 y hy H locs hP hD hS ls hl
                      have hlt83 : i2 < 1001 := by omega
                      refine lv_iload hx hb dX12_lifts__239 (lv_at hl 0 rfl) ?_
                      refine lv_sipush (v := 1001) hx hb dX12_lifts__241 (by decide) ?_
                      refine lv_icmp_ge (tgt := 263) hx hb dX12_lifts__244 (by decide) (fun c84 => absurd c84 (nI_ge (b := 1001) hlt83 (by decide))) (fun c84 => ?_)
                      refine lv_aload_n hx hb dX12_lifts__247 rfl (lv_at hl 3 rfl) ?_
                      refine va_get (D := (dC, dI)) (ci := 15) (v := .ref (q 66)) (C := RX12) (T := TX12) (N := 78) hx hb hts bF_X12 hown hK hP 3 rfl rfl 66 (by decide) (ht_at hts 23 rfl) (fun _ h9 => h9) rfl dX12_lifts__248 ?_
                      refine lv_iload hx hb dX12_lifts__251 (lv_at hl 0 rfl) ?_
                      refine lv_ldcw (v := 1000000000) hx hb hown (ht_at hts 10 rfl) dX12_lifts__253 ?_
                      refine va_iast hx hb hK hP hD hS 2 2 rfl rfl (vp_in_nI (Nat.lt_of_lt_of_le hlt83 (by decide)) (by decide)) dX12_lifts__256 (fun H locs hP hD hS => ?_)
                      have hP : va_P (dC, dI) vwCl [(q 1, .inl ((cm 1), 1749, .inl (fun _ => 0))), (q 65, .inl ((cm 65), 1001, .inl f)), (q 66, .inl ((cm 66), 1001, .inl (upd y (nI i2).toNatClampNeg 1000000000))), (h0, .inr (15, mF q 0))] H := hP
                      have hD : va_D A [(q 1, .inl ((cm 1), 1749, .inl (fun _ => 0))), (q 65, .inl ((cm 65), 1001, .inl f)), (q 66, .inl ((cm 66), 1001, .inl (upd y (nI i2).toNatClampNeg 1000000000))), (h0, .inr (15, mF q 0))] := hD
                      obtain ⟨x85, ex85⟩ : ∃ y : Int32, y = (nI i2) + 1 := ⟨_, rfl⟩
                      refine lv_iinc (v := x85) (lv' := [(8, .int x85), (6, .int (nI i)), (7, .int 0), (0, .ref h0), (1, .int p0), (2, .int p1), (3, .int p2), (4, .int p3), (5, .int 0)]) hx hb dX12_lifts__257 hl (k := 0) rfl (by rw [ex85]; rfl) (by decide) rfl (fun ls hl => ?_)
                      refine lv_goto (tgt := 239) hx hb dX12_lifts__260 (by decide) ?_
                      obtain rfl : x85 = nI (i2 + 1) := ex85.trans (nI_1 i2)
                      exact ih47 (i2 + 1) (by omega) (upd y (nI i2).toNatClampNeg 1000000000) (fill_step hlt83 (by decide) hy) _ _ (hP.sub [0, 1, 2, 3] rfl) (hD.sub [0, 1, 2, 3] (by decide) rfl) hS ls (lv_sub hl [0, 1, 2, 3, 4, 5, 6, 7, 8] rfl)
                  exact key47 1001 0 (by decide) g fill_0 _ _ (hP.sub [0, 1, 2, 3] rfl) (hD.sub [0, 1, 2, 3] (by decide) rfl) hS ls (lv_sub hl [0, 2, 1, 3, 4, 5, 6, 7, 8] rfl)
              exact key29 ((wm + 1) - 1) 1 (by omega) f (fun _ => 0) ⟨by decide, hf⟩ _ _ (hP.sub [0, 1, 2, 3] rfl) (hD.sub [0, 1, 2, 3] (by decide) rfl) hS ls (lv_sub hl [0, 1, 2, 3, 4, 5, 6] rfl)
            | succ n27 ih27 =>
              intro i hn27 f hf H locs hP hD hS ls hl
              have hlt86 : i < 1001 := by omega
              refine lv_iload hx hb dX12_lifts__129 (lv_at hl 0 rfl) ?_
              refine lv_sipush (v := 1001) hx hb dX12_lifts__131 (by decide) ?_
              refine lv_icmp_ge (tgt := 163) hx hb dX12_lifts__134 (by decide) (fun c87 => absurd c87 (nI_ge (b := 1001) hlt86 (by decide))) (fun c87 => ?_)
              refine lv_aload_n hx hb dX12_lifts__137 rfl (lv_at hl 1 rfl) ?_
              refine va_get (D := (dC, dI)) (ci := 15) (v := .ref (q 65)) (C := RX12) (T := TX12) (N := 78) hx hb hts bF_X12 hown hK hP 3 rfl rfl 65 (by decide) (ht_at hts 11 rfl) (fun _ h9 => h9) rfl dX12_lifts__138 ?_
              refine lv_iload hx hb dX12_lifts__141 (lv_at hl 0 rfl) ?_
              refine lv_iload hx hb dX12_lifts__143 (lv_at hl 0 rfl) ?_
              refine lv_iload_n hx hb dX12_lifts__145 rfl (lv_at hl 2 rfl) ?_
              refine lv_icmp_ne (tgt := 153) hx hb dX12_lifts__146 (by decide) (fun c88 => ?_) (fun c88 => ?_)
              · refine lv_ldcw (v := 1000000000) hx hb hown (ht_at hts 10 rfl) dX12_lifts__153 ?_
                refine va_iast hx hb hK hP hD hS 1 1 rfl rfl (vp_in_nI (Nat.lt_of_lt_of_le hlt86 (by decide)) (by decide)) dX12_lifts__156 (fun H locs hP hD hS => ?_)
                have hP : va_P (dC, dI) vwCl [(q 1, .inl ((cm 1), 1749, .inl (fun _ => 0))), (q 65, .inl ((cm 65), 1001, .inl (upd f (nI i).toNatClampNeg 1000000000))), (q 66, .inl ((cm 66), 1001, .inl (fun _ => 0))), (h0, .inr (15, mF q 0))] H := hP
                have hD : va_D A [(q 1, .inl ((cm 1), 1749, .inl (fun _ => 0))), (q 65, .inl ((cm 65), 1001, .inl (upd f (nI i).toNatClampNeg 1000000000))), (q 66, .inl ((cm 66), 1001, .inl (fun _ => 0))), (h0, .inr (15, mF q 0))] := hD
                obtain ⟨x89, ex89⟩ : ∃ y : Int32, y = (nI i) + 1 := ⟨_, rfl⟩
                refine lv_iinc (v := x89) (lv' := [(6, .int x89), (0, .ref h0), (1, .int p0), (2, .int p1), (3, .int p2), (4, .int p3), (5, .int 0)]) hx hb dX12_lifts__157 hl (k := 0) rfl (by rw [ex89]; rfl) (by decide) rfl (fun ls hl => ?_)
                refine lv_goto (tgt := 129) hx hb dX12_lifts__160 (by decide) ?_
                obtain rfl : x89 = nI (i + 1) := ex89.trans (nI_1 i)
                exact ih27 (i + 1) (by omega) (upd f (nI i).toNatClampNeg 1000000000) (bq_upd (by omega) (bq_n (so_ne (fun e => c88 (by rw [e, e0])))).symm hf) _ _ (hP.sub [0, 1, 2, 3] rfl) (hD.sub [0, 1, 2, 3] (by decide) rfl) hS ls (lv_sub hl [0, 1, 2, 3, 4, 5, 6] rfl)
              · refine lv_iconst (v := 0) hx hb dX12_lifts__149 (by decide) ?_
                refine lv_goto (tgt := 156) hx hb dX12_lifts__150 (by decide) ?_
                refine va_iast hx hb hK hP hD hS 1 1 rfl rfl (vp_in_nI (Nat.lt_of_lt_of_le hlt86 (by decide)) (by decide)) dX12_lifts__156 (fun H locs hP hD hS => ?_)
                have hP : va_P (dC, dI) vwCl [(q 1, .inl ((cm 1), 1749, .inl (fun _ => 0))), (q 65, .inl ((cm 65), 1001, .inl (upd f (nI i).toNatClampNeg 0))), (q 66, .inl ((cm 66), 1001, .inl (fun _ => 0))), (h0, .inr (15, mF q 0))] H := hP
                have hD : va_D A [(q 1, .inl ((cm 1), 1749, .inl (fun _ => 0))), (q 65, .inl ((cm 65), 1001, .inl (upd f (nI i).toNatClampNeg 0))), (q 66, .inl ((cm 66), 1001, .inl (fun _ => 0))), (h0, .inr (15, mF q 0))] := hD
                obtain ⟨x90, ex90⟩ : ∃ y : Int32, y = (nI i) + 1 := ⟨_, rfl⟩
                refine lv_iinc (v := x90) (lv' := [(6, .int x90), (0, .ref h0), (1, .int p0), (2, .int p1), (3, .int p2), (4, .int p3), (5, .int 0)]) hx hb dX12_lifts__157 hl (k := 0) rfl (by rw [ex90]; rfl) (by decide) rfl (fun ls hl => ?_)
                refine lv_goto (tgt := 129) hx hb dX12_lifts__160 (by decide) ?_
                obtain rfl : x90 = nI (i + 1) := ex90.trans (nI_1 i)
                exact ih27 (i + 1) (by omega) (upd f (nI i).toNatClampNeg 0) (bq_upd (by omega) (bq_p (by rw [(nI_eq (by omega) (by omega)).mp (c88.trans e0)])).symm hf) _ _ (hP.sub [0, 1, 2, 3] rfl) (hD.sub [0, 1, 2, 3] (by decide) rfl) hS ls (lv_sub hl [0, 1, 2, 3, 4, 5, 6] rfl)
          exact key27 1001 0 (by decide) (fun _ => 0) (fun _ h => absurd h (Nat.not_lt_zero _)) _ _ (hP.sub [0, 1, 2, 3] rfl) (hD.sub [0, 1, 2, 3] (by decide) rfl) hS ls (lv_sub hl [0, 2, 3, 4, 5, 6, 1] rfl)
        · rw [if_neg hc19] at hw18
          subst hw18
          refine lv_if_ne (tgt := 53) hx hb dX12_lifts__46 (by decide) (fun c91 => absurd c91 (by decide)) (fun c91 => ?_)
          refine lv_iconst (v := 1) hx hb dX12_lifts__49 (by decide) ?_
          refine lv_goto (tgt := 54) hx hb dX12_lifts__50 (by decide) ?_
          refine lv_iconst (v := 1) hx hb dX12_lifts__54 (by decide) ?_
          have hPc := hP.sub (ws' := [(h0, .inr (15, mF q 0))]) [0] rfl
          have hDc := hD.sub (ws' := [(h0, .inr (15, mF q 0))]) [0] (by decide) rfl
          have hKc := hK.sub (tys' := []) [] rfl
          have hFc := va_free (wc := [(h0, .inr (15, mF q 0))]) hD hS hA [0] rfl
          refine va_calli (va_runV (As := [.int 1, .int 1]) (rest := []) ⟨hx, hb, hml, hown, hts⟩ (c_m_throwsIf1 l dC dI h0 (mF q 0) 1 H.size rfl) (cwV 2 hts (goodIn_app (goodIn_r _ [7, 8, 9, 5] (by decide +kernel) (by decide +kernel)) (goodIn_ca (goodIn_r _ [6, 1] (by decide +kernel) (by decide +kernel)) (bs_in _ _))) rfl rfl rfl (by decide +kernel) ⟨(Nat.le_of_ble_eq_true rfl), (Nat.le_of_ble_eq_true rfl)⟩) ⟨fun a U g mk q => by obtain ⟨q0, q1, qP, qK, qD⟩ := q; exact ⟨q0, q1, qP, va_K.moved (u := U) (U := U.calling g mk a) (Vm.Alike.refl U.vm) qK, qD⟩, va_recv hKc hPc (ci := 15) (q0 := 0) rfl rfl, fun U hU hW => ⟨rfl, by rw [hU], by rw [hU]; exact hPc, va_K.moved hW.alike hKc, hDc.weaken (fun _ _ _ _ => trivial)⟩⟩ rfl rfl hl.1 rfl (lv_room (Nat.le_of_ble_eq_true rfl)) dX12_lifts__55 ⟨(Nat.le_of_ble_eq_true rfl), (Nat.le_of_ble_eq_true rfl)⟩) hS (fun q _ h => hFc q h) hFc (fun r93 u t H1 locs ht hvm hw94 hB hz1 hk1 hS => ?_)
          obtain ⟨hP1, hD1⟩ := hB
          rw [ht] at hP1
          obtain ⟨hP, hD⟩ := va_join (wr := [(q 1, .inl ((cm 1), 1749, .inl (fun _ => 0))), (q 65, .inl ((cm 65), 1001, .inl (fun _ => 0))), (q 66, .inl ((cm 66), 1001, .inl (fun _ => 0)))]) (w1 := [(h0, .inr (15, mF q 1))]) hP hD [0] [1, 2, 3] rfl rfl (by decide) (by decide) hk1 hFc hP1 hD1
          generalize H1 = H at hP hS ⊢
          have hP : va_P (dC, dI) vwCl [(q 1, .inl ((cm 1), 1749, .inl (fun _ => 0))), (q 65, .inl ((cm 65), 1001, .inl (fun _ => 0))), (q 66, .inl ((cm 66), 1001, .inl (fun _ => 0))), (h0, .inr (15, mF q 1))] H := hP
          have hD : va_D A [(q 1, .inl ((cm 1), 1749, .inl (fun _ => 0))), (q 65, .inl ((cm 65), 1001, .inl (fun _ => 0))), (q 66, .inl ((cm 66), 1001, .inl (fun _ => 0))), (h0, .inr (15, mF q 1))] := hD
          try dsimp only at hw94
          obtain rfl : 1 = r93 := (hw94).symm
          refine lv_if_eq (tgt := 63) hx hb dX12_lifts__58 (by decide) (fun c95 => absurd c95 (by decide)) (fun c95 => ?_)
          refine lv_iconst (v := 0) hx hb dX12_lifts__61 (by decide) ?_
          exact W.iret (v := 0) hx hb hr (fun t ht hW => ⟨⟨0, (mF q 1), rfl, (by unfold T_lifts; rw [if_pos hc4, if_pos hc9, if_pos hc14, if_neg hc19]; exact ⟨rfl, fun h => absurd h (by decide)⟩), by rw [ht]; exact hP.sub (ws' := [(h0, .inr (15, mF q 1))]) [3] rfl, hD.sub (ws' := [(h0, .inr (15, mF q 1))]) [3] (by decide) rfl⟩, hS.F ht⟩) hS.2.2 dX12_lifts__62
      · rw [if_neg hc14] at hw13
        subst hw13
        refine lv_if_eq (tgt := 49) hx hb dX12_lifts__34 (by decide) (fun c96 => ?_) (fun c96 => absurd c96 (by decide))
        refine lv_iconst (v := 1) hx hb dX12_lifts__49 (by decide) ?_
        refine lv_goto (tgt := 54) hx hb dX12_lifts__50 (by decide) ?_
        refine lv_iconst (v := 1) hx hb dX12_lifts__54 (by decide) ?_
        have hPc := hP.sub (ws' := [(h0, .inr (15, mF q 0))]) [0] rfl
        have hDc := hD.sub (ws' := [(h0, .inr (15, mF q 0))]) [0] (by decide) rfl
        have hKc := hK.sub (tys' := []) [] rfl
        have hFc := va_free (wc := [(h0, .inr (15, mF q 0))]) hD hS hA [0] rfl
        refine va_calli (va_runV (As := [.int 1, .int 1]) (rest := []) ⟨hx, hb, hml, hown, hts⟩ (c_m_throwsIf1 l dC dI h0 (mF q 0) 1 H.size rfl) (cwV 2 hts (goodIn_app (goodIn_r _ [7, 8, 9, 5] (by decide +kernel) (by decide +kernel)) (goodIn_ca (goodIn_r _ [6, 1] (by decide +kernel) (by decide +kernel)) (bs_in _ _))) rfl rfl rfl (by decide +kernel) ⟨(Nat.le_of_ble_eq_true rfl), (Nat.le_of_ble_eq_true rfl)⟩) ⟨fun a U g mk q => by obtain ⟨q0, q1, qP, qK, qD⟩ := q; exact ⟨q0, q1, qP, va_K.moved (u := U) (U := U.calling g mk a) (Vm.Alike.refl U.vm) qK, qD⟩, va_recv hKc hPc (ci := 15) (q0 := 0) rfl rfl, fun U hU hW => ⟨rfl, by rw [hU], by rw [hU]; exact hPc, va_K.moved hW.alike hKc, hDc.weaken (fun _ _ _ _ => trivial)⟩⟩ rfl rfl hl.1 rfl (lv_room (Nat.le_of_ble_eq_true rfl)) dX12_lifts__55 ⟨(Nat.le_of_ble_eq_true rfl), (Nat.le_of_ble_eq_true rfl)⟩) hS (fun q _ h => hFc q h) hFc (fun r98 u t H1 locs ht hvm hw99 hB hz1 hk1 hS => ?_)
        obtain ⟨hP1, hD1⟩ := hB
        rw [ht] at hP1
        obtain ⟨hP, hD⟩ := va_join (wr := [(q 1, .inl ((cm 1), 1749, .inl (fun _ => 0))), (q 65, .inl ((cm 65), 1001, .inl (fun _ => 0))), (q 66, .inl ((cm 66), 1001, .inl (fun _ => 0)))]) (w1 := [(h0, .inr (15, mF q 1))]) hP hD [0] [1, 2, 3] rfl rfl (by decide) (by decide) hk1 hFc hP1 hD1
        generalize H1 = H at hP hS ⊢
        have hP : va_P (dC, dI) vwCl [(q 1, .inl ((cm 1), 1749, .inl (fun _ => 0))), (q 65, .inl ((cm 65), 1001, .inl (fun _ => 0))), (q 66, .inl ((cm 66), 1001, .inl (fun _ => 0))), (h0, .inr (15, mF q 1))] H := hP
        have hD : va_D A [(q 1, .inl ((cm 1), 1749, .inl (fun _ => 0))), (q 65, .inl ((cm 65), 1001, .inl (fun _ => 0))), (q 66, .inl ((cm 66), 1001, .inl (fun _ => 0))), (h0, .inr (15, mF q 1))] := hD
        try dsimp only at hw99
        obtain rfl : 1 = r98 := (hw99).symm
        refine lv_if_eq (tgt := 63) hx hb dX12_lifts__58 (by decide) (fun c100 => absurd c100 (by decide)) (fun c100 => ?_)
        refine lv_iconst (v := 0) hx hb dX12_lifts__61 (by decide) ?_
        exact W.iret (v := 0) hx hb hr (fun t ht hW => ⟨⟨0, (mF q 1), rfl, (by unfold T_lifts; rw [if_pos hc4, if_pos hc9, if_neg hc14]; exact ⟨rfl, fun h => absurd h (by decide)⟩), by rw [ht]; exact hP.sub (ws' := [(h0, .inr (15, mF q 1))]) [3] rfl, hD.sub (ws' := [(h0, .inr (15, mF q 1))]) [3] (by decide) rfl⟩, hS.F ht⟩) hS.2.2 dX12_lifts__62
    · rw [if_neg hc9] at hw8
      subst hw8
      refine lv_if_eq (tgt := 49) hx hb dX12_lifts__24 (by decide) (fun c101 => ?_) (fun c101 => absurd c101 (by decide))
      refine lv_iconst (v := 1) hx hb dX12_lifts__49 (by decide) ?_
      refine lv_goto (tgt := 54) hx hb dX12_lifts__50 (by decide) ?_
      refine lv_iconst (v := 1) hx hb dX12_lifts__54 (by decide) ?_
      have hPc := hP.sub (ws' := [(h0, .inr (15, mF q 0))]) [0] rfl
      have hDc := hD.sub (ws' := [(h0, .inr (15, mF q 0))]) [0] (by decide) rfl
      have hKc := hK.sub (tys' := []) [] rfl
      have hFc := va_free (wc := [(h0, .inr (15, mF q 0))]) hD hS hA [0] rfl
      refine va_calli (va_runV (As := [.int 1, .int 1]) (rest := []) ⟨hx, hb, hml, hown, hts⟩ (c_m_throwsIf1 l dC dI h0 (mF q 0) 1 H.size rfl) (cwV 2 hts (goodIn_app (goodIn_r _ [7, 8, 9, 5] (by decide +kernel) (by decide +kernel)) (goodIn_ca (goodIn_r _ [6, 1] (by decide +kernel) (by decide +kernel)) (bs_in _ _))) rfl rfl rfl (by decide +kernel) ⟨(Nat.le_of_ble_eq_true rfl), (Nat.le_of_ble_eq_true rfl)⟩) ⟨fun a U g mk q => by obtain ⟨q0, q1, qP, qK, qD⟩ := q; exact ⟨q0, q1, qP, va_K.moved (u := U) (U := U.calling g mk a) (Vm.Alike.refl U.vm) qK, qD⟩, va_recv hKc hPc (ci := 15) (q0 := 0) rfl rfl, fun U hU hW => ⟨rfl, by rw [hU], by rw [hU]; exact hPc, va_K.moved hW.alike hKc, hDc.weaken (fun _ _ _ _ => trivial)⟩⟩ rfl rfl hl.1 rfl (lv_room (Nat.le_of_ble_eq_true rfl)) dX12_lifts__55 ⟨(Nat.le_of_ble_eq_true rfl), (Nat.le_of_ble_eq_true rfl)⟩) hS (fun q _ h => hFc q h) hFc (fun r103 u t H1 locs ht hvm hw104 hB hz1 hk1 hS => ?_)
      obtain ⟨hP1, hD1⟩ := hB
      rw [ht] at hP1
      obtain ⟨hP, hD⟩ := va_join (wr := [(q 1, .inl ((cm 1), 1749, .inl (fun _ => 0))), (q 65, .inl ((cm 65), 1001, .inl (fun _ => 0))), (q 66, .inl ((cm 66), 1001, .inl (fun _ => 0)))]) (w1 := [(h0, .inr (15, mF q 1))]) hP hD [0] [1, 2, 3] rfl rfl (by decide) (by decide) hk1 hFc hP1 hD1
      generalize H1 = H at hP hS ⊢
      have hP : va_P (dC, dI) vwCl [(q 1, .inl ((cm 1), 1749, .inl (fun _ => 0))), (q 65, .inl ((cm 65), 1001, .inl (fun _ => 0))), (q 66, .inl ((cm 66), 1001, .inl (fun _ => 0))), (h0, .inr (15, mF q 1))] H := hP
      have hD : va_D A [(q 1, .inl ((cm 1), 1749, .inl (fun _ => 0))), (q 65, .inl ((cm 65), 1001, .inl (fun _ => 0))), (q 66, .inl ((cm 66), 1001, .inl (fun _ => 0))), (h0, .inr (15, mF q 1))] := hD
      try dsimp only at hw104
      obtain rfl : 1 = r103 := (hw104).symm
      refine lv_if_eq (tgt := 63) hx hb dX12_lifts__58 (by decide) (fun c105 => absurd c105 (by decide)) (fun c105 => ?_)
      refine lv_iconst (v := 0) hx hb dX12_lifts__61 (by decide) ?_
      exact W.iret (v := 0) hx hb hr (fun t ht hW => ⟨⟨0, (mF q 1), rfl, (by unfold T_lifts; rw [if_pos hc4, if_neg hc9]; exact ⟨rfl, fun h => absurd h (by decide)⟩), by rw [ht]; exact hP.sub (ws' := [(h0, .inr (15, mF q 1))]) [3] rfl, hD.sub (ws' := [(h0, .inr (15, mF q 1))]) [3] (by decide) rfl⟩, hS.F ht⟩) hS.2.2 dX12_lifts__62
  · rw [if_neg hc4] at hw3
    subst hw3
    refine lv_if_eq (tgt := 49) hx hb dX12_lifts__14 (by decide) (fun c106 => ?_) (fun c106 => absurd c106 (by decide))
    refine lv_iconst (v := 1) hx hb dX12_lifts__49 (by decide) ?_
    refine lv_goto (tgt := 54) hx hb dX12_lifts__50 (by decide) ?_
    refine lv_iconst (v := 1) hx hb dX12_lifts__54 (by decide) ?_
    have hPc := hP.sub (ws' := [(h0, .inr (15, mF q 0))]) [0] rfl
    have hDc := hD.sub (ws' := [(h0, .inr (15, mF q 0))]) [0] (by decide) rfl
    have hKc := hK.sub (tys' := []) [] rfl
    have hFc := va_free (wc := [(h0, .inr (15, mF q 0))]) hD hS hA [0] rfl
    refine va_calli (va_runV (As := [.int 1, .int 1]) (rest := []) ⟨hx, hb, hml, hown, hts⟩ (c_m_throwsIf1 l dC dI h0 (mF q 0) 1 H.size rfl) (cwV 2 hts (goodIn_app (goodIn_r _ [7, 8, 9, 5] (by decide +kernel) (by decide +kernel)) (goodIn_ca (goodIn_r _ [6, 1] (by decide +kernel) (by decide +kernel)) (bs_in _ _))) rfl rfl rfl (by decide +kernel) ⟨(Nat.le_of_ble_eq_true rfl), (Nat.le_of_ble_eq_true rfl)⟩) ⟨fun a U g mk q => by obtain ⟨q0, q1, qP, qK, qD⟩ := q; exact ⟨q0, q1, qP, va_K.moved (u := U) (U := U.calling g mk a) (Vm.Alike.refl U.vm) qK, qD⟩, va_recv hKc hPc (ci := 15) (q0 := 0) rfl rfl, fun U hU hW => ⟨rfl, by rw [hU], by rw [hU]; exact hPc, va_K.moved hW.alike hKc, hDc.weaken (fun _ _ _ _ => trivial)⟩⟩ rfl rfl hl.1 rfl (lv_room (Nat.le_of_ble_eq_true rfl)) dX12_lifts__55 ⟨(Nat.le_of_ble_eq_true rfl), (Nat.le_of_ble_eq_true rfl)⟩) hS (fun q _ h => hFc q h) hFc (fun r108 u t H1 locs ht hvm hw109 hB hz1 hk1 hS => ?_)
    obtain ⟨hP1, hD1⟩ := hB
    rw [ht] at hP1
    obtain ⟨hP, hD⟩ := va_join (wr := [(q 1, .inl ((cm 1), 1749, .inl (fun _ => 0))), (q 65, .inl ((cm 65), 1001, .inl (fun _ => 0))), (q 66, .inl ((cm 66), 1001, .inl (fun _ => 0)))]) (w1 := [(h0, .inr (15, mF q 1))]) hP hD [0] [1, 2, 3] rfl rfl (by decide) (by decide) hk1 hFc hP1 hD1
    generalize H1 = H at hP hS ⊢
    have hP : va_P (dC, dI) vwCl [(q 1, .inl ((cm 1), 1749, .inl (fun _ => 0))), (q 65, .inl ((cm 65), 1001, .inl (fun _ => 0))), (q 66, .inl ((cm 66), 1001, .inl (fun _ => 0))), (h0, .inr (15, mF q 1))] H := hP
    have hD : va_D A [(q 1, .inl ((cm 1), 1749, .inl (fun _ => 0))), (q 65, .inl ((cm 65), 1001, .inl (fun _ => 0))), (q 66, .inl ((cm 66), 1001, .inl (fun _ => 0))), (h0, .inr (15, mF q 1))] := hD
    try dsimp only at hw109
    obtain rfl : 1 = r108 := (hw109).symm
    refine lv_if_eq (tgt := 63) hx hb dX12_lifts__58 (by decide) (fun c110 => absurd c110 (by decide)) (fun c110 => ?_)
    refine lv_iconst (v := 0) hx hb dX12_lifts__61 (by decide) ?_
    exact W.iret (v := 0) hx hb hr (fun t ht hW => ⟨⟨0, (mF q 1), rfl, (by unfold T_lifts; rw [if_neg hc4]; exact ⟨rfl, fun h => absurd h (by decide)⟩), by rw [ht]; exact hP.sub (ws' := [(h0, .inr (15, mF q 1))]) [3] rfl, hD.sub (ws' := [(h0, .inr (15, mF q 1))]) [3] (by decide) rfl⟩, hS.F ht⟩) hS.2.2 dX12_lifts__62
