abbrev mG (q : Nat → Nat) (ro : Int32) : List Value := [.int 0, .ref (q 1), .ref (q 2), .int 0, .ref (q 4), .ref (q 5), .ref (q 6), .ref (q 7), .ref (q 8), .int ro, .ref (q 10), .int 0, .int 0, .int 0, .int 0, .int 0, .int (-1), .ref (q 17), .ref (q 18), .ref (q 19), .ref (q 20), .ref (q 21), .ref (q 22), .ref (q 23), .ref (q 24), .ref (q 25), .ref (q 26), .ref (q 27), .int 0, .ref (q 29), .ref (q 30), .ref (q 31), .ref (q 32), .ref (q 33), .ref (q 34), .ref (q 35), .ref (q 36), .ref (q 37), .ref (q 38), .ref (q 39), .ref (q 40), .ref (q 41), .int 0, .ref (q 43), .ref (q 44), .ref (q 45), .ref (q 46), .int 0, .int 0, .int (-1), .ref (q 50), .ref (q 51), .int 0, .long 0, .long 0, .ref (q 55), .ref (q 56), .ref (q 57), .ref (q 58), .ref (q 59), .ref (q 60), .ref (q 61), .ref (q 62), .ref (q 63), .int 0, .ref (q 65), .ref (q 66), .ref (q 67), .ref (q 68), .ref (q 69), .ref (q 70), .ref (q 71), .ref (q 72), .ref (q 73), .int 0, .ref (q 75), .ref (q 76), .int 0]
theorem cl_ne {c x M : Int32} {k : Nat} (h : 0 ≤ x ∧ x ≤ M) (hc : 0 ≤ c.toInt) (hM : c.toInt + M.toInt < 2 ^ 31) (hk : (k : Int) < c.toInt) : (c + x).toNatClampNeg ≠ k := by
  have h1 := Int32.le_iff_toInt_le.mp h.1
  rw [i0] at h1
  have h2 : (c + x).toNatClampNeg = (c + x).toInt.toNat := rfl
  rw [h2, ia_toInt h hc hM]
  omega
theorem all0_upd {g : Nat → Int32} {k : Nat} (h : ∀ j, g j = 0) : ∀ j, upd g k 0 j = 0 := by
  intro j
  by_cases e : j = k
  · rw [e, pk_us]
  · rw [pk_un e, h j]
theorem sq_of {i : Nat} (h : i < 96) : (0 : Int32) ≤ nI i ∧ nI i ≤ 95 := ⟨nI_pos' (by omega), nI_le (b := 95) (by omega) (by decide)⟩
theorem hz_sq {g : Nat → Int32} {sq : Int32} (h : 0 ≤ sq ∧ sq ≤ 95) (hz : ∀ j, j ≠ 1429 → g j = 0) : g sq.toNatClampNeg = 0 := by
  obtain ⟨j, hj, rfl⟩ := nI_of2 (M := 95) (n := 95) (by decide) (Int32.not_lt.mpr h.1) h.2
  exact hz _ (by rw [nI_clamp (by omega)]; omega)
def w_r_hour : List Cond := .code yX12_hour cX12_hour 1 (some .int) :: ([.fieldLink RX12 9 "SeaLandModel" "world" "[I"] ++ bs)
set_option maxHeartbeats 4000000 in
set_option maxRecDepth 100000 in
theorem r_hour (l : Launch) (dC : Nat → ClassId) (dI : Nat → Nat → Nat) (h0 : Nat) (q : Nat → Nat) (cm : Nat → ClassId) (ro : Int32) (g : Nat → Int32) (v : Int32) (sz : Nat) (hv : g 1429 = v) : Met l yX12_hour w_r_hour ({ frames := 0, cells := 0, slots := 0, locals := 0 }) (va_Pc [.ref h0] (fun U => U.heap.size = sz ∧ va_P (dC, dI) vwCl [(h0, .inr (15, mG q ro)), (q 1, .inl ((cm 1), 1749, .inl g))] U.heap ∧ va_K (dC, dI) vwCl [((cm 1), .int)] U ∧ va_D (fun _ => True) [(h0, .inr (15, mG q ro)), (q 1, .inl ((cm 1), 1749, .inl g))])) (va_Qi (fun (r : Int32) (u : Unit) => r = v) (fun (_ : Unit) (t : State) => va_P (dC, dI) vwCl [(h0, .inr (15, mG q ro)), (q 1, .inl ((cm 1), 1749, .inl g))] t.heap ∧ va_D (va_A [(h0, .inr (15, mG q ro)), (q 1, .inl ((cm 1), 1749, .inl g))] sz) [(h0, .inr (15, mG q ro)), (q 1, .inl ((cm 1), 1749, .inl g))]) (va_A [(h0, .inr (15, mG q ro)), (q 1, .inl ((cm 1), 1749, .inl g))] sz)) 0 0 (va_A [(h0, .inr (15, mG q ro)), (q 1, .inl ((cm 1), 1749, .inl g))] sz) := by
  refine Met.ofW (cc := cX12_hour) (maxL := 1) (ret := (some .int)) (by decide) rfl ?_
  intro p e s m args below meth c s₁ B hml hv
  obtain ⟨rfl, hsz, hP, hK, hD0⟩ := hv
  have hx := B.exec
  have hb := B.bytes
  have hr := B.returns
  have hts := atoms_spec (ws := w_r_hour) B.pre
  have hown : s.vm.findClass RX12 = some m.cls := findClass_of_methodNamed B.named
  have hlocks := B.notSynchronized
  subst hsz
  have hD := hD0.self (sz := s.heap.size)
  generalize hAe : va_A [(h0, .inr (15, mG q ro)), (q 1, .inl ((cm 1), 1749, .inl g))] s.heap.size = A at hD ⊢
  have hA : ∀ q : Nat, s.heap.size ≤ q → A q := fun q h => by rw [← hAe]; exact Or.inr h
  have hS : va_S A s.heap s.heap [] := va_S.rf
  have hP : va_P (dC, dI) vwCl [(h0, .inr (15, mG q ro)), (q 1, .inl ((cm 1), 1749, .inl g))] s.heap := hP
  have hl := lv_entry ([.ref h0]) (n := 1) (Nat.le_of_ble_eq_true rfl)
  rw [lg_entry_eq]
  generalize (lg_sl ([.ref h0]) ++ List.replicate (1 - (lg_sl ([.ref h0])).length) Slot.unset).toArray = ls at hl ⊢
  have hl : lv_has ls 1 [(0, .ref h0)] := hl
  refine lv_aload_n hx hb dX12_hour_0 rfl (lv_at hl 0 rfl) ?_
  refine va_get (D := (dC, dI)) (ci := 15) (v := .ref (q 1)) (C := RX12) (T := TX12) (N := 78) hx hb hts bF_X12 hown hK hP 0 rfl rfl 1 (by decide) (ht_at hts 0 rfl) (fun _ h9 => h9) rfl dX12_hour_1 ?_
  refine lv_sipush (v := 1429) hx hb dX12_hour_4 (by decide) ?_
  refine va_iald hx hb hK hP 1 0 rfl rfl (by unfold vp_in; decide) dX12_hour_7 ?_
  refine lv_topi (fun x1 ex1 => ?_)
  obtain rfl : v = x1 := (ex1.trans hv).symm
  exact W.iret (v := v) hx hb hr (fun t ht hW => ⟨⟨v, (), rfl, (by rfl), by rw [ht]; exact hP.sub (ws' := [(h0, .inr (15, mG q ro)), (q 1, .inl ((cm 1), 1749, .inl g))]) [0, 1] rfl, hD.sub (ws' := [(h0, .inr (15, mG q ro)), (q 1, .inl ((cm 1), 1749, .inl g))]) [0, 1] (by decide) rfl⟩, hS.F ht⟩) hS.2.2 dX12_hour_8
def w_r_isLand : List Cond := .code yX12_isLand cX12_isLand 2 (some .boolean) :: ([.fieldLink RX12 9 "SeaLandModel" "world" "[I"] ++ bs)
set_option maxHeartbeats 4000000 in
set_option maxRecDepth 100000 in
theorem r_isLand (l : Launch) (dC : Nat → ClassId) (dI : Nat → Nat → Nat) (h0 : Nat) (q : Nat → Nat) (cm : Nat → ClassId) (ro : Int32) (g : Nat → Int32) (sq : Int32) (sz : Nat) (hz : ∀ j, j ≠ 1429 → g j = 0) (hsq : 0 ≤ sq ∧ sq ≤ 95) : Met l yX12_isLand w_r_isLand ({ frames := 0, cells := 0, slots := 0, locals := 0 }) (va_Pc [.ref h0, .int sq] (fun U => U.heap.size = sz ∧ va_P (dC, dI) vwCl [(h0, .inr (15, mG q ro)), (q 1, .inl ((cm 1), 1749, .inl g))] U.heap ∧ va_K (dC, dI) vwCl [((cm 1), .int)] U ∧ va_D (fun _ => True) [(h0, .inr (15, mG q ro)), (q 1, .inl ((cm 1), 1749, .inl g))])) (va_Qi (fun (r : Int32) (u : Unit) => r = 0) (fun (_ : Unit) (t : State) => va_P (dC, dI) vwCl [(h0, .inr (15, mG q ro)), (q 1, .inl ((cm 1), 1749, .inl g))] t.heap ∧ va_D (va_A [(h0, .inr (15, mG q ro)), (q 1, .inl ((cm 1), 1749, .inl g))] sz) [(h0, .inr (15, mG q ro)), (q 1, .inl ((cm 1), 1749, .inl g))]) (va_A [(h0, .inr (15, mG q ro)), (q 1, .inl ((cm 1), 1749, .inl g))] sz)) 0 0 (va_A [(h0, .inr (15, mG q ro)), (q 1, .inl ((cm 1), 1749, .inl g))] sz) := by
  refine Met.ofW (cc := cX12_isLand) (maxL := 2) (ret := (some .boolean)) (by decide) rfl ?_
  intro p e s m args below meth c s₁ B hml hv
  obtain ⟨rfl, hsz, hP, hK, hD0⟩ := hv
  have hx := B.exec
  have hb := B.bytes
  have hr := B.returns
  have hts := atoms_spec (ws := w_r_isLand) B.pre
  have hown : s.vm.findClass RX12 = some m.cls := findClass_of_methodNamed B.named
  have hlocks := B.notSynchronized
  subst hsz
  have hD := hD0.self (sz := s.heap.size)
  generalize hAe : va_A [(h0, .inr (15, mG q ro)), (q 1, .inl ((cm 1), 1749, .inl g))] s.heap.size = A at hD ⊢
  have hA : ∀ q : Nat, s.heap.size ≤ q → A q := fun q h => by rw [← hAe]; exact Or.inr h
  have hS : va_S A s.heap s.heap [] := va_S.rf
  have hP : va_P (dC, dI) vwCl [(h0, .inr (15, mG q ro)), (q 1, .inl ((cm 1), 1749, .inl g))] s.heap := hP
  have hl := lv_entry ([.ref h0, .int sq]) (n := 2) (Nat.le_of_ble_eq_true rfl)
  rw [lg_entry_eq]
  generalize (lg_sl ([.ref h0, .int sq]) ++ List.replicate (2 - (lg_sl ([.ref h0, .int sq])).length) Slot.unset).toArray = ls at hl ⊢
  have hl : lv_has ls 2 [(0, .ref h0), (1, .int sq)] := hl
  refine lv_aload_n hx hb dX12_isLand_0 rfl (lv_at hl 0 rfl) ?_
  refine va_get (D := (dC, dI)) (ci := 15) (v := .ref (q 1)) (C := RX12) (T := TX12) (N := 78) hx hb hts bF_X12 hown hK hP 0 rfl rfl 1 (by decide) (ht_at hts 0 rfl) (fun _ h9 => h9) rfl dX12_isLand_1 ?_
  refine lv_iconst (v := 0) hx hb dX12_isLand_4 (by decide) ?_
  refine lv_iload_n hx hb dX12_isLand_5 rfl (lv_at hl 1 rfl) ?_
  refine lv_iadd hx hb dX12_isLand_6 ?_
  refine lv_topi (fun x1 ex1 => ?_)
  refine va_iald hx hb hK hP 1 0 rfl rfl (by rw [ex1]; exact vin_add hsq (by decide) (by decide) (by decide)) dX12_isLand_7 ?_
  refine lv_topi (fun x2 ex2 => ?_)
  obtain rfl : 0 = x2 := (ex2.trans (by rw [ex1, Int32.zero_add]; exact hz_sq hsq hz)).symm
  refine lv_iconst (v := 1) hx hb dX12_isLand_8 (by decide) ?_
  refine lv_icmp_ne (tgt := 16) hx hb dX12_isLand_9 (by decide) (fun c3 => ?_) (fun c3 => absurd c3 (by decide))
  refine lv_iconst (v := 0) hx hb dX12_isLand_16 (by decide) ?_
  exact W.zret (v := 0) hx hb hr (by decide) (fun t ht hW => ⟨⟨0, (), rfl, (by rfl), by rw [ht]; exact hP.sub (ws' := [(h0, .inr (15, mG q ro)), (q 1, .inl ((cm 1), 1749, .inl g))]) [0, 1] rfl, hD.sub (ws' := [(h0, .inr (15, mG q ro)), (q 1, .inl ((cm 1), 1749, .inl g))]) [0, 1] (by decide) rfl⟩, hS.F ht⟩) hS.2.2 dX12_isLand_17
def w_r_outside : List Cond := .code yX12_outside cX12_outside 4 (some .int) :: ([.fieldLink RX12 9 "SeaLandModel" "world" "[I"] ++ bs)
set_option maxHeartbeats 4000000 in
set_option maxRecDepth 100000 in
theorem r_outside (l : Launch) (dC : Nat → ClassId) (dI : Nat → Nat → Nat) (h0 : Nat) (q : Nat → Nat) (cm : Nat → ClassId) (ro : Int32) (g : Nat → Int32) (h : Int32) (sz : Nat) (hz : ∀ j, j ≠ 1429 → g j = 0) (hh0 : 0 ≤ h) : Met l yX12_outside w_r_outside ({ frames := 0, cells := 0, slots := 0, locals := 0 }) (va_Pc [.ref h0, .int h] (fun U => U.heap.size = sz ∧ va_P (dC, dI) vwCl [(h0, .inr (15, mG q ro)), (q 1, .inl ((cm 1), 1749, .inl g))] U.heap ∧ va_K (dC, dI) vwCl [((cm 1), .int)] U ∧ va_D (fun _ => True) [(h0, .inr (15, mG q ro)), (q 1, .inl ((cm 1), 1749, .inl g))])) (va_Qi (fun (r : Int32) (u : Unit) => r = 0) (fun (_ : Unit) (t : State) => va_P (dC, dI) vwCl [(h0, .inr (15, mG q ro)), (q 1, .inl ((cm 1), 1749, .inl g))] t.heap ∧ va_D (va_A [(h0, .inr (15, mG q ro)), (q 1, .inl ((cm 1), 1749, .inl g))] sz) [(h0, .inr (15, mG q ro)), (q 1, .inl ((cm 1), 1749, .inl g))]) (va_A [(h0, .inr (15, mG q ro)), (q 1, .inl ((cm 1), 1749, .inl g))] sz)) 0 0 (va_A [(h0, .inr (15, mG q ro)), (q 1, .inl ((cm 1), 1749, .inl g))] sz) := by
  refine Met.ofW (cc := cX12_outside) (maxL := 4) (ret := (some .int)) (by decide) rfl ?_
  intro p e s m args below meth c s₁ B hml hv
  obtain ⟨rfl, hsz, hP, hK, hD0⟩ := hv
  have hx := B.exec
  have hb := B.bytes
  have hr := B.returns
  have hts := atoms_spec (ws := w_r_outside) B.pre
  have hown : s.vm.findClass RX12 = some m.cls := findClass_of_methodNamed B.named
  have hlocks := B.notSynchronized
  subst hsz
  have hD := hD0.self (sz := s.heap.size)
  generalize hAe : va_A [(h0, .inr (15, mG q ro)), (q 1, .inl ((cm 1), 1749, .inl g))] s.heap.size = A at hD ⊢
  have hA : ∀ q : Nat, s.heap.size ≤ q → A q := fun q h => by rw [← hAe]; exact Or.inr h
  have hS : va_S A s.heap s.heap [] := va_S.rf
  have hP : va_P (dC, dI) vwCl [(h0, .inr (15, mG q ro)), (q 1, .inl ((cm 1), 1749, .inl g))] s.heap := hP
  have hl := lv_entry ([.ref h0, .int h]) (n := 4) (Nat.le_of_ble_eq_true rfl)
  rw [lg_entry_eq]
  generalize (lg_sl ([.ref h0, .int h]) ++ List.replicate (4 - (lg_sl ([.ref h0, .int h])).length) Slot.unset).toArray = ls at hl ⊢
  have hl : lv_has ls 4 [(0, .ref h0), (1, .int h)] := hl
  refine lv_aload_n hx hb dX12_outside_0 rfl (lv_at hl 0 rfl) ?_
  refine va_get (D := (dC, dI)) (ci := 15) (v := .ref (q 1)) (C := RX12) (T := TX12) (N := 78) hx hb hts bF_X12 hown hK hP 0 rfl rfl 1 (by decide) (ht_at hts 0 rfl) (fun _ h9 => h9) rfl dX12_outside_1 ?_
  refine lv_sipush (v := 1430) hx hb dX12_outside_4 (by decide) ?_
  refine lv_iload_n hx hb dX12_outside_7 rfl (lv_at hl 1 rfl) ?_
  refine lv_bipush (v := 12) hx hb dX12_outside_8 (by decide) ?_
  refine lv_irem hx hb dX12_outside_10 (by decide) ?_
  refine lv_topi (fun x1 ex1 => ?_)
  refine lv_iadd hx hb dX12_outside_11 ?_
  refine lv_topi (fun x2 ex2 => ?_)
  refine va_iald hx hb hK hP 1 0 rfl rfl (by rw [ex2]; exact vin_add (mod12 hh0 ex1) (by decide) (by decide) (by decide)) dX12_outside_12 ?_
  refine lv_topi (fun x3 ex3 => ?_)
  obtain rfl : 0 = x3 := (ex3.trans (hz _ (by rw [ex2]; exact cl_ne (mod12 hh0 ex1) (by decide) (by decide) (by decide)))).symm
  refine lv_istore_n (lv' := [(2, .int 0), (0, .ref h0), (1, .int h)]) hx hb dX12_outside_13 rfl hl (by decide) rfl (fun ls hl => ?_)
  refine lv_sipush (v := 1443) hx hb dX12_outside_14 (by decide) ?_
  refine lv_istore_n (lv' := [(3, .int 1443), (2, .int 0), (0, .ref h0), (1, .int h)]) hx hb dX12_outside_17 rfl hl (by decide) rfl (fun ls hl => ?_)
  refine lv_iload_n hx hb dX12_outside_18 rfl (lv_at hl 0 rfl) ?_
  refine lv_sipush (v := 1443) hx hb dX12_outside_19 (by decide) ?_
  refine lv_iconst (v := 3) hx hb dX12_outside_22 (by decide) ?_
  refine lv_aload_n hx hb dX12_outside_23 rfl (lv_at hl 2 rfl) ?_
  refine va_get (D := (dC, dI)) (ci := 15) (v := .ref (q 1)) (C := RX12) (T := TX12) (N := 78) hx hb hts bF_X12 hown hK hP 0 rfl rfl 1 (by decide) (ht_at hts 0 rfl) (fun _ h9 => h9) rfl dX12_outside_24 ?_
  refine lv_sipush (v := 1442) hx hb dX12_outside_27 (by decide) ?_
  refine va_iald hx hb hK hP 1 0 rfl rfl (by unfold vp_in; decide) dX12_outside_30 ?_
  refine lv_topi (fun x4 ex4 => ?_)
  obtain rfl : 0 = x4 := (ex4.trans (hz _ (by decide))).symm
  refine lv_imul hx hb dX12_outside_31 ?_
  refine lv_topi (fun x5 ex5 => ?_)
  obtain rfl : x5 = 0 := ex5.trans (by decide)
  refine lv_iadd hx hb dX12_outside_32 ?_
  refine lv_topi (fun x6 ex6 => ?_)
  obtain rfl : x6 = 1443 := ex6.trans (by decide)
  refine lv_icmp_ge (tgt := 78) hx hb dX12_outside_33 (by decide) (fun c7 => ?_) (fun c7 => absurd c7 (by decide))
  refine lv_iload_n hx hb dX12_outside_78 rfl (lv_at hl 1 rfl) ?_
  exact W.iret (v := 0) hx hb hr (fun t ht hW => ⟨⟨0, (), rfl, (by rfl), by rw [ht]; exact hP.sub (ws' := [(h0, .inr (15, mG q ro)), (q 1, .inl ((cm 1), 1749, .inl g))]) [0, 1] rfl, hD.sub (ws' := [(h0, .inr (15, mG q ro)), (q 1, .inl ((cm 1), 1749, .inl g))]) [0, 1] (by decide) rfl⟩, hS.F ht⟩) hS.2.2 dX12_outside_79
def w_r_telling : List Cond := .code yX12_telling cX12_telling 6 (some .int) :: ([.fieldLink RX12 9 "SeaLandModel" "world" "[I"] ++ bs)
set_option maxHeartbeats 4000000 in
set_option maxRecDepth 100000 in
theorem r_telling (l : Launch) (dC : Nat → ClassId) (dI : Nat → Nat → Nat) (h0 : Nat) (q : Nat → Nat) (cm : Nat → ClassId) (ro : Int32) (g : Nat → Int32) (cn li h : Int32) (sz : Nat) (hz : ∀ j, j ≠ 1429 → g j = 0) (hcn : vp_in cn 1749) (hce : cn.toNatClampNeg ≠ 1429) : Met l yX12_telling w_r_telling ({ frames := 0, cells := 0, slots := 0, locals := 0 }) (va_Pc [.ref h0, .int cn, .int li, .int h] (fun U => U.heap.size = sz ∧ va_P (dC, dI) vwCl [(h0, .inr (15, mG q ro)), (q 1, .inl ((cm 1), 1749, .inl g))] U.heap ∧ va_K (dC, dI) vwCl [((cm 1), .int)] U ∧ va_D (fun _ => True) [(h0, .inr (15, mG q ro)), (q 1, .inl ((cm 1), 1749, .inl g))])) (va_Qi (fun (r : Int32) (u : Unit) => r = -1) (fun (_ : Unit) (t : State) => va_P (dC, dI) vwCl [(h0, .inr (15, mG q ro)), (q 1, .inl ((cm 1), 1749, .inl g))] t.heap ∧ va_D (va_A [(h0, .inr (15, mG q ro)), (q 1, .inl ((cm 1), 1749, .inl g))] sz) [(h0, .inr (15, mG q ro)), (q 1, .inl ((cm 1), 1749, .inl g))]) (va_A [(h0, .inr (15, mG q ro)), (q 1, .inl ((cm 1), 1749, .inl g))] sz)) 0 0 (va_A [(h0, .inr (15, mG q ro)), (q 1, .inl ((cm 1), 1749, .inl g))] sz) := by
  refine Met.ofW (cc := cX12_telling) (maxL := 6) (ret := (some .int)) (by decide) rfl ?_
  intro p e s m args below meth c s₁ B hml hv
  obtain ⟨rfl, hsz, hP, hK, hD0⟩ := hv
  have hx := B.exec
  have hb := B.bytes
  have hr := B.returns
  have hts := atoms_spec (ws := w_r_telling) B.pre
  have hown : s.vm.findClass RX12 = some m.cls := findClass_of_methodNamed B.named
  have hlocks := B.notSynchronized
  subst hsz
  have hD := hD0.self (sz := s.heap.size)
  generalize hAe : va_A [(h0, .inr (15, mG q ro)), (q 1, .inl ((cm 1), 1749, .inl g))] s.heap.size = A at hD ⊢
  have hA : ∀ q : Nat, s.heap.size ≤ q → A q := fun q h => by rw [← hAe]; exact Or.inr h
  have hS : va_S A s.heap s.heap [] := va_S.rf
  have hP : va_P (dC, dI) vwCl [(h0, .inr (15, mG q ro)), (q 1, .inl ((cm 1), 1749, .inl g))] s.heap := hP
  have hl := lv_entry ([.ref h0, .int cn, .int li, .int h]) (n := 6) (Nat.le_of_ble_eq_true rfl)
  rw [lg_entry_eq]
  generalize (lg_sl ([.ref h0, .int cn, .int li, .int h]) ++ List.replicate (6 - (lg_sl ([.ref h0, .int cn, .int li, .int h])).length) Slot.unset).toArray = ls at hl ⊢
  have hl : lv_has ls 6 [(0, .ref h0), (1, .int cn), (2, .int li), (3, .int h)] := hl
  refine lv_iconst (v := (-1)) hx hb dX12_telling_0 (by decide) ?_
  refine lv_istore (lv' := [(4, .int (-1)), (0, .ref h0), (1, .int cn), (2, .int li), (3, .int h)]) hx hb dX12_telling_1 hl (by decide) rfl (fun ls hl => ?_)
  refine lv_iload_n hx hb dX12_telling_3 rfl (lv_at hl 3 rfl) ?_
  refine lv_istore (lv' := [(5, .int li), (4, .int (-1)), (0, .ref h0), (1, .int cn), (2, .int li), (3, .int h)]) hx hb dX12_telling_4 hl (by decide) rfl (fun ls hl => ?_)
  refine lv_iload hx hb dX12_telling_6 (lv_at hl 0 rfl) ?_
  refine lv_iload_n hx hb dX12_telling_8 rfl (lv_at hl 4 rfl) ?_
  refine lv_iconst (v := 2) hx hb dX12_telling_9 (by decide) ?_
  refine lv_aload_n hx hb dX12_telling_10 rfl (lv_at hl 2 rfl) ?_
  refine va_get (D := (dC, dI)) (ci := 15) (v := .ref (q 1)) (C := RX12) (T := TX12) (N := 78) hx hb hts bF_X12 hown hK hP 0 rfl rfl 1 (by decide) (ht_at hts 0 rfl) (fun _ h9 => h9) rfl dX12_telling_11 ?_
  refine lv_iload_n hx hb dX12_telling_14 rfl (lv_at hl 3 rfl) ?_
  refine va_iald hx hb hK hP 1 0 rfl rfl hcn dX12_telling_15 ?_
  refine lv_topi (fun x1 ex1 => ?_)
  obtain rfl : 0 = x1 := (ex1.trans (hz _ hce)).symm
  refine lv_imul hx hb dX12_telling_16 ?_
  refine lv_topi (fun x2 ex2 => ?_)
  obtain rfl : x2 = 0 := ex2.trans (by decide)
  refine lv_iadd hx hb dX12_telling_17 ?_
  refine lv_topi (fun x3 ex3 => ?_)
  refine lv_icmp_ge (tgt := 64) hx hb dX12_telling_18 (by decide) (fun c4 => ?_) (fun c4 => absurd (tell_le ex3) c4)
  refine lv_iload hx hb dX12_telling_64 (lv_at hl 1 rfl) ?_
  exact W.iret (v := (-1)) hx hb hr (fun t ht hW => ⟨⟨(-1), (), rfl, (by rfl), by rw [ht]; exact hP.sub (ws' := [(h0, .inr (15, mG q ro)), (q 1, .inl ((cm 1), 1749, .inl g))]) [0, 1] rfl, hD.sub (ws' := [(h0, .inr (15, mG q ro)), (q 1, .inl ((cm 1), 1749, .inl g))]) [0, 1] (by decide) rfl⟩, hS.F ht⟩) hS.2.2 dX12_telling_66
def w_r_wind : List Cond := .code yX12_wind cX12_wind 7 (some .int) :: ([.code yX12_telling cX12_telling 6 (some .int), .fieldLink RX12 9 "SeaLandModel" "world" "[I", .methodLink RX12 243 yX12_telling, .instanceMethod yX12_telling, .selects RX12 yX12_telling yX12_telling, .initialized RX12] ++ bs)
set_option maxHeartbeats 4000000 in
set_option maxRecDepth 100000 in
theorem r_wind (l : Launch) (dC : Nat → ClassId) (dI : Nat → Nat → Nat) (h0 : Nat) (q : Nat → Nat) (cm : Nat → ClassId) (ro : Int32) (g : Nat → Int32) (h : Int32) (sz : Nat) (hz : ∀ j, j ≠ 1429 → g j = 0) : Met l yX12_wind w_r_wind ({ frames := 1, cells := 0, slots := 0, locals := 25 }) (va_Pc [.ref h0, .int h] (fun U => U.heap.size = sz ∧ va_P (dC, dI) vwCl [(h0, .inr (15, mG q ro)), (q 1, .inl ((cm 1), 1749, .inl g))] U.heap ∧ va_K (dC, dI) vwCl [((cm 1), .int)] U ∧ va_D (fun _ => True) [(h0, .inr (15, mG q ro)), (q 1, .inl ((cm 1), 1749, .inl g))])) (va_Qi (fun (r : Int32) (u : Unit) => r = 0) (fun (_ : Unit) (t : State) => va_P (dC, dI) vwCl [(h0, .inr (15, mG q ro)), (q 1, .inl ((cm 1), 1749, .inl g))] t.heap ∧ va_D (va_A [(h0, .inr (15, mG q ro)), (q 1, .inl ((cm 1), 1749, .inl g))] sz) [(h0, .inr (15, mG q ro)), (q 1, .inl ((cm 1), 1749, .inl g))]) (va_A [(h0, .inr (15, mG q ro)), (q 1, .inl ((cm 1), 1749, .inl g))] sz)) 0 0 (va_A [(h0, .inr (15, mG q ro)), (q 1, .inl ((cm 1), 1749, .inl g))] sz) := by
  refine Met.ofW (cc := cX12_wind) (maxL := 7) (ret := (some .int)) (by decide) rfl ?_
  intro p e s m args below meth c s₁ B hml hv
  obtain ⟨rfl, hsz, hP, hK, hD0⟩ := hv
  have hx := B.exec
  have hb := B.bytes
  have hr := B.returns
  have hts := atoms_spec (ws := w_r_wind) B.pre
  have hown : s.vm.findClass RX12 = some m.cls := findClass_of_methodNamed B.named
  have hlocks := B.notSynchronized
  subst hsz
  have hD := hD0.self (sz := s.heap.size)
  generalize hAe : va_A [(h0, .inr (15, mG q ro)), (q 1, .inl ((cm 1), 1749, .inl g))] s.heap.size = A at hD ⊢
  have hA : ∀ q : Nat, s.heap.size ≤ q → A q := fun q h => by rw [← hAe]; exact Or.inr h
  have hS : va_S A s.heap s.heap [] := va_S.rf
  have hP : va_P (dC, dI) vwCl [(h0, .inr (15, mG q ro)), (q 1, .inl ((cm 1), 1749, .inl g))] s.heap := hP
  have hl := lv_entry ([.ref h0, .int h]) (n := 7) (Nat.le_of_ble_eq_true rfl)
  rw [lg_entry_eq]
  generalize (lg_sl ([.ref h0, .int h]) ++ List.replicate (7 - (lg_sl ([.ref h0, .int h])).length) Slot.unset).toArray = ls at hl ⊢
  have hl : lv_has ls 7 [(0, .ref h0), (1, .int h)] := hl
  refine lv_aload_n hx hb dX12_wind_0 rfl (lv_at hl 0 rfl) ?_
  refine lv_sipush (v := 1503) hx hb dX12_wind_1 (by decide) ?_
  refine lv_sipush (v := 1504) hx hb dX12_wind_4 (by decide) ?_
  refine lv_iload_n hx hb dX12_wind_7 rfl (lv_at hl 1 rfl) ?_
  have hPc := hP.sub (ws' := [(h0, .inr (15, mG q ro)), (q 1, .inl ((cm 1), 1749, .inl g))]) [0, 1] rfl
  have hDc := hD.sub (ws' := [(h0, .inr (15, mG q ro)), (q 1, .inl ((cm 1), 1749, .inl g))]) [0, 1] (by decide) rfl
  have hKc := hK.sub (tys' := [((cm 1), .int)]) [0] rfl
  have hFc := va_free (wc := [(h0, .inr (15, mG q ro)), (q 1, .inl ((cm 1), 1749, .inl g))]) hD hS hA [0, 1] rfl
  refine va_calli (va_runV (As := [.int 1503, .int 1504, .int h]) (rest := []) ⟨hx, hb, hml, hown, hts⟩ (r_telling l dC dI h0 q cm ro g 1503 1504 h s.heap.size hz (by unfold vp_in; decide) (by decide)) (cwV 3 hts (goodIn_app (goodIn_r _ [3, 4, 5, 6] (by decide +kernel) (by decide +kernel)) (goodIn_ca (goodIn_r _ [1, 2] (by decide +kernel) (by decide +kernel)) (bs_in _ _))) rfl rfl rfl (by decide +kernel) ⟨(Nat.le_of_ble_eq_true rfl), (Nat.le_of_ble_eq_true rfl)⟩) ⟨fun a U g mk q => by obtain ⟨q0, q1, qP, qK, qD⟩ := q; exact ⟨q0, q1, qP, va_K.moved (u := U) (U := U.calling g mk a) (Vm.Alike.refl U.vm) qK, qD⟩, va_recv hKc hPc (ci := 15) (q0 := 0) rfl rfl, fun U hU hW => ⟨rfl, by rw [hU], by rw [hU]; exact hPc, va_K.moved hW.alike hKc, hDc.weaken (fun _ _ _ _ => trivial)⟩⟩ rfl rfl hl.1 rfl (lv_room (Nat.le_of_ble_eq_true rfl)) dX12_wind_8 ⟨(Nat.le_of_ble_eq_true rfl), (Nat.le_of_ble_eq_true rfl)⟩) hS (fun q _ h => hFc q h) hFc (fun r2 u t H1 locs ht hvm hw3 hB hz1 hk1 hS => ?_)
  obtain ⟨hP1, hD1⟩ := hB
  rw [ht] at hP1
  obtain ⟨hP, hD⟩ := va_join (wr := []) (w1 := [(h0, .inr (15, mG q ro)), (q 1, .inl ((cm 1), 1749, .inl g))]) hP hD [0, 1] [] rfl rfl (by decide) (by decide) hk1 hFc hP1 hD1
  generalize H1 = H at hP hS ⊢
  have hP : va_P (dC, dI) vwCl [(h0, .inr (15, mG q ro)), (q 1, .inl ((cm 1), 1749, .inl g))] H := hP
  have hD : va_D A [(h0, .inr (15, mG q ro)), (q 1, .inl ((cm 1), 1749, .inl g))] := hD
  try dsimp only at hw3
  obtain rfl : (-1) = r2 := (hw3).symm
  refine lv_istore_n (lv' := [(2, .int (-1)), (0, .ref h0), (1, .int h)]) hx hb dX12_wind_11 rfl hl (by decide) rfl (fun ls hl => ?_)
  refine lv_iload_n hx hb dX12_wind_12 rfl (lv_at hl 0 rfl) ?_
  refine lv_if_ge (tgt := 18) hx hb dX12_wind_13 (by decide) (fun c4 => absurd c4 (by decide)) (fun c4 => ?_)
  refine lv_iconst (v := 0) hx hb dX12_wind_16 (by decide) ?_
  exact W.iret (v := 0) hx hb hr (fun t ht hW => ⟨⟨0, (), rfl, (by rfl), by rw [ht]; exact hP.sub (ws' := [(h0, .inr (15, mG q ro)), (q 1, .inl ((cm 1), 1749, .inl g))]) [0, 1] rfl, hD.sub (ws' := [(h0, .inr (15, mG q ro)), (q 1, .inl ((cm 1), 1749, .inl g))]) [0, 1] (by decide) rfl⟩, hS.F ht⟩) hS.2.2 dX12_wind_17
def w_r_rain : List Cond := .code yX12_rain cX12_rain 3 (some .int) :: ([.code yX12_telling cX12_telling 6 (some .int), .fieldLink RX12 9 "SeaLandModel" "world" "[I", .methodLink RX12 243 yX12_telling, .instanceMethod yX12_telling, .selects RX12 yX12_telling yX12_telling, .initialized RX12] ++ bs)
set_option maxHeartbeats 4000000 in
set_option maxRecDepth 100000 in
theorem r_rain (l : Launch) (dC : Nat → ClassId) (dI : Nat → Nat → Nat) (h0 : Nat) (q : Nat → Nat) (cm : Nat → ClassId) (ro : Int32) (g : Nat → Int32) (h : Int32) (sz : Nat) (hz : ∀ j, j ≠ 1429 → g j = 0) : Met l yX12_rain w_r_rain ({ frames := 1, cells := 0, slots := 0, locals := 25 }) (va_Pc [.ref h0, .int h] (fun U => U.heap.size = sz ∧ va_P (dC, dI) vwCl [(h0, .inr (15, mG q ro)), (q 1, .inl ((cm 1), 1749, .inl g))] U.heap ∧ va_K (dC, dI) vwCl [((cm 1), .int)] U ∧ va_D (fun _ => True) [(h0, .inr (15, mG q ro)), (q 1, .inl ((cm 1), 1749, .inl g))])) (va_Qi (fun (r : Int32) (u : Unit) => r = 0) (fun (_ : Unit) (t : State) => va_P (dC, dI) vwCl [(h0, .inr (15, mG q ro)), (q 1, .inl ((cm 1), 1749, .inl g))] t.heap ∧ va_D (va_A [(h0, .inr (15, mG q ro)), (q 1, .inl ((cm 1), 1749, .inl g))] sz) [(h0, .inr (15, mG q ro)), (q 1, .inl ((cm 1), 1749, .inl g))]) (va_A [(h0, .inr (15, mG q ro)), (q 1, .inl ((cm 1), 1749, .inl g))] sz)) 0 0 (va_A [(h0, .inr (15, mG q ro)), (q 1, .inl ((cm 1), 1749, .inl g))] sz) := by
  refine Met.ofW (cc := cX12_rain) (maxL := 3) (ret := (some .int)) (by decide) rfl ?_
  intro p e s m args below meth c s₁ B hml hv
  obtain ⟨rfl, hsz, hP, hK, hD0⟩ := hv
  have hx := B.exec
  have hb := B.bytes
  have hr := B.returns
  have hts := atoms_spec (ws := w_r_rain) B.pre
  have hown : s.vm.findClass RX12 = some m.cls := findClass_of_methodNamed B.named
  have hlocks := B.notSynchronized
  subst hsz
  have hD := hD0.self (sz := s.heap.size)
  generalize hAe : va_A [(h0, .inr (15, mG q ro)), (q 1, .inl ((cm 1), 1749, .inl g))] s.heap.size = A at hD ⊢
  have hA : ∀ q : Nat, s.heap.size ≤ q → A q := fun q h => by rw [← hAe]; exact Or.inr h
  have hS : va_S A s.heap s.heap [] := va_S.rf
  have hP : va_P (dC, dI) vwCl [(h0, .inr (15, mG q ro)), (q 1, .inl ((cm 1), 1749, .inl g))] s.heap := hP
  have hl := lv_entry ([.ref h0, .int h]) (n := 3) (Nat.le_of_ble_eq_true rfl)
  rw [lg_entry_eq]
  generalize (lg_sl ([.ref h0, .int h]) ++ List.replicate (3 - (lg_sl ([.ref h0, .int h])).length) Slot.unset).toArray = ls at hl ⊢
  have hl : lv_has ls 3 [(0, .ref h0), (1, .int h)] := hl
  refine lv_aload_n hx hb dX12_rain_0 rfl (lv_at hl 0 rfl) ?_
  refine lv_sipush (v := 1624) hx hb dX12_rain_1 (by decide) ?_
  refine lv_sipush (v := 1625) hx hb dX12_rain_4 (by decide) ?_
  refine lv_iload_n hx hb dX12_rain_7 rfl (lv_at hl 1 rfl) ?_
  have hPc := hP.sub (ws' := [(h0, .inr (15, mG q ro)), (q 1, .inl ((cm 1), 1749, .inl g))]) [0, 1] rfl
  have hDc := hD.sub (ws' := [(h0, .inr (15, mG q ro)), (q 1, .inl ((cm 1), 1749, .inl g))]) [0, 1] (by decide) rfl
  have hKc := hK.sub (tys' := [((cm 1), .int)]) [0] rfl
  have hFc := va_free (wc := [(h0, .inr (15, mG q ro)), (q 1, .inl ((cm 1), 1749, .inl g))]) hD hS hA [0, 1] rfl
  refine va_calli (va_runV (As := [.int 1624, .int 1625, .int h]) (rest := []) ⟨hx, hb, hml, hown, hts⟩ (r_telling l dC dI h0 q cm ro g 1624 1625 h s.heap.size hz (by unfold vp_in; decide) (by decide)) (cwV 3 hts (goodIn_app (goodIn_r _ [3, 4, 5, 6] (by decide +kernel) (by decide +kernel)) (goodIn_ca (goodIn_r _ [1, 2] (by decide +kernel) (by decide +kernel)) (bs_in _ _))) rfl rfl rfl (by decide +kernel) ⟨(Nat.le_of_ble_eq_true rfl), (Nat.le_of_ble_eq_true rfl)⟩) ⟨fun a U g mk q => by obtain ⟨q0, q1, qP, qK, qD⟩ := q; exact ⟨q0, q1, qP, va_K.moved (u := U) (U := U.calling g mk a) (Vm.Alike.refl U.vm) qK, qD⟩, va_recv hKc hPc (ci := 15) (q0 := 0) rfl rfl, fun U hU hW => ⟨rfl, by rw [hU], by rw [hU]; exact hPc, va_K.moved hW.alike hKc, hDc.weaken (fun _ _ _ _ => trivial)⟩⟩ rfl rfl hl.1 rfl (lv_room (Nat.le_of_ble_eq_true rfl)) dX12_rain_8 ⟨(Nat.le_of_ble_eq_true rfl), (Nat.le_of_ble_eq_true rfl)⟩) hS (fun q _ h => hFc q h) hFc (fun r2 u t H1 locs ht hvm hw3 hB hz1 hk1 hS => ?_)
  obtain ⟨hP1, hD1⟩ := hB
  rw [ht] at hP1
  obtain ⟨hP, hD⟩ := va_join (wr := []) (w1 := [(h0, .inr (15, mG q ro)), (q 1, .inl ((cm 1), 1749, .inl g))]) hP hD [0, 1] [] rfl rfl (by decide) (by decide) hk1 hFc hP1 hD1
  generalize H1 = H at hP hS ⊢
  have hP : va_P (dC, dI) vwCl [(h0, .inr (15, mG q ro)), (q 1, .inl ((cm 1), 1749, .inl g))] H := hP
  have hD : va_D A [(h0, .inr (15, mG q ro)), (q 1, .inl ((cm 1), 1749, .inl g))] := hD
  try dsimp only at hw3
  obtain rfl : (-1) = r2 := (hw3).symm
  refine lv_istore_n (lv' := [(2, .int (-1)), (0, .ref h0), (1, .int h)]) hx hb dX12_rain_11 rfl hl (by decide) rfl (fun ls hl => ?_)
  refine lv_iload_n hx hb dX12_rain_12 rfl (lv_at hl 0 rfl) ?_
  refine lv_if_ge (tgt := 20) hx hb dX12_rain_13 (by decide) (fun c4 => absurd c4 (by decide)) (fun c4 => ?_)
  refine lv_iconst (v := 0) hx hb dX12_rain_16 (by decide) ?_
  refine lv_goto (tgt := 28) hx hb dX12_rain_17 (by decide) ?_
  exact W.iret (v := 0) hx hb hr (fun t ht hW => ⟨⟨0, (), rfl, (by rfl), by rw [ht]; exact hP.sub (ws' := [(h0, .inr (15, mG q ro)), (q 1, .inl ((cm 1), 1749, .inl g))]) [0, 1] rfl, hD.sub (ws' := [(h0, .inr (15, mG q ro)), (q 1, .inl ((cm 1), 1749, .inl g))]) [0, 1] (by decide) rfl⟩, hS.F ht⟩) hS.2.2 dX12_rain_28
def w_r_hasDitch : List Cond := .code yX12_hasDitch cX12_hasDitch 2 (some .boolean) :: ([.code yX12_isLand cX12_isLand 2 (some .boolean), .fieldLink RX12 9 "SeaLandModel" "world" "[I", .methodLink RX12 235 yX12_isLand, .instanceMethod yX12_isLand, .selects RX12 yX12_isLand yX12_isLand, .initialized RX12] ++ bs)
set_option maxHeartbeats 4000000 in
set_option maxRecDepth 100000 in
theorem r_hasDitch (l : Launch) (dC : Nat → ClassId) (dI : Nat → Nat → Nat) (h0 : Nat) (q : Nat → Nat) (cm : Nat → ClassId) (ro : Int32) (g : Nat → Int32) (sq : Int32) (sz : Nat) (hz : ∀ j, j ≠ 1429 → g j = 0) (hsq : 0 ≤ sq ∧ sq ≤ 95) : Met l yX12_hasDitch w_r_hasDitch ({ frames := 1, cells := 0, slots := 0, locals := 21 }) (va_Pc [.ref h0, .int sq] (fun U => U.heap.size = sz ∧ va_P (dC, dI) vwCl [(h0, .inr (15, mG q ro)), (q 1, .inl ((cm 1), 1749, .inl g))] U.heap ∧ va_K (dC, dI) vwCl [((cm 1), .int)] U ∧ va_D (fun _ => True) [(h0, .inr (15, mG q ro)), (q 1, .inl ((cm 1), 1749, .inl g))])) (va_Qi (fun (r : Int32) (u : Unit) => r = 0) (fun (_ : Unit) (t : State) => va_P (dC, dI) vwCl [(h0, .inr (15, mG q ro)), (q 1, .inl ((cm 1), 1749, .inl g))] t.heap ∧ va_D (va_A [(h0, .inr (15, mG q ro)), (q 1, .inl ((cm 1), 1749, .inl g))] sz) [(h0, .inr (15, mG q ro)), (q 1, .inl ((cm 1), 1749, .inl g))]) (va_A [(h0, .inr (15, mG q ro)), (q 1, .inl ((cm 1), 1749, .inl g))] sz)) 0 0 (va_A [(h0, .inr (15, mG q ro)), (q 1, .inl ((cm 1), 1749, .inl g))] sz) := by
  refine Met.ofW (cc := cX12_hasDitch) (maxL := 2) (ret := (some .boolean)) (by decide) rfl ?_
  intro p e s m args below meth c s₁ B hml hv
  obtain ⟨rfl, hsz, hP, hK, hD0⟩ := hv
  have hx := B.exec
  have hb := B.bytes
  have hr := B.returns
  have hts := atoms_spec (ws := w_r_hasDitch) B.pre
  have hown : s.vm.findClass RX12 = some m.cls := findClass_of_methodNamed B.named
  have hlocks := B.notSynchronized
  subst hsz
  have hD := hD0.self (sz := s.heap.size)
  generalize hAe : va_A [(h0, .inr (15, mG q ro)), (q 1, .inl ((cm 1), 1749, .inl g))] s.heap.size = A at hD ⊢
  have hA : ∀ q : Nat, s.heap.size ≤ q → A q := fun q h => by rw [← hAe]; exact Or.inr h
  have hS : va_S A s.heap s.heap [] := va_S.rf
  have hP : va_P (dC, dI) vwCl [(h0, .inr (15, mG q ro)), (q 1, .inl ((cm 1), 1749, .inl g))] s.heap := hP
  have hl := lv_entry ([.ref h0, .int sq]) (n := 2) (Nat.le_of_ble_eq_true rfl)
  rw [lg_entry_eq]
  generalize (lg_sl ([.ref h0, .int sq]) ++ List.replicate (2 - (lg_sl ([.ref h0, .int sq])).length) Slot.unset).toArray = ls at hl ⊢
  have hl : lv_has ls 2 [(0, .ref h0), (1, .int sq)] := hl
  refine lv_aload_n hx hb dX12_hasDitch_0 rfl (lv_at hl 0 rfl) ?_
  refine lv_iload_n hx hb dX12_hasDitch_1 rfl (lv_at hl 1 rfl) ?_
  have hPc := hP.sub (ws' := [(h0, .inr (15, mG q ro)), (q 1, .inl ((cm 1), 1749, .inl g))]) [0, 1] rfl
  have hDc := hD.sub (ws' := [(h0, .inr (15, mG q ro)), (q 1, .inl ((cm 1), 1749, .inl g))]) [0, 1] (by decide) rfl
  have hKc := hK.sub (tys' := [((cm 1), .int)]) [0] rfl
  have hFc := va_free (wc := [(h0, .inr (15, mG q ro)), (q 1, .inl ((cm 1), 1749, .inl g))]) hD hS hA [0, 1] rfl
  refine va_calli (va_runV (As := [.int sq]) (rest := []) ⟨hx, hb, hml, hown, hts⟩ (r_isLand l dC dI h0 q cm ro g sq s.heap.size hz hsq) (cwV 1 hts (goodIn_app (goodIn_r _ [3, 4, 5, 6] (by decide +kernel) (by decide +kernel)) (goodIn_ca (goodIn_r _ [1, 2] (by decide +kernel) (by decide +kernel)) (bs_in _ _))) rfl rfl rfl (by decide +kernel) ⟨(Nat.le_of_ble_eq_true rfl), (Nat.le_of_ble_eq_true rfl)⟩) ⟨fun a U g mk q => by obtain ⟨q0, q1, qP, qK, qD⟩ := q; exact ⟨q0, q1, qP, va_K.moved (u := U) (U := U.calling g mk a) (Vm.Alike.refl U.vm) qK, qD⟩, va_recv hKc hPc (ci := 15) (q0 := 0) rfl rfl, fun U hU hW => ⟨rfl, by rw [hU], by rw [hU]; exact hPc, va_K.moved hW.alike hKc, hDc.weaken (fun _ _ _ _ => trivial)⟩⟩ rfl rfl hl.1 rfl (lv_room (Nat.le_of_ble_eq_true rfl)) dX12_hasDitch_2 ⟨(Nat.le_of_ble_eq_true rfl), (Nat.le_of_ble_eq_true rfl)⟩) hS (fun q _ h => hFc q h) hFc (fun r2 u t H1 locs ht hvm hw3 hB hz1 hk1 hS => ?_)
  obtain ⟨hP1, hD1⟩ := hB
  rw [ht] at hP1
  obtain ⟨hP, hD⟩ := va_join (wr := []) (w1 := [(h0, .inr (15, mG q ro)), (q 1, .inl ((cm 1), 1749, .inl g))]) hP hD [0, 1] [] rfl rfl (by decide) (by decide) hk1 hFc hP1 hD1
  generalize H1 = H at hP hS ⊢
  have hP : va_P (dC, dI) vwCl [(h0, .inr (15, mG q ro)), (q 1, .inl ((cm 1), 1749, .inl g))] H := hP
  have hD : va_D A [(h0, .inr (15, mG q ro)), (q 1, .inl ((cm 1), 1749, .inl g))] := hD
  try dsimp only at hw3
  obtain rfl : 0 = r2 := (hw3).symm
  refine lv_if_eq (tgt := 25) hx hb dX12_hasDitch_5 (by decide) (fun c4 => ?_) (fun c4 => absurd c4 (by decide))
  refine lv_iconst (v := 0) hx hb dX12_hasDitch_25 (by decide) ?_
  exact W.zret (v := 0) hx hb hr (by decide) (fun t ht hW => ⟨⟨0, (), rfl, (by rfl), by rw [ht]; exact hP.sub (ws' := [(h0, .inr (15, mG q ro)), (q 1, .inl ((cm 1), 1749, .inl g))]) [0, 1] rfl, hD.sub (ws' := [(h0, .inr (15, mG q ro)), (q 1, .inl ((cm 1), 1749, .inl g))]) [0, 1] (by decide) rfl⟩, hS.F ht⟩) hS.2.2 dX12_hasDitch_26
def w_r_level : List Cond := .code yX12_level cX12_level 2 (some .int) :: ([.code yX12_isLand cX12_isLand 2 (some .boolean), .fieldLink RX12 9 "SeaLandModel" "world" "[I", .methodLink RX12 235 yX12_isLand, .instanceMethod yX12_isLand, .selects RX12 yX12_isLand yX12_isLand, .initialized RX12, .code yX12_hour cX12_hour 1 (some .int), .methodLink RX12 228 yX12_hour, .instanceMethod yX12_hour, .selects RX12 yX12_hour yX12_hour, .code yX12_outside cX12_outside 4 (some .int), .methodLink RX12 247 yX12_outside, .instanceMethod yX12_outside, .selects RX12 yX12_outside yX12_outside] ++ bs)
set_option maxHeartbeats 4000000 in
set_option maxRecDepth 100000 in
theorem r_level (l : Launch) (dC : Nat → ClassId) (dI : Nat → Nat → Nat) (h0 : Nat) (q : Nat → Nat) (cm : Nat → ClassId) (ro : Int32) (g : Nat → Int32) (sq v : Int32) (sz : Nat) (hz : ∀ j, j ≠ 1429 → g j = 0) (hsq : 0 ≤ sq ∧ sq ≤ 95) (hv : g 1429 = v) (hv0 : 0 ≤ v) : Met l yX12_level w_r_level ({ frames := 1, cells := 0, slots := 0, locals := 23 }) (va_Pc [.ref h0, .int sq] (fun U => U.heap.size = sz ∧ va_P (dC, dI) vwCl [(h0, .inr (15, mG q ro)), (q 1, .inl ((cm 1), 1749, .inl g))] U.heap ∧ va_K (dC, dI) vwCl [((cm 1), .int)] U ∧ va_D (fun _ => True) [(h0, .inr (15, mG q ro)), (q 1, .inl ((cm 1), 1749, .inl g))])) (va_Qi (fun (r : Int32) (u : Unit) => r = 0) (fun (_ : Unit) (t : State) => va_P (dC, dI) vwCl [(h0, .inr (15, mG q ro)), (q 1, .inl ((cm 1), 1749, .inl g))] t.heap ∧ va_D (va_A [(h0, .inr (15, mG q ro)), (q 1, .inl ((cm 1), 1749, .inl g))] sz) [(h0, .inr (15, mG q ro)), (q 1, .inl ((cm 1), 1749, .inl g))]) (va_A [(h0, .inr (15, mG q ro)), (q 1, .inl ((cm 1), 1749, .inl g))] sz)) 0 0 (va_A [(h0, .inr (15, mG q ro)), (q 1, .inl ((cm 1), 1749, .inl g))] sz) := by
  refine Met.ofW (cc := cX12_level) (maxL := 2) (ret := (some .int)) (by decide) rfl ?_
  intro p e s m args below meth c s₁ B hml hv
  obtain ⟨rfl, hsz, hP, hK, hD0⟩ := hv
  have hx := B.exec
  have hb := B.bytes
  have hr := B.returns
  have hts := atoms_spec (ws := w_r_level) B.pre
  have hown : s.vm.findClass RX12 = some m.cls := findClass_of_methodNamed B.named
  have hlocks := B.notSynchronized
  subst hsz
  have hD := hD0.self (sz := s.heap.size)
  generalize hAe : va_A [(h0, .inr (15, mG q ro)), (q 1, .inl ((cm 1), 1749, .inl g))] s.heap.size = A at hD ⊢
  have hA : ∀ q : Nat, s.heap.size ≤ q → A q := fun q h => by rw [← hAe]; exact Or.inr h
  have hS : va_S A s.heap s.heap [] := va_S.rf
  have hP : va_P (dC, dI) vwCl [(h0, .inr (15, mG q ro)), (q 1, .inl ((cm 1), 1749, .inl g))] s.heap := hP
  have hl := lv_entry ([.ref h0, .int sq]) (n := 2) (Nat.le_of_ble_eq_true rfl)
  rw [lg_entry_eq]
  generalize (lg_sl ([.ref h0, .int sq]) ++ List.replicate (2 - (lg_sl ([.ref h0, .int sq])).length) Slot.unset).toArray = ls at hl ⊢
  have hl : lv_has ls 2 [(0, .ref h0), (1, .int sq)] := hl
  refine lv_aload_n hx hb dX12_level_0 rfl (lv_at hl 0 rfl) ?_
  refine lv_iload_n hx hb dX12_level_1 rfl (lv_at hl 1 rfl) ?_
  have hPc := hP.sub (ws' := [(h0, .inr (15, mG q ro)), (q 1, .inl ((cm 1), 1749, .inl g))]) [0, 1] rfl
  have hDc := hD.sub (ws' := [(h0, .inr (15, mG q ro)), (q 1, .inl ((cm 1), 1749, .inl g))]) [0, 1] (by decide) rfl
  have hKc := hK.sub (tys' := [((cm 1), .int)]) [0] rfl
  have hFc := va_free (wc := [(h0, .inr (15, mG q ro)), (q 1, .inl ((cm 1), 1749, .inl g))]) hD hS hA [0, 1] rfl
  refine va_calli (va_runV (As := [.int sq]) (rest := []) ⟨hx, hb, hml, hown, hts⟩ (r_isLand l dC dI h0 q cm ro g sq s.heap.size hz hsq) (cwV 1 hts (goodIn_app (goodIn_r _ [3, 4, 5, 6] (by decide +kernel) (by decide +kernel)) (goodIn_ca (goodIn_r _ [1, 2] (by decide +kernel) (by decide +kernel)) (bs_in _ _))) rfl rfl rfl (by decide +kernel) ⟨(Nat.le_of_ble_eq_true rfl), (Nat.le_of_ble_eq_true rfl)⟩) ⟨fun a U g mk q => by obtain ⟨q0, q1, qP, qK, qD⟩ := q; exact ⟨q0, q1, qP, va_K.moved (u := U) (U := U.calling g mk a) (Vm.Alike.refl U.vm) qK, qD⟩, va_recv hKc hPc (ci := 15) (q0 := 0) rfl rfl, fun U hU hW => ⟨rfl, by rw [hU], by rw [hU]; exact hPc, va_K.moved hW.alike hKc, hDc.weaken (fun _ _ _ _ => trivial)⟩⟩ rfl rfl hl.1 rfl (lv_room (Nat.le_of_ble_eq_true rfl)) dX12_level_2 ⟨(Nat.le_of_ble_eq_true rfl), (Nat.le_of_ble_eq_true rfl)⟩) hS (fun q _ h => hFc q h) hFc (fun r2 u t H1 locs ht hvm hw3 hB hz1 hk1 hS => ?_)
  obtain ⟨hP1, hD1⟩ := hB
  rw [ht] at hP1
  obtain ⟨hP, hD⟩ := va_join (wr := []) (w1 := [(h0, .inr (15, mG q ro)), (q 1, .inl ((cm 1), 1749, .inl g))]) hP hD [0, 1] [] rfl rfl (by decide) (by decide) hk1 hFc hP1 hD1
  generalize H1 = H at hP hS ⊢
  have hP : va_P (dC, dI) vwCl [(h0, .inr (15, mG q ro)), (q 1, .inl ((cm 1), 1749, .inl g))] H := hP
  have hD : va_D A [(h0, .inr (15, mG q ro)), (q 1, .inl ((cm 1), 1749, .inl g))] := hD
  try dsimp only at hw3
  obtain rfl : 0 = r2 := (hw3).symm
  refine lv_if_eq (tgt := 31) hx hb dX12_level_5 (by decide) (fun c4 => ?_) (fun c4 => absurd c4 (by decide))
  refine lv_aload_n hx hb dX12_level_31 rfl (lv_at hl 0 rfl) ?_
  refine lv_aload_n hx hb dX12_level_32 rfl (lv_at hl 0 rfl) ?_
  have hPc := hP.sub (ws' := [(h0, .inr (15, mG q ro)), (q 1, .inl ((cm 1), 1749, .inl g))]) [0, 1] rfl
  have hDc := hD.sub (ws' := [(h0, .inr (15, mG q ro)), (q 1, .inl ((cm 1), 1749, .inl g))]) [0, 1] (by decide) rfl
  have hKc := hK.sub (tys' := [((cm 1), .int)]) [0] rfl
  have hFc := va_free (wc := [(h0, .inr (15, mG q ro)), (q 1, .inl ((cm 1), 1749, .inl g))]) hD hS hA [0, 1] rfl
  refine va_calli (va_runV (As := []) (rest := [.ref h0]) ⟨hx, hb, hml, hown, hts⟩ (r_hour l dC dI h0 q cm ro g v H.size hv) (cwV 0 hts (goodIn_app (goodIn_r _ [8, 9, 10, 6] (by decide +kernel) (by decide +kernel)) (goodIn_ca (goodIn_r _ [7, 2] (by decide +kernel) (by decide +kernel)) (bs_in _ _))) rfl rfl rfl (by decide +kernel) ⟨(Nat.le_of_ble_eq_true rfl), (Nat.le_of_ble_eq_true rfl)⟩) ⟨fun a U g mk q => by obtain ⟨q0, q1, qP, qK, qD⟩ := q; exact ⟨q0, q1, qP, va_K.moved (u := U) (U := U.calling g mk a) (Vm.Alike.refl U.vm) qK, qD⟩, va_recv hKc hPc (ci := 15) (q0 := 0) rfl rfl, fun U hU hW => ⟨rfl, by rw [hU], by rw [hU]; exact hPc, va_K.moved hW.alike hKc, hDc.weaken (fun _ _ _ _ => trivial)⟩⟩ rfl rfl hl.1 rfl (lv_room (Nat.le_of_ble_eq_true rfl)) dX12_level_33 ⟨(Nat.le_of_ble_eq_true rfl), (Nat.le_of_ble_eq_true rfl)⟩) hS (fun q _ h => hFc q h) hFc (fun r6 u t H1 locs ht hvm hw7 hB hz1 hk1 hS => ?_)
  obtain ⟨hP1, hD1⟩ := hB
  rw [ht] at hP1
  obtain ⟨hP, hD⟩ := va_join (wr := []) (w1 := [(h0, .inr (15, mG q ro)), (q 1, .inl ((cm 1), 1749, .inl g))]) hP hD [0, 1] [] rfl rfl (by decide) (by decide) hk1 hFc hP1 hD1
  generalize H1 = H at hP hS ⊢
  have hP : va_P (dC, dI) vwCl [(h0, .inr (15, mG q ro)), (q 1, .inl ((cm 1), 1749, .inl g))] H := hP
  have hD : va_D A [(h0, .inr (15, mG q ro)), (q 1, .inl ((cm 1), 1749, .inl g))] := hD
  try dsimp only at hw7
  obtain rfl : v = r6 := (hw7).symm
  have hPc := hP.sub (ws' := [(h0, .inr (15, mG q ro)), (q 1, .inl ((cm 1), 1749, .inl g))]) [0, 1] rfl
  have hDc := hD.sub (ws' := [(h0, .inr (15, mG q ro)), (q 1, .inl ((cm 1), 1749, .inl g))]) [0, 1] (by decide) rfl
  have hKc := hK.sub (tys' := [((cm 1), .int)]) [0] rfl
  have hFc := va_free (wc := [(h0, .inr (15, mG q ro)), (q 1, .inl ((cm 1), 1749, .inl g))]) hD hS hA [0, 1] rfl
  refine va_calli (va_runV (As := [.int v]) (rest := []) ⟨hx, hb, hml, hown, hts⟩ (r_outside l dC dI h0 q cm ro g v H.size hz hv0) (cwV 1 hts (goodIn_app (goodIn_r _ [12, 13, 14, 6] (by decide +kernel) (by decide +kernel)) (goodIn_ca (goodIn_r _ [11, 2] (by decide +kernel) (by decide +kernel)) (bs_in _ _))) rfl rfl rfl (by decide +kernel) ⟨(Nat.le_of_ble_eq_true rfl), (Nat.le_of_ble_eq_true rfl)⟩) ⟨fun a U g mk q => by obtain ⟨q0, q1, qP, qK, qD⟩ := q; exact ⟨q0, q1, qP, va_K.moved (u := U) (U := U.calling g mk a) (Vm.Alike.refl U.vm) qK, qD⟩, va_recv hKc hPc (ci := 15) (q0 := 0) rfl rfl, fun U hU hW => ⟨rfl, by rw [hU], by rw [hU]; exact hPc, va_K.moved hW.alike hKc, hDc.weaken (fun _ _ _ _ => trivial)⟩⟩ rfl rfl hl.1 rfl (lv_room (Nat.le_of_ble_eq_true rfl)) dX12_level_36 ⟨(Nat.le_of_ble_eq_true rfl), (Nat.le_of_ble_eq_true rfl)⟩) hS (fun q _ h => hFc q h) hFc (fun r9 u t H1 locs ht hvm hw10 hB hz1 hk1 hS => ?_)
  obtain ⟨hP1, hD1⟩ := hB
  rw [ht] at hP1
  obtain ⟨hP, hD⟩ := va_join (wr := []) (w1 := [(h0, .inr (15, mG q ro)), (q 1, .inl ((cm 1), 1749, .inl g))]) hP hD [0, 1] [] rfl rfl (by decide) (by decide) hk1 hFc hP1 hD1
  generalize H1 = H at hP hS ⊢
  have hP : va_P (dC, dI) vwCl [(h0, .inr (15, mG q ro)), (q 1, .inl ((cm 1), 1749, .inl g))] H := hP
  have hD : va_D A [(h0, .inr (15, mG q ro)), (q 1, .inl ((cm 1), 1749, .inl g))] := hD
  try dsimp only at hw10
  obtain rfl : 0 = r9 := (hw10).symm
  exact W.iret (v := 0) hx hb hr (fun t ht hW => ⟨⟨0, (), rfl, (by rfl), by rw [ht]; exact hP.sub (ws' := [(h0, .inr (15, mG q ro)), (q 1, .inl ((cm 1), 1749, .inl g))]) [0, 1] rfl, hD.sub (ws' := [(h0, .inr (15, mG q ro)), (q 1, .inl ((cm 1), 1749, .inl g))]) [0, 1] (by decide) rfl⟩, hS.F ht⟩) hS.2.2 dX12_level_39
def w_r_ditches : List Cond := .code yX12_ditches cX12_ditches 5 none :: ([.fieldLink RX12 16 "SeaLandModel" "moves" "[I", .code yX12_hasDitch cX12_hasDitch 2 (some .boolean), .code yX12_isLand cX12_isLand 2 (some .boolean), .fieldLink RX12 9 "SeaLandModel" "world" "[I", .methodLink RX12 235 yX12_isLand, .instanceMethod yX12_isLand, .selects RX12 yX12_isLand yX12_isLand, .initialized RX12, .methodLink RX12 298 yX12_hasDitch, .instanceMethod yX12_hasDitch, .selects RX12 yX12_hasDitch yX12_hasDitch] ++ bs)
set_option maxHeartbeats 4000000 in
set_option maxRecDepth 100000 in
theorem r_ditches (l : Launch) (dC : Nat → ClassId) (dI : Nat → Nat → Nat) (h0 : Nat) (q : Nat → Nat) (cm : Nat → ClassId) (ro : Int32) (g : Nat → Int32) (mv : Nat → Int32) (sz : Nat) (hz : ∀ j, j ≠ 1429 → g j = 0) (hm : ∀ j, mv j = 0) : Met l yX12_ditches w_r_ditches ({ frames := 2, cells := 0, slots := 0, locals := 42 }) (va_Pc [.ref h0] (fun U => U.heap.size = sz ∧ va_P (dC, dI) vwCl [(h0, .inr (15, mG q ro)), (q 1, .inl ((cm 1), 1749, .inl g)), (q 4, .inl ((cm 4), 96, .inl mv))] U.heap ∧ va_K (dC, dI) vwCl [((cm 1), .int), ((cm 4), .int)] U ∧ va_D (fun _ => True) [(h0, .inr (15, mG q ro)), (q 1, .inl ((cm 1), 1749, .inl g)), (q 4, .inl ((cm 4), 96, .inl mv))])) (va_Qv (fun (u : Nat → Int32) => ∀ j, u j = 0) (fun (mw : Nat → Int32) (t : State) => va_P (dC, dI) vwCl [(h0, .inr (15, mG q ro)), (q 1, .inl ((cm 1), 1749, .inl g)), (q 4, .inl ((cm 4), 96, .inl mw))] t.heap ∧ va_D (va_A [(h0, .inr (15, mG q ro)), (q 1, .inl ((cm 1), 1749, .inl g)), (q 4, .inl ((cm 4), 96, .inl mv))] sz) [(h0, .inr (15, mG q ro)), (q 1, .inl ((cm 1), 1749, .inl g)), (q 4, .inl ((cm 4), 96, .inl mw))]) (va_A [(h0, .inr (15, mG q ro)), (q 1, .inl ((cm 1), 1749, .inl g)), (q 4, .inl ((cm 4), 96, .inl mv))] sz)) 0 0 (va_A [(h0, .inr (15, mG q ro)), (q 1, .inl ((cm 1), 1749, .inl g)), (q 4, .inl ((cm 4), 96, .inl mv))] sz) := by
  refine Met.ofW (cc := cX12_ditches) (maxL := 5) (ret := none) (by decide) rfl ?_
  intro p e s m args below meth c s₁ B hml hv
  obtain ⟨rfl, hsz, hP, hK, hD0⟩ := hv
  have hx := B.exec
  have hb := B.bytes
  have hr := B.returns
  have hts := atoms_spec (ws := w_r_ditches) B.pre
  have hown : s.vm.findClass RX12 = some m.cls := findClass_of_methodNamed B.named
  have hlocks := B.notSynchronized
  subst hsz
  have hD := hD0.self (sz := s.heap.size)
  generalize hAe : va_A [(h0, .inr (15, mG q ro)), (q 1, .inl ((cm 1), 1749, .inl g)), (q 4, .inl ((cm 4), 96, .inl mv))] s.heap.size = A at hD ⊢
  have hA : ∀ q : Nat, s.heap.size ≤ q → A q := fun q h => by rw [← hAe]; exact Or.inr h
  have hS : va_S A s.heap s.heap [] := va_S.rf
  have hP : va_P (dC, dI) vwCl [(h0, .inr (15, mG q ro)), (q 1, .inl ((cm 1), 1749, .inl g)), (q 4, .inl ((cm 4), 96, .inl mv))] s.heap := hP
  have hl := lv_entry ([.ref h0]) (n := 5) (Nat.le_of_ble_eq_true rfl)
  rw [lg_entry_eq]
  generalize (lg_sl ([.ref h0]) ++ List.replicate (5 - (lg_sl ([.ref h0])).length) Slot.unset).toArray = ls at hl ⊢
  have hl : lv_has ls 5 [(0, .ref h0)] := hl
  refine lv_iconst (v := 0) hx hb dX12_ditches_0 (by decide) ?_
  refine lv_istore_n (lv' := [(1, .int 0), (0, .ref h0)]) hx hb dX12_ditches_1 rfl hl (by decide) rfl (fun ls hl => ?_)
  have key1 : ∀ (n1 i : Nat), i + n1 = 96 → ∀ (f : Nat → Int32), ∀ (hg : ∀ j, f j = 0), ∀ (H : Heap) (locs : List Loc), va_P (dC, dI) vwCl [(h0, .inr (15, mG q ro)), (q 1, .inl ((cm 1), 1749, .inl g)), (q 4, .inl ((cm 4), 96, .inl f))] H → va_D A [(h0, .inr (15, mG q ro)), (q 1, .inl ((cm 1), 1749, .inl g)), (q 4, .inl ((cm 4), 96, .inl f))] → va_S A s.heap H locs → ∀ ls : Array Slot, lv_has ls 5 [(1, .int (nI i)), (0, .ref h0)] → W p l e (headSpec w_r_ditches ({ frames := 2, cells := 0, slots := 0, locals := 42 })).room s m #[.ref h0] below meth c H locs 0 0 (MQ below (va_Qv (fun (u : Nat → Int32) => ∀ j, u j = 0) (fun (mw : Nat → Int32) (t : State) => va_P (dC, dI) vwCl [(h0, .inr (15, mG q ro)), (q 1, .inl ((cm 1), 1749, .inl g)), (q 4, .inl ((cm 4), 96, .inl mw))] t.heap ∧ va_D A [(h0, .inr (15, mG q ro)), (q 1, .inl ((cm 1), 1749, .inl g)), (q 4, .inl ((cm 4), 96, .inl mw))]) A) #[.ref h0] s 0 0 A) (F0 m 2 ls []) := by
    intro n1
    induction n1 with
    | zero =>
      intro i hn1 f hg H locs hP hD hS ls hl
      obtain rfl : 96 = i := by omega
      refine lv_iload_n hx hb dX12_ditches_2 rfl (lv_at hl 0 rfl) ?_
      refine lv_bipush (v := 96) hx hb dX12_ditches_3 (by decide) ?_
      refine lv_icmp_ge (tgt := 215) hx hb dX12_ditches_5 (by decide) (fun c2 => ?_) (fun c2 => absurd c2 (by decide))
      refine lv_iconst (v := 0) hx hb dX12_ditches_215 (by decide) ?_
      refine lv_istore_n (lv' := [(1, .int 0), (0, .ref h0)]) hx hb dX12_ditches_216 rfl hl (by decide) rfl (fun ls hl => ?_)
      have key3 : ∀ (n3 i : Nat), i + n3 = 96 → ∀ (H : Heap) (locs : List Loc), va_P (dC, dI) vwCl [(h0, .inr (15, mG q ro)), (q 1, .inl ((cm 1), 1749, .inl g)), (q 4, .inl ((cm 4), 96, .inl f))] H → va_D A [(h0, .inr (15, mG q ro)), (q 1, .inl ((cm 1), 1749, .inl g)), (q 4, .inl ((cm 4), 96, .inl f))] → va_S A s.heap H locs → ∀ ls : Array Slot, lv_has ls 5 [(1, .int (nI i)), (0, .ref h0)] → W p l e (headSpec w_r_ditches ({ frames := 2, cells := 0, slots := 0, locals := 42 })).room s m #[.ref h0] below meth c H locs 0 0 (MQ below (va_Qv (fun (u : Nat → Int32) => ∀ j, u j = 0) (fun (mw : Nat → Int32) (t : State) => va_P (dC, dI) vwCl [(h0, .inr (15, mG q ro)), (q 1, .inl ((cm 1), 1749, .inl g)), (q 4, .inl ((cm 4), 96, .inl mw))] t.heap ∧ va_D A [(h0, .inr (15, mG q ro)), (q 1, .inl ((cm 1), 1749, .inl g)), (q 4, .inl ((cm 4), 96, .inl mw))]) A) #[.ref h0] s 0 0 A) (F0 m 217 ls []) := by
        intro n3
        induction n3 with
        | zero =>
          intro i hn3 H locs hP hD hS ls hl
          obtain rfl : 96 = i := by omega
          refine lv_iload_n hx hb dX12_ditches_217 rfl (lv_at hl 0 rfl) ?_
          refine lv_bipush (v := 96) hx hb dX12_ditches_218 (by decide) ?_
          refine lv_icmp_ge (tgt := 327) hx hb dX12_ditches_220 (by decide) (fun c4 => ?_) (fun c4 => absurd c4 (by decide))
          exact W.vret hx hb hr (fun t ht hW => ⟨⟨f, rfl, (by exact hg), by rw [ht]; exact hP.sub (ws' := [(h0, .inr (15, mG q ro)), (q 1, .inl ((cm 1), 1749, .inl g)), (q 4, .inl ((cm 4), 96, .inl f))]) [0, 1, 2] rfl, hD.sub (ws' := [(h0, .inr (15, mG q ro)), (q 1, .inl ((cm 1), 1749, .inl g)), (q 4, .inl ((cm 4), 96, .inl f))]) [0, 1, 2] (by decide) rfl⟩, hS.F ht⟩) hS.2.2 dX12_ditches_327
        | succ n3 ih3 =>
          intro i hn3 H locs hP hD hS ls hl
          have hlt5 : i < 96 := by omega
          refine lv_iload_n hx hb dX12_ditches_217 rfl (lv_at hl 0 rfl) ?_
          refine lv_bipush (v := 96) hx hb dX12_ditches_218 (by decide) ?_
          refine lv_icmp_ge (tgt := 327) hx hb dX12_ditches_220 (by decide) (fun c6 => absurd c6 (nI_ge (b := 96) hlt5 (by decide))) (fun c6 => ?_)
          refine lv_aload_n hx hb dX12_ditches_223 rfl (lv_at hl 1 rfl) ?_
          refine va_get (D := (dC, dI)) (ci := 15) (v := .ref (q 4)) (C := RX12) (T := TX12) (N := 78) hx hb hts bF_X12 hown hK hP 0 rfl rfl 4 (by decide) (ht_at hts 0 rfl) (fun _ h9 => h9) rfl dX12_ditches_224 ?_
          refine lv_iload_n hx hb dX12_ditches_227 rfl (lv_at hl 0 rfl) ?_
          refine va_iald hx hb hK hP 2 1 rfl rfl (vp_in_nI (Nat.lt_of_lt_of_le hlt5 (by decide)) (by decide)) dX12_ditches_228 ?_
          refine lv_topi (fun x7 ex7 => ?_)
          obtain rfl : 0 = x7 := (ex7.trans (hg _)).symm
          refine lv_if_ne (tgt := 235) hx hb dX12_ditches_229 (by decide) (fun c8 => absurd c8 (by decide)) (fun c8 => ?_)
          refine lv_goto (tgt := 321) hx hb dX12_ditches_232 (by decide) ?_
          obtain ⟨x9, ex9⟩ : ∃ y : Int32, y = (nI i) + 1 := ⟨_, rfl⟩
          refine lv_iinc (v := x9) (lv' := [(1, .int x9), (0, .ref h0)]) hx hb dX12_ditches_321 hl (k := 0) rfl (by rw [ex9]; rfl) (by decide) rfl (fun ls hl => ?_)
          refine lv_goto (tgt := 217) hx hb dX12_ditches_324 (by decide) ?_
          obtain rfl : x9 = nI (i + 1) := ex9.trans (nI_1 i)
          exact ih3 (i + 1) (by omega) _ _ (hP.sub [0, 1, 2] rfl) (hD.sub [0, 1, 2] (by decide) rfl) hS ls (lv_sub hl [0, 1] rfl)
      exact key3 96 0 (by decide) _ _ (hP.sub [0, 1, 2] rfl) (hD.sub [0, 1, 2] (by decide) rfl) hS ls (lv_sub hl [0, 1] rfl)
    | succ n1 ih1 =>
      intro i hn1 f hg H locs hP hD hS ls hl
      have hlt10 : i < 96 := by omega
      refine lv_iload_n hx hb dX12_ditches_2 rfl (lv_at hl 0 rfl) ?_
      refine lv_bipush (v := 96) hx hb dX12_ditches_3 (by decide) ?_
      refine lv_icmp_ge (tgt := 215) hx hb dX12_ditches_5 (by decide) (fun c11 => absurd c11 (nI_ge (b := 96) hlt10 (by decide))) (fun c11 => ?_)
      refine lv_aload_n hx hb dX12_ditches_8 rfl (lv_at hl 1 rfl) ?_
      refine va_get (D := (dC, dI)) (ci := 15) (v := .ref (q 4)) (C := RX12) (T := TX12) (N := 78) hx hb hts bF_X12 hown hK hP 0 rfl rfl 4 (by decide) (ht_at hts 0 rfl) (fun _ h9 => h9) rfl dX12_ditches_9 ?_
      refine lv_iload_n hx hb dX12_ditches_12 rfl (lv_at hl 0 rfl) ?_
      refine lv_iconst (v := 0) hx hb dX12_ditches_13 (by decide) ?_
      refine va_iast hx hb hK hP hD hS 2 1 rfl rfl (vp_in_nI (Nat.lt_of_lt_of_le hlt10 (by decide)) (by decide)) dX12_ditches_14 (fun H locs hP hD hS => ?_)
      have hP : va_P (dC, dI) vwCl [(h0, .inr (15, mG q ro)), (q 1, .inl ((cm 1), 1749, .inl g)), (q 4, .inl ((cm 4), 96, .inl (upd f (nI i).toNatClampNeg 0)))] H := hP
      have hD : va_D A [(h0, .inr (15, mG q ro)), (q 1, .inl ((cm 1), 1749, .inl g)), (q 4, .inl ((cm 4), 96, .inl (upd f (nI i).toNatClampNeg 0)))] := hD
      refine lv_aload_n hx hb dX12_ditches_15 rfl (lv_at hl 1 rfl) ?_
      refine lv_iload_n hx hb dX12_ditches_16 rfl (lv_at hl 0 rfl) ?_
      have hPc := hP.sub (ws' := [(h0, .inr (15, mG q ro)), (q 1, .inl ((cm 1), 1749, .inl g))]) [0, 1] rfl
      have hDc := hD.sub (ws' := [(h0, .inr (15, mG q ro)), (q 1, .inl ((cm 1), 1749, .inl g))]) [0, 1] (by decide) rfl
      have hKc := hK.sub (tys' := [((cm 1), .int)]) [0] rfl
      have hFc := va_free (wc := [(h0, .inr (15, mG q ro)), (q 1, .inl ((cm 1), 1749, .inl g))]) hD hS hA [0, 1] rfl
      refine va_calli (va_runV (As := [.int (nI i)]) (rest := []) ⟨hx, hb, hml, hown, hts⟩ (r_hasDitch l dC dI h0 q cm ro g (nI i) H.size hz (sq_of hlt10)) (cwV 1 hts (goodIn_app (goodIn_r _ [9, 10, 11, 8] (by decide +kernel) (by decide +kernel)) (goodIn_ca (goodIn_r _ [2, 3, 4, 5, 6, 7, 8] (by decide +kernel) (by decide +kernel)) (bs_in _ _))) rfl rfl rfl (by decide +kernel) ⟨(Nat.le_of_ble_eq_true rfl), (Nat.le_of_ble_eq_true rfl)⟩) ⟨fun a U g mk q => by obtain ⟨q0, q1, qP, qK, qD⟩ := q; exact ⟨q0, q1, qP, va_K.moved (u := U) (U := U.calling g mk a) (Vm.Alike.refl U.vm) qK, qD⟩, va_recv hKc hPc (ci := 15) (q0 := 0) rfl rfl, fun U hU hW => ⟨rfl, by rw [hU], by rw [hU]; exact hPc, va_K.moved hW.alike hKc, hDc.weaken (fun _ _ _ _ => trivial)⟩⟩ rfl rfl hl.1 rfl (lv_room (Nat.le_of_ble_eq_true rfl)) dX12_ditches_17 ⟨(Nat.le_of_ble_eq_true rfl), (Nat.le_of_ble_eq_true rfl)⟩) hS (fun q _ h => hFc q h) hFc (fun r13 u t H1 locs ht hvm hw14 hB hz1 hk1 hS => ?_)
      obtain ⟨hP1, hD1⟩ := hB
      rw [ht] at hP1
      obtain ⟨hP, hD⟩ := va_join (wr := [(q 4, .inl ((cm 4), 96, .inl (upd f (nI i).toNatClampNeg 0)))]) (w1 := [(h0, .inr (15, mG q ro)), (q 1, .inl ((cm 1), 1749, .inl g))]) hP hD [0, 1] [2] rfl rfl (by decide) (by decide) hk1 hFc hP1 hD1
      generalize H1 = H at hP hS ⊢
      have hP : va_P (dC, dI) vwCl [(q 4, .inl ((cm 4), 96, .inl (upd f (nI i).toNatClampNeg 0))), (h0, .inr (15, mG q ro)), (q 1, .inl ((cm 1), 1749, .inl g))] H := hP
      have hD : va_D A [(q 4, .inl ((cm 4), 96, .inl (upd f (nI i).toNatClampNeg 0))), (h0, .inr (15, mG q ro)), (q 1, .inl ((cm 1), 1749, .inl g))] := hD
      try dsimp only at hw14
      obtain rfl : 0 = r13 := (hw14).symm
      refine lv_if_ne (tgt := 26) hx hb dX12_ditches_20 (by decide) (fun c15 => absurd c15 (by decide)) (fun c15 => ?_)
      refine lv_goto (tgt := 209) hx hb dX12_ditches_23 (by decide) ?_
      obtain ⟨x16, ex16⟩ : ∃ y : Int32, y = (nI i) + 1 := ⟨_, rfl⟩
      refine lv_iinc (v := x16) (lv' := [(1, .int x16), (0, .ref h0)]) hx hb dX12_ditches_209 hl (k := 0) rfl (by rw [ex16]; rfl) (by decide) rfl (fun ls hl => ?_)
      refine lv_goto (tgt := 2) hx hb dX12_ditches_212 (by decide) ?_
      obtain rfl : x16 = nI (i + 1) := ex16.trans (nI_1 i)
      exact ih1 (i + 1) (by omega) (upd f (nI i).toNatClampNeg 0) (all0_upd hg) _ _ (hP.sub [1, 2, 0] rfl) (hD.sub [1, 2, 0] (by decide) rfl) hS ls (lv_sub hl [0, 1] rfl)
  exact key1 96 0 (by decide) mv hm _ _ (hP.sub [0, 1, 2] rfl) (hD.sub [0, 1, 2] (by decide) rfl) hS ls (lv_sub hl [0, 1] rfl)
def w_r_dayEnds : List Cond := .code yX12_dayEnds cX12_dayEnds 3 none :: ([.code yX12_isLand cX12_isLand 2 (some .boolean), .fieldLink RX12 9 "SeaLandModel" "world" "[I", .methodLink RX12 235 yX12_isLand, .instanceMethod yX12_isLand, .selects RX12 yX12_isLand yX12_isLand, .initialized RX12] ++ bs)
set_option maxHeartbeats 4000000 in
set_option maxRecDepth 100000 in
theorem r_dayEnds (l : Launch) (dC : Nat → ClassId) (dI : Nat → Nat → Nat) (h0 : Nat) (q : Nat → Nat) (cm : Nat → ClassId) (ro : Int32) (g : Nat → Int32)  (sz : Nat) (hz : ∀ j, j ≠ 1429 → g j = 0) : Met l yX12_dayEnds w_r_dayEnds ({ frames := 1, cells := 0, slots := 0, locals := 21 }) (va_Pc [.ref h0] (fun U => U.heap.size = sz ∧ va_P (dC, dI) vwCl [(h0, .inr (15, mG q ro)), (q 1, .inl ((cm 1), 1749, .inl g))] U.heap ∧ va_K (dC, dI) vwCl [((cm 1), .int)] U ∧ va_D (fun _ => True) [(h0, .inr (15, mG q ro)), (q 1, .inl ((cm 1), 1749, .inl g))])) (va_Qv (fun (u : Unit) => True) (fun (_ : Unit) (t : State) => va_P (dC, dI) vwCl [(h0, .inr (15, mG q ro)), (q 1, .inl ((cm 1), 1749, .inl g))] t.heap ∧ va_D (va_A [(h0, .inr (15, mG q ro)), (q 1, .inl ((cm 1), 1749, .inl g))] sz) [(h0, .inr (15, mG q ro)), (q 1, .inl ((cm 1), 1749, .inl g))]) (va_A [(h0, .inr (15, mG q ro)), (q 1, .inl ((cm 1), 1749, .inl g))] sz)) 0 0 (va_A [(h0, .inr (15, mG q ro)), (q 1, .inl ((cm 1), 1749, .inl g))] sz) := by
  refine Met.ofW (cc := cX12_dayEnds) (maxL := 3) (ret := none) (by decide) rfl ?_
  intro p e s m args below meth c s₁ B hml hv
  obtain ⟨rfl, hsz, hP, hK, hD0⟩ := hv
  have hx := B.exec
  have hb := B.bytes
  have hr := B.returns
  have hts := atoms_spec (ws := w_r_dayEnds) B.pre
  have hown : s.vm.findClass RX12 = some m.cls := findClass_of_methodNamed B.named
  have hlocks := B.notSynchronized
  subst hsz
  have hD := hD0.self (sz := s.heap.size)
  generalize hAe : va_A [(h0, .inr (15, mG q ro)), (q 1, .inl ((cm 1), 1749, .inl g))] s.heap.size = A at hD ⊢
  have hA : ∀ q : Nat, s.heap.size ≤ q → A q := fun q h => by rw [← hAe]; exact Or.inr h
  have hS : va_S A s.heap s.heap [] := va_S.rf
  have hP : va_P (dC, dI) vwCl [(h0, .inr (15, mG q ro)), (q 1, .inl ((cm 1), 1749, .inl g))] s.heap := hP
  have hl := lv_entry ([.ref h0]) (n := 3) (Nat.le_of_ble_eq_true rfl)
  rw [lg_entry_eq]
  generalize (lg_sl ([.ref h0]) ++ List.replicate (3 - (lg_sl ([.ref h0])).length) Slot.unset).toArray = ls at hl ⊢
  have hl : lv_has ls 3 [(0, .ref h0)] := hl
  refine lv_iconst (v := 0) hx hb dX12_dayEnds_0 (by decide) ?_
  refine lv_istore_n (lv' := [(1, .int 0), (0, .ref h0)]) hx hb dX12_dayEnds_1 rfl hl (by decide) rfl (fun ls hl => ?_)
  have key1 : ∀ (n1 i : Nat), i + n1 = 96 → ∀ (H : Heap) (locs : List Loc), va_P (dC, dI) vwCl [(h0, .inr (15, mG q ro)), (q 1, .inl ((cm 1), 1749, .inl g))] H → va_D A [(h0, .inr (15, mG q ro)), (q 1, .inl ((cm 1), 1749, .inl g))] → va_S A s.heap H locs → ∀ ls : Array Slot, lv_has ls 3 [(1, .int (nI i)), (0, .ref h0)] → W p l e (headSpec w_r_dayEnds ({ frames := 1, cells := 0, slots := 0, locals := 21 })).room s m #[.ref h0] below meth c H locs 0 0 (MQ below (va_Qv (fun (u : Unit) => True) (fun (_ : Unit) (t : State) => va_P (dC, dI) vwCl [(h0, .inr (15, mG q ro)), (q 1, .inl ((cm 1), 1749, .inl g))] t.heap ∧ va_D A [(h0, .inr (15, mG q ro)), (q 1, .inl ((cm 1), 1749, .inl g))]) A) #[.ref h0] s 0 0 A) (F0 m 2 ls []) := by
    intro n1
    induction n1 with
    | zero =>
      intro i hn1 H locs hP hD hS ls hl
      obtain rfl : 96 = i := by omega
      refine lv_iload_n hx hb dX12_dayEnds_2 rfl (lv_at hl 0 rfl) ?_
      refine lv_bipush (v := 96) hx hb dX12_dayEnds_3 (by decide) ?_
      refine lv_icmp_ge (tgt := 168) hx hb dX12_dayEnds_5 (by decide) (fun c2 => ?_) (fun c2 => absurd c2 (by decide))
      exact W.vret hx hb hr (fun t ht hW => ⟨⟨(), rfl, (by trivial), by rw [ht]; exact hP.sub (ws' := [(h0, .inr (15, mG q ro)), (q 1, .inl ((cm 1), 1749, .inl g))]) [0, 1] rfl, hD.sub (ws' := [(h0, .inr (15, mG q ro)), (q 1, .inl ((cm 1), 1749, .inl g))]) [0, 1] (by decide) rfl⟩, hS.F ht⟩) hS.2.2 dX12_dayEnds_168
    | succ n1 ih1 =>
      intro i hn1 H locs hP hD hS ls hl
      have hlt3 : i < 96 := by omega
      refine lv_iload_n hx hb dX12_dayEnds_2 rfl (lv_at hl 0 rfl) ?_
      refine lv_bipush (v := 96) hx hb dX12_dayEnds_3 (by decide) ?_
      refine lv_icmp_ge (tgt := 168) hx hb dX12_dayEnds_5 (by decide) (fun c4 => absurd c4 (nI_ge (b := 96) hlt3 (by decide))) (fun c4 => ?_)
      refine lv_aload_n hx hb dX12_dayEnds_8 rfl (lv_at hl 1 rfl) ?_
      refine lv_iload_n hx hb dX12_dayEnds_9 rfl (lv_at hl 0 rfl) ?_
      have hPc := hP.sub (ws' := [(h0, .inr (15, mG q ro)), (q 1, .inl ((cm 1), 1749, .inl g))]) [0, 1] rfl
      have hDc := hD.sub (ws' := [(h0, .inr (15, mG q ro)), (q 1, .inl ((cm 1), 1749, .inl g))]) [0, 1] (by decide) rfl
      have hKc := hK.sub (tys' := [((cm 1), .int)]) [0] rfl
      have hFc := va_free (wc := [(h0, .inr (15, mG q ro)), (q 1, .inl ((cm 1), 1749, .inl g))]) hD hS hA [0, 1] rfl
      refine va_calli (va_runV (As := [.int (nI i)]) (rest := []) ⟨hx, hb, hml, hown, hts⟩ (r_isLand l dC dI h0 q cm ro g (nI i) H.size hz (sq_of hlt3)) (cwV 1 hts (goodIn_app (goodIn_r _ [3, 4, 5, 6] (by decide +kernel) (by decide +kernel)) (goodIn_ca (goodIn_r _ [1, 2] (by decide +kernel) (by decide +kernel)) (bs_in _ _))) rfl rfl rfl (by decide +kernel) ⟨(Nat.le_of_ble_eq_true rfl), (Nat.le_of_ble_eq_true rfl)⟩) ⟨fun a U g mk q => by obtain ⟨q0, q1, qP, qK, qD⟩ := q; exact ⟨q0, q1, qP, va_K.moved (u := U) (U := U.calling g mk a) (Vm.Alike.refl U.vm) qK, qD⟩, va_recv hKc hPc (ci := 15) (q0 := 0) rfl rfl, fun U hU hW => ⟨rfl, by rw [hU], by rw [hU]; exact hPc, va_K.moved hW.alike hKc, hDc.weaken (fun _ _ _ _ => trivial)⟩⟩ rfl rfl hl.1 rfl (lv_room (Nat.le_of_ble_eq_true rfl)) dX12_dayEnds_10 ⟨(Nat.le_of_ble_eq_true rfl), (Nat.le_of_ble_eq_true rfl)⟩) hS (fun q _ h => hFc q h) hFc (fun r6 u t H1 locs ht hvm hw7 hB hz1 hk1 hS => ?_)
      obtain ⟨hP1, hD1⟩ := hB
      rw [ht] at hP1
      obtain ⟨hP, hD⟩ := va_join (wr := []) (w1 := [(h0, .inr (15, mG q ro)), (q 1, .inl ((cm 1), 1749, .inl g))]) hP hD [0, 1] [] rfl rfl (by decide) (by decide) hk1 hFc hP1 hD1
      generalize H1 = H at hP hS ⊢
      have hP : va_P (dC, dI) vwCl [(h0, .inr (15, mG q ro)), (q 1, .inl ((cm 1), 1749, .inl g))] H := hP
      have hD : va_D A [(h0, .inr (15, mG q ro)), (q 1, .inl ((cm 1), 1749, .inl g))] := hD
      try dsimp only at hw7
      obtain rfl : 0 = r6 := (hw7).symm
      refine lv_if_ne (tgt := 19) hx hb dX12_dayEnds_13 (by decide) (fun c8 => absurd c8 (by decide)) (fun c8 => ?_)
      refine lv_goto (tgt := 162) hx hb dX12_dayEnds_16 (by decide) ?_
      obtain ⟨x9, ex9⟩ : ∃ y : Int32, y = (nI i) + 1 := ⟨_, rfl⟩
      refine lv_iinc (v := x9) (lv' := [(1, .int x9), (0, .ref h0)]) hx hb dX12_dayEnds_162 hl (k := 0) rfl (by rw [ex9]; rfl) (by decide) rfl (fun ls hl => ?_)
      refine lv_goto (tgt := 2) hx hb dX12_dayEnds_165 (by decide) ?_
      obtain rfl : x9 = nI (i + 1) := ex9.trans (nI_1 i)
      exact ih1 (i + 1) (by omega) _ _ (hP.sub [0, 1] rfl) (hD.sub [0, 1] (by decide) rfl) hS ls (lv_sub hl [0, 1] rfl)
  exact key1 96 0 (by decide) _ _ (hP.sub [0, 1] rfl) (hD.sub [0, 1] (by decide) rfl) hS ls (lv_sub hl [0, 1] rfl)
def w_r_writesRow : List Cond := .code yX12_writesRow cX12_writesRow 2 none :: ([.fieldLink RX12 238 "SeaLandModel" "rows" "I", .fieldLink RX12 25 "SeaLandModel" "rowTold" "[I", .code yX12_level cX12_level 2 (some .int), .code yX12_isLand cX12_isLand 2 (some .boolean), .fieldLink RX12 9 "SeaLandModel" "world" "[I", .methodLink RX12 235 yX12_isLand, .instanceMethod yX12_isLand, .selects RX12 yX12_isLand yX12_isLand, .initialized RX12, .code yX12_hour cX12_hour 1 (some .int), .methodLink RX12 228 yX12_hour, .instanceMethod yX12_hour, .selects RX12 yX12_hour yX12_hour, .code yX12_outside cX12_outside 4 (some .int), .methodLink RX12 247 yX12_outside, .instanceMethod yX12_outside, .selects RX12 yX12_outside yX12_outside, .methodLink RX12 285 yX12_level, .instanceMethod yX12_level, .selects RX12 yX12_level yX12_level, .fieldLink RX12 28 "SeaLandModel" "rowTrue" "[I"] ++ bs)
set_option maxHeartbeats 4000000 in
set_option maxRecDepth 100000 in
theorem r_writesRow (l : Launch) (dC : Nat → ClassId) (dI : Nat → Nat → Nat) (h0 : Nat) (q : Nat → Nat) (cm : Nat → ClassId) (ra : Nat) (v : Int32) (g f0 f1 : Nat → Int32) (sz : Nat) (hz : ∀ j, j ≠ 1429 → g j = 0) (hv : g 1429 = v) (hv0 : 0 ≤ v) (hra : ra ≤ 24) : Met l yX12_writesRow w_r_writesRow ({ frames := 2, cells := 0, slots := 0, locals := 44 }) (va_Pc [.ref h0] (fun U => U.heap.size = sz ∧ va_P (dC, dI) vwCl [(h0, .inr (15, mG q (nI ra))), (q 1, .inl ((cm 1), 1749, .inl g)), (q 7, .inl ((cm 7), 2304, .inl f0)), (q 8, .inl ((cm 8), 2304, .inl f1))] U.heap ∧ va_K (dC, dI) vwCl [((cm 1), .int), ((cm 7), .int), ((cm 8), .int)] U ∧ va_D (fun _ => True) [(h0, .inr (15, mG q (nI ra))), (q 1, .inl ((cm 1), 1749, .inl g)), (q 7, .inl ((cm 7), 2304, .inl f0)), (q 8, .inl ((cm 8), 2304, .inl f1))])) (va_Qv (fun (u : Nat × (Nat → Int32) × (Nat → Int32)) => u.1 ≤ 24) (fun (u : Nat × (Nat → Int32) × (Nat → Int32)) (t : State) => match u with | (rb, k0, k1) => va_P (dC, dI) vwCl [(h0, .inr (15, mG q (nI rb))), (q 1, .inl ((cm 1), 1749, .inl g)), (q 7, .inl ((cm 7), 2304, .inl k0)), (q 8, .inl ((cm 8), 2304, .inl k1))] t.heap ∧ va_D (va_A [(h0, .inr (15, mG q (nI ra))), (q 1, .inl ((cm 1), 1749, .inl g)), (q 7, .inl ((cm 7), 2304, .inl f0)), (q 8, .inl ((cm 8), 2304, .inl f1))] sz) [(h0, .inr (15, mG q (nI rb))), (q 1, .inl ((cm 1), 1749, .inl g)), (q 7, .inl ((cm 7), 2304, .inl k0)), (q 8, .inl ((cm 8), 2304, .inl k1))]) (va_A [(h0, .inr (15, mG q (nI ra))), (q 1, .inl ((cm 1), 1749, .inl g)), (q 7, .inl ((cm 7), 2304, .inl f0)), (q 8, .inl ((cm 8), 2304, .inl f1))] sz)) 0 0 (va_A [(h0, .inr (15, mG q (nI ra))), (q 1, .inl ((cm 1), 1749, .inl g)), (q 7, .inl ((cm 7), 2304, .inl f0)), (q 8, .inl ((cm 8), 2304, .inl f1))] sz) := by
  refine Met.ofW (cc := cX12_writesRow) (maxL := 2) (ret := none) (by decide) rfl ?_
  intro p e s m args below meth c s₁ B hml hv
  obtain ⟨rfl, hsz, hP, hK, hD0⟩ := hv
  have hx := B.exec
  have hb := B.bytes
  have hr := B.returns
  have hts := atoms_spec (ws := w_r_writesRow) B.pre
  have hown : s.vm.findClass RX12 = some m.cls := findClass_of_methodNamed B.named
  have hlocks := B.notSynchronized
  subst hsz
  have hD := hD0.self (sz := s.heap.size)
  generalize hAe : va_A [(h0, .inr (15, mG q (nI ra))), (q 1, .inl ((cm 1), 1749, .inl g)), (q 7, .inl ((cm 7), 2304, .inl f0)), (q 8, .inl ((cm 8), 2304, .inl f1))] s.heap.size = A at hD ⊢
  have hA : ∀ q : Nat, s.heap.size ≤ q → A q := fun q h => by rw [← hAe]; exact Or.inr h
  have hS : va_S A s.heap s.heap [] := va_S.rf
  have hP : va_P (dC, dI) vwCl [(h0, .inr (15, mG q (nI ra))), (q 1, .inl ((cm 1), 1749, .inl g)), (q 7, .inl ((cm 7), 2304, .inl f0)), (q 8, .inl ((cm 8), 2304, .inl f1))] s.heap := hP
  have hl := lv_entry ([.ref h0]) (n := 2) (Nat.le_of_ble_eq_true rfl)
  rw [lg_entry_eq]
  generalize (lg_sl ([.ref h0]) ++ List.replicate (2 - (lg_sl ([.ref h0])).length) Slot.unset).toArray = ls at hl ⊢
  have hl : lv_has ls 2 [(0, .ref h0)] := hl
  refine lv_aload_n hx hb dX12_writesRow_0 rfl (lv_at hl 0 rfl) ?_
  refine va_get (D := (dC, dI)) (ci := 15) (v := .int (nI ra)) (C := RX12) (T := TX12) (N := 78) hx hb hts bF_X12 hown hK hP 0 rfl rfl 9 (by decide) (ht_at hts 0 rfl) (fun _ h9 => h9) rfl dX12_writesRow_1 ?_
  refine lv_bipush (v := 24) hx hb dX12_writesRow_4 (by decide) ?_
  refine lv_icmp_ne (tgt := 65) hx hb dX12_writesRow_6 (by decide) (fun c1 => ?_) (fun c1 => ?_)
  · have hka : ra < 24 := Nat.lt_of_le_of_ne hra (fun e => c1 (by rw [e]; rfl))
    refine lv_iconst (v := 0) hx hb dX12_writesRow_65 (by decide) ?_
    refine lv_istore_n (lv' := [(1, .int 0), (0, .ref h0)]) hx hb dX12_writesRow_66 rfl hl (by decide) rfl (fun ls hl => ?_)
    have key2 : ∀ (n2 i : Nat), i + n2 = 96 → ∀ (y0 y1 : Nat → Int32), ∀ (H : Heap) (locs : List Loc), va_P (dC, dI) vwCl [(h0, .inr (15, mG q (nI ra))), (q 1, .inl ((cm 1), 1749, .inl g)), (q 7, .inl ((cm 7), 2304, .inl y0)), (q 8, .inl ((cm 8), 2304, .inl y1))] H → va_D A [(h0, .inr (15, mG q (nI ra))), (q 1, .inl ((cm 1), 1749, .inl g)), (q 7, .inl ((cm 7), 2304, .inl y0)), (q 8, .inl ((cm 8), 2304, .inl y1))] → va_S A s.heap H locs → ∀ ls : Array Slot, lv_has ls 2 [(1, .int (nI i)), (0, .ref h0)] → W p l e (headSpec w_r_writesRow ({ frames := 2, cells := 0, slots := 0, locals := 44 })).room s m #[.ref h0] below meth c H locs 0 0 (MQ below (va_Qv (fun (u : Nat × (Nat → Int32) × (Nat → Int32)) => u.1 ≤ 24) (fun (u : Nat × (Nat → Int32) × (Nat → Int32)) (t : State) => match u with | (rb, k0, k1) => va_P (dC, dI) vwCl [(h0, .inr (15, mG q (nI rb))), (q 1, .inl ((cm 1), 1749, .inl g)), (q 7, .inl ((cm 7), 2304, .inl k0)), (q 8, .inl ((cm 8), 2304, .inl k1))] t.heap ∧ va_D A [(h0, .inr (15, mG q (nI rb))), (q 1, .inl ((cm 1), 1749, .inl g)), (q 7, .inl ((cm 7), 2304, .inl k0)), (q 8, .inl ((cm 8), 2304, .inl k1))]) A) #[.ref h0] s 0 0 A) (F0 m 67 ls []) := by
      intro n2
      induction n2 with
      | zero =>
        intro i hn2 y0 y1 H locs hP hD hS ls hl
        obtain rfl : 96 = i := by omega
        refine lv_iload_n hx hb dX12_writesRow_67 rfl (lv_at hl 0 rfl) ?_
        refine lv_bipush (v := 96) hx hb dX12_writesRow_68 (by decide) ?_
        refine lv_icmp_ge (tgt := 117) hx hb dX12_writesRow_70 (by decide) (fun c3 => ?_) (fun c3 => absurd c3 (by decide))
        refine lv_aload_n hx hb dX12_writesRow_117 rfl (lv_at hl 1 rfl) ?_
        refine lv_dup hx hb dX12_writesRow_118 rfl ?_
        refine va_get (D := (dC, dI)) (ci := 15) (v := .int (nI ra)) (C := RX12) (T := TX12) (N := 78) hx hb hts bF_X12 hown hK hP 0 rfl rfl 9 (by decide) (ht_at hts 0 rfl) (fun _ h9 => h9) rfl dX12_writesRow_119 ?_
        refine lv_iconst (v := 1) hx hb dX12_writesRow_122 (by decide) ?_
        refine lv_iadd hx hb dX12_writesRow_123 ?_
        refine lv_topi (fun x4 ex4 => ?_)
        obtain rfl : nI (ra + 1) = x4 := (ex4.trans (nI_1 _)).symm
        refine va_put (D := (dC, dI)) (ci := 15) (v := .int (nI (ra + 1))) (ty := .int) (C := RX12) (T := TX12) (N := 78) hx hb hts bF_X12 tyX12 tyX12_ok nmX12 hown hK hP hD hS 0 rfl rfl 9 (by decide) (ht_at hts 0 rfl) (fun _ h9 => h9) rfl (by decide +kernel) rfl rfl (Nat.le_of_ble_eq_true rfl) dX12_writesRow_124 (fun H locs hP hD hS => ?_)
        have hP : va_P (dC, dI) vwCl [(h0, .inr (15, mG q (nI (ra + 1)))), (q 1, .inl ((cm 1), 1749, .inl g)), (q 7, .inl ((cm 7), 2304, .inl y0)), (q 8, .inl ((cm 8), 2304, .inl y1))] H := hP
        have hD : va_D A [(h0, .inr (15, mG q (nI (ra + 1)))), (q 1, .inl ((cm 1), 1749, .inl g)), (q 7, .inl ((cm 7), 2304, .inl y0)), (q 8, .inl ((cm 8), 2304, .inl y1))] := hD
        exact W.vret hx hb hr (fun t ht hW => ⟨⟨(ra + 1, y0, y1), rfl, (by exact hka), by rw [ht]; exact hP.sub (ws' := [(h0, .inr (15, mG q (nI (ra + 1)))), (q 1, .inl ((cm 1), 1749, .inl g)), (q 7, .inl ((cm 7), 2304, .inl y0)), (q 8, .inl ((cm 8), 2304, .inl y1))]) [0, 1, 2, 3] rfl, hD.sub (ws' := [(h0, .inr (15, mG q (nI (ra + 1)))), (q 1, .inl ((cm 1), 1749, .inl g)), (q 7, .inl ((cm 7), 2304, .inl y0)), (q 8, .inl ((cm 8), 2304, .inl y1))]) [0, 1, 2, 3] (by decide) rfl⟩, hS.F ht⟩) hS.2.2 dX12_writesRow_127
      | succ n2 ih2 =>
        intro i hn2 y0 y1 H locs hP hD hS ls hl
        have hlt5 : i < 96 := by omega
        refine lv_iload_n hx hb dX12_writesRow_67 rfl (lv_at hl 0 rfl) ?_
        refine lv_bipush (v := 96) hx hb dX12_writesRow_68 (by decide) ?_
        refine lv_icmp_ge (tgt := 117) hx hb dX12_writesRow_70 (by decide) (fun c6 => absurd c6 (nI_ge (b := 96) hlt5 (by decide))) (fun c6 => ?_)
        refine lv_aload_n hx hb dX12_writesRow_73 rfl (lv_at hl 1 rfl) ?_
        refine va_get (D := (dC, dI)) (ci := 15) (v := .ref (q 7)) (C := RX12) (T := TX12) (N := 78) hx hb hts bF_X12 hown hK hP 0 rfl rfl 7 (by decide) (ht_at hts 1 rfl) (fun _ h9 => h9) rfl dX12_writesRow_74 ?_
        refine lv_bipush (v := 96) hx hb dX12_writesRow_77 (by decide) ?_
        refine lv_aload_n hx hb dX12_writesRow_79 rfl (lv_at hl 1 rfl) ?_
        refine va_get (D := (dC, dI)) (ci := 15) (v := .int (nI ra)) (C := RX12) (T := TX12) (N := 78) hx hb hts bF_X12 hown hK hP 0 rfl rfl 9 (by decide) (ht_at hts 0 rfl) (fun _ h9 => h9) rfl dX12_writesRow_80 ?_
        refine lv_imul hx hb dX12_writesRow_83 ?_
        refine lv_topi (fun x7 ex7 => ?_)
        obtain rfl : nI (96 * ra) = x7 := (ex7.trans (pk_mul 96 _)).symm
        refine lv_iload_n hx hb dX12_writesRow_84 rfl (lv_at hl 0 rfl) ?_
        refine lv_iadd hx hb dX12_writesRow_85 ?_
        refine lv_topi (fun x8 ex8 => ?_)
        obtain rfl : nI (96 * ra + i) = x8 := (ex8.trans (nI_add _ _)).symm
        refine lv_aload_n hx hb dX12_writesRow_86 rfl (lv_at hl 1 rfl) ?_
        refine lv_iload_n hx hb dX12_writesRow_87 rfl (lv_at hl 0 rfl) ?_
        have hPc := hP.sub (ws' := [(h0, .inr (15, mG q (nI ra))), (q 1, .inl ((cm 1), 1749, .inl g))]) [0, 1] rfl
        have hDc := hD.sub (ws' := [(h0, .inr (15, mG q (nI ra))), (q 1, .inl ((cm 1), 1749, .inl g))]) [0, 1] (by decide) rfl
        have hKc := hK.sub (tys' := [((cm 1), .int)]) [0] rfl
        have hFc := va_free (wc := [(h0, .inr (15, mG q (nI ra))), (q 1, .inl ((cm 1), 1749, .inl g))]) hD hS hA [0, 1] rfl
        refine va_calli (va_runV (As := [.int (nI i)]) (rest := [.int (nI (96 * ra + i)), .ref (q 7)]) ⟨hx, hb, hml, hown, hts⟩ (r_level l dC dI h0 q cm (nI ra) g (nI i) v H.size hz (sq_of hlt5) hv hv0) (cwV 1 hts (goodIn_app (goodIn_r _ [18, 19, 20, 9] (by decide +kernel) (by decide +kernel)) (goodIn_ca (goodIn_r _ [3, 4, 5, 6, 7, 8, 9, 10, 11, 12, 13, 14, 15, 16, 17] (by decide +kernel) (by decide +kernel)) (bs_in _ _))) rfl rfl rfl (by decide +kernel) ⟨(Nat.le_of_ble_eq_true rfl), (Nat.le_of_ble_eq_true rfl)⟩) ⟨fun a U g mk q => by obtain ⟨q0, q1, qP, qK, qD⟩ := q; exact ⟨q0, q1, qP, va_K.moved (u := U) (U := U.calling g mk a) (Vm.Alike.refl U.vm) qK, qD⟩, va_recv hKc hPc (ci := 15) (q0 := 0) rfl rfl, fun U hU hW => ⟨rfl, by rw [hU], by rw [hU]; exact hPc, va_K.moved hW.alike hKc, hDc.weaken (fun _ _ _ _ => trivial)⟩⟩ rfl rfl hl.1 rfl (lv_room (Nat.le_of_ble_eq_true rfl)) dX12_writesRow_88 ⟨(Nat.le_of_ble_eq_true rfl), (Nat.le_of_ble_eq_true rfl)⟩) hS (fun q _ h => hFc q h) hFc (fun r10 u t H1 locs ht hvm hw11 hB hz1 hk1 hS => ?_)
        obtain ⟨hP1, hD1⟩ := hB
        rw [ht] at hP1
        obtain ⟨hP, hD⟩ := va_join (wr := [(q 7, .inl ((cm 7), 2304, .inl y0)), (q 8, .inl ((cm 8), 2304, .inl y1))]) (w1 := [(h0, .inr (15, mG q (nI ra))), (q 1, .inl ((cm 1), 1749, .inl g))]) hP hD [0, 1] [2, 3] rfl rfl (by decide) (by decide) hk1 hFc hP1 hD1
        generalize H1 = H at hP hS ⊢
        have hP : va_P (dC, dI) vwCl [(q 7, .inl ((cm 7), 2304, .inl y0)), (q 8, .inl ((cm 8), 2304, .inl y1)), (h0, .inr (15, mG q (nI ra))), (q 1, .inl ((cm 1), 1749, .inl g))] H := hP
        have hD : va_D A [(q 7, .inl ((cm 7), 2304, .inl y0)), (q 8, .inl ((cm 8), 2304, .inl y1)), (h0, .inr (15, mG q (nI ra))), (q 1, .inl ((cm 1), 1749, .inl g))] := hD
        try dsimp only at hw11
        obtain rfl : 0 = r10 := (hw11).symm
        refine va_iast hx hb hK hP hD hS 0 1 rfl rfl (vp_in_nI (by have := hka; omega) (by decide)) dX12_writesRow_91 (fun H locs hP hD hS => ?_)
        have hP : va_P (dC, dI) vwCl [(q 7, .inl ((cm 7), 2304, .inl (upd y0 (nI (96 * ra + i)).toNatClampNeg 0))), (q 8, .inl ((cm 8), 2304, .inl y1)), (h0, .inr (15, mG q (nI ra))), (q 1, .inl ((cm 1), 1749, .inl g))] H := hP
        have hD : va_D A [(q 7, .inl ((cm 7), 2304, .inl (upd y0 (nI (96 * ra + i)).toNatClampNeg 0))), (q 8, .inl ((cm 8), 2304, .inl y1)), (h0, .inr (15, mG q (nI ra))), (q 1, .inl ((cm 1), 1749, .inl g))] := hD
        refine lv_aload_n hx hb dX12_writesRow_92 rfl (lv_at hl 1 rfl) ?_
        refine va_get (D := (dC, dI)) (ci := 15) (v := .ref (q 8)) (C := RX12) (T := TX12) (N := 78) hx hb hts bF_X12 hown hK hP 2 rfl rfl 8 (by decide) (ht_at hts 20 rfl) (fun _ h9 => h9) rfl dX12_writesRow_93 ?_
        refine lv_bipush (v := 96) hx hb dX12_writesRow_96 (by decide) ?_
        refine lv_aload_n hx hb dX12_writesRow_98 rfl (lv_at hl 1 rfl) ?_
        refine va_get (D := (dC, dI)) (ci := 15) (v := .int (nI ra)) (C := RX12) (T := TX12) (N := 78) hx hb hts bF_X12 hown hK hP 2 rfl rfl 9 (by decide) (ht_at hts 0 rfl) (fun _ h9 => h9) rfl dX12_writesRow_99 ?_
        refine lv_imul hx hb dX12_writesRow_102 ?_
        refine lv_topi (fun x12 ex12 => ?_)
        obtain rfl : nI (96 * ra) = x12 := (ex12.trans (pk_mul 96 _)).symm
        refine lv_iload_n hx hb dX12_writesRow_103 rfl (lv_at hl 0 rfl) ?_
        refine lv_iadd hx hb dX12_writesRow_104 ?_
        refine lv_topi (fun x13 ex13 => ?_)
        obtain rfl : nI (96 * ra + i) = x13 := (ex13.trans (nI_add _ _)).symm
        refine lv_aload_n hx hb dX12_writesRow_105 rfl (lv_at hl 1 rfl) ?_
        refine lv_iload_n hx hb dX12_writesRow_106 rfl (lv_at hl 0 rfl) ?_
        have hPc := hP.sub (ws' := [(h0, .inr (15, mG q (nI ra))), (q 1, .inl ((cm 1), 1749, .inl g))]) [2, 3] rfl
        have hDc := hD.sub (ws' := [(h0, .inr (15, mG q (nI ra))), (q 1, .inl ((cm 1), 1749, .inl g))]) [2, 3] (by decide) rfl
        have hKc := hK.sub (tys' := [((cm 1), .int)]) [0] rfl
        have hFc := va_free (wc := [(h0, .inr (15, mG q (nI ra))), (q 1, .inl ((cm 1), 1749, .inl g))]) hD hS hA [2, 3] rfl
        refine va_calli (va_runV (As := [.int (nI i)]) (rest := [.int (nI (96 * ra + i)), .ref (q 8)]) ⟨hx, hb, hml, hown, hts⟩ (r_level l dC dI h0 q cm (nI ra) g (nI i) v H.size hz (sq_of hlt5) hv hv0) (cwV 1 hts (goodIn_app (goodIn_r _ [18, 19, 20, 9] (by decide +kernel) (by decide +kernel)) (goodIn_ca (goodIn_r _ [3, 4, 5, 6, 7, 8, 9, 10, 11, 12, 13, 14, 15, 16, 17] (by decide +kernel) (by decide +kernel)) (bs_in _ _))) rfl rfl rfl (by decide +kernel) ⟨(Nat.le_of_ble_eq_true rfl), (Nat.le_of_ble_eq_true rfl)⟩) ⟨fun a U g mk q => by obtain ⟨q0, q1, qP, qK, qD⟩ := q; exact ⟨q0, q1, qP, va_K.moved (u := U) (U := U.calling g mk a) (Vm.Alike.refl U.vm) qK, qD⟩, va_recv hKc hPc (ci := 15) (q0 := 0) rfl rfl, fun U hU hW => ⟨rfl, by rw [hU], by rw [hU]; exact hPc, va_K.moved hW.alike hKc, hDc.weaken (fun _ _ _ _ => trivial)⟩⟩ rfl rfl hl.1 rfl (lv_room (Nat.le_of_ble_eq_true rfl)) dX12_writesRow_107 ⟨(Nat.le_of_ble_eq_true rfl), (Nat.le_of_ble_eq_true rfl)⟩) hS (fun q _ h => hFc q h) hFc (fun r15 u t H1 locs ht hvm hw16 hB hz1 hk1 hS => ?_)
        obtain ⟨hP1, hD1⟩ := hB
        rw [ht] at hP1
        obtain ⟨hP, hD⟩ := va_join (wr := [(q 7, .inl ((cm 7), 2304, .inl (upd y0 (nI (96 * ra + i)).toNatClampNeg 0))), (q 8, .inl ((cm 8), 2304, .inl y1))]) (w1 := [(h0, .inr (15, mG q (nI ra))), (q 1, .inl ((cm 1), 1749, .inl g))]) hP hD [2, 3] [0, 1] rfl rfl (by decide) (by decide) hk1 hFc hP1 hD1
        generalize H1 = H at hP hS ⊢
        have hP : va_P (dC, dI) vwCl [(q 7, .inl ((cm 7), 2304, .inl (upd y0 (nI (96 * ra + i)).toNatClampNeg 0))), (q 8, .inl ((cm 8), 2304, .inl y1)), (h0, .inr (15, mG q (nI ra))), (q 1, .inl ((cm 1), 1749, .inl g))] H := hP
        have hD : va_D A [(q 7, .inl ((cm 7), 2304, .inl (upd y0 (nI (96 * ra + i)).toNatClampNeg 0))), (q 8, .inl ((cm 8), 2304, .inl y1)), (h0, .inr (15, mG q (nI ra))), (q 1, .inl ((cm 1), 1749, .inl g))] := hD
        try dsimp only at hw16
        obtain rfl : 0 = r15 := (hw16).symm
        refine va_iast hx hb hK hP hD hS 1 2 rfl rfl (vp_in_nI (by have := hka; omega) (by decide)) dX12_writesRow_110 (fun H locs hP hD hS => ?_)
        have hP : va_P (dC, dI) vwCl [(q 7, .inl ((cm 7), 2304, .inl (upd y0 (nI (96 * ra + i)).toNatClampNeg 0))), (q 8, .inl ((cm 8), 2304, .inl (upd y1 (nI (96 * ra + i)).toNatClampNeg 0))), (h0, .inr (15, mG q (nI ra))), (q 1, .inl ((cm 1), 1749, .inl g))] H := hP
        have hD : va_D A [(q 7, .inl ((cm 7), 2304, .inl (upd y0 (nI (96 * ra + i)).toNatClampNeg 0))), (q 8, .inl ((cm 8), 2304, .inl (upd y1 (nI (96 * ra + i)).toNatClampNeg 0))), (h0, .inr (15, mG q (nI ra))), (q 1, .inl ((cm 1), 1749, .inl g))] := hD
        obtain ⟨x17, ex17⟩ : ∃ y : Int32, y = (nI i) + 1 := ⟨_, rfl⟩
        refine lv_iinc (v := x17) (lv' := [(1, .int x17), (0, .ref h0)]) hx hb dX12_writesRow_111 hl (k := 0) rfl (by rw [ex17]; rfl) (by decide) rfl (fun ls hl => ?_)
        refine lv_goto (tgt := 67) hx hb dX12_writesRow_114 (by decide) ?_
        obtain rfl : x17 = nI (i + 1) := ex17.trans (nI_1 i)
        exact ih2 (i + 1) (by omega) (upd y0 (nI (96 * ra + i)).toNatClampNeg 0) (upd y1 (nI (96 * ra + i)).toNatClampNeg 0) _ _ (hP.sub [2, 3, 0, 1] rfl) (hD.sub [2, 3, 0, 1] (by decide) rfl) hS ls (lv_sub hl [0, 1] rfl)
    exact key2 96 0 (by decide) f0 f1 _ _ (hP.sub [0, 1, 2, 3] rfl) (hD.sub [0, 1, 2, 3] (by decide) rfl) hS ls (lv_sub hl [0, 1] rfl)
  · have hra24 : ra = 24 := (nI_eq (b := 24) (by omega) (by decide)).mp c1
    refine lv_bipush (v := 96) hx hb dX12_writesRow_9 (by decide) ?_
    refine lv_istore_n (lv' := [(1, .int 96), (0, .ref h0)]) hx hb dX12_writesRow_11 rfl hl (by decide) rfl (fun ls hl => ?_)
    have key18 : ∀ (n18 i : Nat), i + n18 = 2304 → ∀ (y0 y1 : Nat → Int32), ∀ (h96 : 96 ≤ i), ∀ (H : Heap) (locs : List Loc), va_P (dC, dI) vwCl [(h0, .inr (15, mG q (nI ra))), (q 1, .inl ((cm 1), 1749, .inl g)), (q 7, .inl ((cm 7), 2304, .inl y0)), (q 8, .inl ((cm 8), 2304, .inl y1))] H → va_D A [(h0, .inr (15, mG q (nI ra))), (q 1, .inl ((cm 1), 1749, .inl g)), (q 7, .inl ((cm 7), 2304, .inl y0)), (q 8, .inl ((cm 8), 2304, .inl y1))] → va_S A s.heap H locs → ∀ ls : Array Slot, lv_has ls 2 [(1, .int (nI i)), (0, .ref h0)] → W p l e (headSpec w_r_writesRow ({ frames := 2, cells := 0, slots := 0, locals := 44 })).room s m #[.ref h0] below meth c H locs 0 0 (MQ below (va_Qv (fun (u : Nat × (Nat → Int32) × (Nat → Int32)) => u.1 ≤ 24) (fun (u : Nat × (Nat → Int32) × (Nat → Int32)) (t : State) => match u with | (rb, k0, k1) => va_P (dC, dI) vwCl [(h0, .inr (15, mG q (nI rb))), (q 1, .inl ((cm 1), 1749, .inl g)), (q 7, .inl ((cm 7), 2304, .inl k0)), (q 8, .inl ((cm 8), 2304, .inl k1))] t.heap ∧ va_D A [(h0, .inr (15, mG q (nI rb))), (q 1, .inl ((cm 1), 1749, .inl g)), (q 7, .inl ((cm 7), 2304, .inl k0)), (q 8, .inl ((cm 8), 2304, .inl k1))]) A) #[.ref h0] s 0 0 A) (F0 m 12 ls []) := by
      intro n18
      induction n18 with
      | zero =>
        intro i hn18 y0 y1 h96 H locs hP hD hS ls hl
        obtain rfl : 2304 = i := by omega
        refine lv_iload_n hx hb dX12_writesRow_12 rfl (lv_at hl 0 rfl) ?_
        refine lv_sipush (v := 2304) hx hb dX12_writesRow_13 (by decide) ?_
        refine lv_icmp_ge (tgt := 55) hx hb dX12_writesRow_16 (by decide) (fun c19 => ?_) (fun c19 => absurd c19 (by decide))
        refine lv_aload_n hx hb dX12_writesRow_55 rfl (lv_at hl 1 rfl) ?_
        refine lv_dup hx hb dX12_writesRow_56 rfl ?_
        refine va_get (D := (dC, dI)) (ci := 15) (v := .int (nI ra)) (C := RX12) (T := TX12) (N := 78) hx hb hts bF_X12 hown hK hP 0 rfl rfl 9 (by decide) (ht_at hts 0 rfl) (fun _ h9 => h9) rfl dX12_writesRow_57 ?_
        refine lv_iconst (v := 1) hx hb dX12_writesRow_60 (by decide) ?_
        refine lv_isub hx hb dX12_writesRow_61 ?_
        refine lv_topi (fun x20 ex20 => ?_)
        obtain rfl : nI 23 = x20 := (ex20.trans (by rw [hra24]; rfl)).symm
        refine va_put (D := (dC, dI)) (ci := 15) (v := .int (nI 23)) (ty := .int) (C := RX12) (T := TX12) (N := 78) hx hb hts bF_X12 tyX12 tyX12_ok nmX12 hown hK hP hD hS 0 rfl rfl 9 (by decide) (ht_at hts 0 rfl) (fun _ h9 => h9) rfl (by decide +kernel) rfl rfl (Nat.le_of_ble_eq_true rfl) dX12_writesRow_62 (fun H locs hP hD hS => ?_)
        have hP : va_P (dC, dI) vwCl [(h0, .inr (15, mG q (nI 23))), (q 1, .inl ((cm 1), 1749, .inl g)), (q 7, .inl ((cm 7), 2304, .inl y0)), (q 8, .inl ((cm 8), 2304, .inl y1))] H := hP
        have hD : va_D A [(h0, .inr (15, mG q (nI 23))), (q 1, .inl ((cm 1), 1749, .inl g)), (q 7, .inl ((cm 7), 2304, .inl y0)), (q 8, .inl ((cm 8), 2304, .inl y1))] := hD
        have hP : va_P (dC, dI) vwCl [(h0, .inr (15, mG q (nI 23))), (q 1, .inl ((cm 1), 1749, .inl g)), (q 7, .inl ((cm 7), 2304, .inl y0)), (q 8, .inl ((cm 8), 2304, .inl y1))] H := hP
        have hD : va_D A [(h0, .inr (15, mG q (nI 23))), (q 1, .inl ((cm 1), 1749, .inl g)), (q 7, .inl ((cm 7), 2304, .inl y0)), (q 8, .inl ((cm 8), 2304, .inl y1))] := hD
        refine lv_iconst (v := 0) hx hb dX12_writesRow_65 (by decide) ?_
        refine lv_istore_n (lv' := [(1, .int 0), (0, .ref h0)]) hx hb dX12_writesRow_66 rfl hl (by decide) rfl (fun ls hl => ?_)
        have key21 : ∀ (n21 i : Nat), i + n21 = 96 → ∀ (y0 y1 : Nat → Int32), ∀ (H : Heap) (locs : List Loc), va_P (dC, dI) vwCl [(h0, .inr (15, mG q (nI 23))), (q 1, .inl ((cm 1), 1749, .inl g)), (q 7, .inl ((cm 7), 2304, .inl y0)), (q 8, .inl ((cm 8), 2304, .inl y1))] H → va_D A [(h0, .inr (15, mG q (nI 23))), (q 1, .inl ((cm 1), 1749, .inl g)), (q 7, .inl ((cm 7), 2304, .inl y0)), (q 8, .inl ((cm 8), 2304, .inl y1))] → va_S A s.heap H locs → ∀ ls : Array Slot, lv_has ls 2 [(1, .int (nI i)), (0, .ref h0)] → W p l e (headSpec w_r_writesRow ({ frames := 2, cells := 0, slots := 0, locals := 44 })).room s m #[.ref h0] below meth c H locs 0 0 (MQ below (va_Qv (fun (u : Nat × (Nat → Int32) × (Nat → Int32)) => u.1 ≤ 24) (fun (u : Nat × (Nat → Int32) × (Nat → Int32)) (t : State) => match u with | (rb, k0, k1) => va_P (dC, dI) vwCl [(h0, .inr (15, mG q (nI rb))), (q 1, .inl ((cm 1), 1749, .inl g)), (q 7, .inl ((cm 7), 2304, .inl k0)), (q 8, .inl ((cm 8), 2304, .inl k1))] t.heap ∧ va_D A [(h0, .inr (15, mG q (nI rb))), (q 1, .inl ((cm 1), 1749, .inl g)), (q 7, .inl ((cm 7), 2304, .inl k0)), (q 8, .inl ((cm 8), 2304, .inl k1))]) A) #[.ref h0] s 0 0 A) (F0 m 67 ls []) := by
          intro n21
          induction n21 with
          | zero =>
            intro i hn21 y0 y1 H locs hP hD hS ls hl
            obtain rfl : 96 = i := by omega
            refine lv_iload_n hx hb dX12_writesRow_67 rfl (lv_at hl 0 rfl) ?_
            refine lv_bipush (v := 96) hx hb dX12_writesRow_68 (by decide) ?_
            refine lv_icmp_ge (tgt := 117) hx hb dX12_writesRow_70 (by decide) (fun c22 => ?_) (fun c22 => absurd c22 (by decide))
            refine lv_aload_n hx hb dX12_writesRow_117 rfl (lv_at hl 1 rfl) ?_
            refine lv_dup hx hb dX12_writesRow_118 rfl ?_
            refine va_get (D := (dC, dI)) (ci := 15) (v := .int (nI 23)) (C := RX12) (T := TX12) (N := 78) hx hb hts bF_X12 hown hK hP 0 rfl rfl 9 (by decide) (ht_at hts 0 rfl) (fun _ h9 => h9) rfl dX12_writesRow_119 ?_
            refine lv_iconst (v := 1) hx hb dX12_writesRow_122 (by decide) ?_
            refine lv_iadd hx hb dX12_writesRow_123 ?_
            refine lv_topi (fun x23 ex23 => ?_)
            obtain rfl : x23 = 24 := ex23.trans (by decide)
            refine va_put (D := (dC, dI)) (ci := 15) (v := .int 24) (ty := .int) (C := RX12) (T := TX12) (N := 78) hx hb hts bF_X12 tyX12 tyX12_ok nmX12 hown hK hP hD hS 0 rfl rfl 9 (by decide) (ht_at hts 0 rfl) (fun _ h9 => h9) rfl (by decide +kernel) rfl rfl (Nat.le_of_ble_eq_true rfl) dX12_writesRow_124 (fun H locs hP hD hS => ?_)
            have hP : va_P (dC, dI) vwCl [(h0, .inr (15, mG q 24)), (q 1, .inl ((cm 1), 1749, .inl g)), (q 7, .inl ((cm 7), 2304, .inl y0)), (q 8, .inl ((cm 8), 2304, .inl y1))] H := hP
            have hD : va_D A [(h0, .inr (15, mG q 24)), (q 1, .inl ((cm 1), 1749, .inl g)), (q 7, .inl ((cm 7), 2304, .inl y0)), (q 8, .inl ((cm 8), 2304, .inl y1))] := hD
            exact W.vret hx hb hr (fun t ht hW => ⟨⟨(23 + 1, y0, y1), rfl, (by exact (show 23 < 24 by decide)), by rw [ht]; exact hP.sub (ws' := [(h0, .inr (15, mG q 24)), (q 1, .inl ((cm 1), 1749, .inl g)), (q 7, .inl ((cm 7), 2304, .inl y0)), (q 8, .inl ((cm 8), 2304, .inl y1))]) [0, 1, 2, 3] rfl, hD.sub (ws' := [(h0, .inr (15, mG q 24)), (q 1, .inl ((cm 1), 1749, .inl g)), (q 7, .inl ((cm 7), 2304, .inl y0)), (q 8, .inl ((cm 8), 2304, .inl y1))]) [0, 1, 2, 3] (by decide) rfl⟩, hS.F ht⟩) hS.2.2 dX12_writesRow_127
          | succ n21 ih21 =>
            intro i hn21 y0 y1 H locs hP hD hS ls hl
            have hlt24 : i < 96 := by omega
            refine lv_iload_n hx hb dX12_writesRow_67 rfl (lv_at hl 0 rfl) ?_
            refine lv_bipush (v := 96) hx hb dX12_writesRow_68 (by decide) ?_
            refine lv_icmp_ge (tgt := 117) hx hb dX12_writesRow_70 (by decide) (fun c25 => absurd c25 (nI_ge (b := 96) hlt24 (by decide))) (fun c25 => ?_)
            refine lv_aload_n hx hb dX12_writesRow_73 rfl (lv_at hl 1 rfl) ?_
            refine va_get (D := (dC, dI)) (ci := 15) (v := .ref (q 7)) (C := RX12) (T := TX12) (N := 78) hx hb hts bF_X12 hown hK hP 0 rfl rfl 7 (by decide) (ht_at hts 1 rfl) (fun _ h9 => h9) rfl dX12_writesRow_74 ?_
            refine lv_bipush (v := 96) hx hb dX12_writesRow_77 (by decide) ?_
            refine lv_aload_n hx hb dX12_writesRow_79 rfl (lv_at hl 1 rfl) ?_
            refine va_get (D := (dC, dI)) (ci := 15) (v := .int (nI 23)) (C := RX12) (T := TX12) (N := 78) hx hb hts bF_X12 hown hK hP 0 rfl rfl 9 (by decide) (ht_at hts 0 rfl) (fun _ h9 => h9) rfl dX12_writesRow_80 ?_
            refine lv_imul hx hb dX12_writesRow_83 ?_
            refine lv_topi (fun x26 ex26 => ?_)
            obtain rfl : x26 = 2208 := ex26.trans (by decide)
            refine lv_iload_n hx hb dX12_writesRow_84 rfl (lv_at hl 0 rfl) ?_
            refine lv_iadd hx hb dX12_writesRow_85 ?_
            refine lv_topi (fun x27 ex27 => ?_)
            obtain rfl : nI (96 * 23 + i) = x27 := (ex27.trans (nI_add _ _)).symm
            refine lv_aload_n hx hb dX12_writesRow_86 rfl (lv_at hl 1 rfl) ?_
            refine lv_iload_n hx hb dX12_writesRow_87 rfl (lv_at hl 0 rfl) ?_
            have hPc := hP.sub (ws' := [(h0, .inr (15, mG q (nI 23))), (q 1, .inl ((cm 1), 1749, .inl g))]) [0, 1] rfl
            have hDc := hD.sub (ws' := [(h0, .inr (15, mG q (nI 23))), (q 1, .inl ((cm 1), 1749, .inl g))]) [0, 1] (by decide) rfl
            have hKc := hK.sub (tys' := [((cm 1), .int)]) [0] rfl
            have hFc := va_free (wc := [(h0, .inr (15, mG q (nI 23))), (q 1, .inl ((cm 1), 1749, .inl g))]) hD hS hA [0, 1] rfl
            refine va_calli (va_runV (As := [.int (nI i)]) (rest := [.int (nI (96 * 23 + i)), .ref (q 7)]) ⟨hx, hb, hml, hown, hts⟩ (r_level l dC dI h0 q cm (nI 23) g (nI i) v H.size hz (sq_of hlt24) hv hv0) (cwV 1 hts (goodIn_app (goodIn_r _ [18, 19, 20, 9] (by decide +kernel) (by decide +kernel)) (goodIn_ca (goodIn_r _ [3, 4, 5, 6, 7, 8, 9, 10, 11, 12, 13, 14, 15, 16, 17] (by decide +kernel) (by decide +kernel)) (bs_in _ _))) rfl rfl rfl (by decide +kernel) ⟨(Nat.le_of_ble_eq_true rfl), (Nat.le_of_ble_eq_true rfl)⟩) ⟨fun a U g mk q => by obtain ⟨q0, q1, qP, qK, qD⟩ := q; exact ⟨q0, q1, qP, va_K.moved (u := U) (U := U.calling g mk a) (Vm.Alike.refl U.vm) qK, qD⟩, va_recv hKc hPc (ci := 15) (q0 := 0) rfl rfl, fun U hU hW => ⟨rfl, by rw [hU], by rw [hU]; exact hPc, va_K.moved hW.alike hKc, hDc.weaken (fun _ _ _ _ => trivial)⟩⟩ rfl rfl hl.1 rfl (lv_room (Nat.le_of_ble_eq_true rfl)) dX12_writesRow_88 ⟨(Nat.le_of_ble_eq_true rfl), (Nat.le_of_ble_eq_true rfl)⟩) hS (fun q _ h => hFc q h) hFc (fun r29 u t H1 locs ht hvm hw30 hB hz1 hk1 hS => ?_)
            obtain ⟨hP1, hD1⟩ := hB
            rw [ht] at hP1
            obtain ⟨hP, hD⟩ := va_join (wr := [(q 7, .inl ((cm 7), 2304, .inl y0)), (q 8, .inl ((cm 8), 2304, .inl y1))]) (w1 := [(h0, .inr (15, mG q (nI 23))), (q 1, .inl ((cm 1), 1749, .inl g))]) hP hD [0, 1] [2, 3] rfl rfl (by decide) (by decide) hk1 hFc hP1 hD1
            generalize H1 = H at hP hS ⊢
            have hP : va_P (dC, dI) vwCl [(q 7, .inl ((cm 7), 2304, .inl y0)), (q 8, .inl ((cm 8), 2304, .inl y1)), (h0, .inr (15, mG q (nI 23))), (q 1, .inl ((cm 1), 1749, .inl g))] H := hP
            have hD : va_D A [(q 7, .inl ((cm 7), 2304, .inl y0)), (q 8, .inl ((cm 8), 2304, .inl y1)), (h0, .inr (15, mG q (nI 23))), (q 1, .inl ((cm 1), 1749, .inl g))] := hD
            try dsimp only at hw30
            obtain rfl : 0 = r29 := (hw30).symm
            refine va_iast hx hb hK hP hD hS 0 1 rfl rfl (vp_in_nI (by have := (show 23 < 24 by decide); omega) (by decide)) dX12_writesRow_91 (fun H locs hP hD hS => ?_)
            have hP : va_P (dC, dI) vwCl [(q 7, .inl ((cm 7), 2304, .inl (upd y0 (nI (96 * 23 + i)).toNatClampNeg 0))), (q 8, .inl ((cm 8), 2304, .inl y1)), (h0, .inr (15, mG q (nI 23))), (q 1, .inl ((cm 1), 1749, .inl g))] H := hP
            have hD : va_D A [(q 7, .inl ((cm 7), 2304, .inl (upd y0 (nI (96 * 23 + i)).toNatClampNeg 0))), (q 8, .inl ((cm 8), 2304, .inl y1)), (h0, .inr (15, mG q (nI 23))), (q 1, .inl ((cm 1), 1749, .inl g))] := hD
            refine lv_aload_n hx hb dX12_writesRow_92 rfl (lv_at hl 1 rfl) ?_
            refine va_get (D := (dC, dI)) (ci := 15) (v := .ref (q 8)) (C := RX12) (T := TX12) (N := 78) hx hb hts bF_X12 hown hK hP 2 rfl rfl 8 (by decide) (ht_at hts 20 rfl) (fun _ h9 => h9) rfl dX12_writesRow_93 ?_
            refine lv_bipush (v := 96) hx hb dX12_writesRow_96 (by decide) ?_
            refine lv_aload_n hx hb dX12_writesRow_98 rfl (lv_at hl 1 rfl) ?_
            refine va_get (D := (dC, dI)) (ci := 15) (v := .int (nI 23)) (C := RX12) (T := TX12) (N := 78) hx hb hts bF_X12 hown hK hP 2 rfl rfl 9 (by decide) (ht_at hts 0 rfl) (fun _ h9 => h9) rfl dX12_writesRow_99 ?_
            refine lv_imul hx hb dX12_writesRow_102 ?_
            refine lv_topi (fun x31 ex31 => ?_)
            obtain rfl : x31 = 2208 := ex31.trans (by decide)
            refine lv_iload_n hx hb dX12_writesRow_103 rfl (lv_at hl 0 rfl) ?_
            refine lv_iadd hx hb dX12_writesRow_104 ?_
            refine lv_topi (fun x32 ex32 => ?_)
            obtain rfl : nI (96 * 23 + i) = x32 := (ex32.trans (nI_add _ _)).symm
            refine lv_aload_n hx hb dX12_writesRow_105 rfl (lv_at hl 1 rfl) ?_
            refine lv_iload_n hx hb dX12_writesRow_106 rfl (lv_at hl 0 rfl) ?_
            have hPc := hP.sub (ws' := [(h0, .inr (15, mG q (nI 23))), (q 1, .inl ((cm 1), 1749, .inl g))]) [2, 3] rfl
            have hDc := hD.sub (ws' := [(h0, .inr (15, mG q (nI 23))), (q 1, .inl ((cm 1), 1749, .inl g))]) [2, 3] (by decide) rfl
            have hKc := hK.sub (tys' := [((cm 1), .int)]) [0] rfl
            have hFc := va_free (wc := [(h0, .inr (15, mG q (nI 23))), (q 1, .inl ((cm 1), 1749, .inl g))]) hD hS hA [2, 3] rfl
            refine va_calli (va_runV (As := [.int (nI i)]) (rest := [.int (nI (96 * 23 + i)), .ref (q 8)]) ⟨hx, hb, hml, hown, hts⟩ (r_level l dC dI h0 q cm (nI 23) g (nI i) v H.size hz (sq_of hlt24) hv hv0) (cwV 1 hts (goodIn_app (goodIn_r _ [18, 19, 20, 9] (by decide +kernel) (by decide +kernel)) (goodIn_ca (goodIn_r _ [3, 4, 5, 6, 7, 8, 9, 10, 11, 12, 13, 14, 15, 16, 17] (by decide +kernel) (by decide +kernel)) (bs_in _ _))) rfl rfl rfl (by decide +kernel) ⟨(Nat.le_of_ble_eq_true rfl), (Nat.le_of_ble_eq_true rfl)⟩) ⟨fun a U g mk q => by obtain ⟨q0, q1, qP, qK, qD⟩ := q; exact ⟨q0, q1, qP, va_K.moved (u := U) (U := U.calling g mk a) (Vm.Alike.refl U.vm) qK, qD⟩, va_recv hKc hPc (ci := 15) (q0 := 0) rfl rfl, fun U hU hW => ⟨rfl, by rw [hU], by rw [hU]; exact hPc, va_K.moved hW.alike hKc, hDc.weaken (fun _ _ _ _ => trivial)⟩⟩ rfl rfl hl.1 rfl (lv_room (Nat.le_of_ble_eq_true rfl)) dX12_writesRow_107 ⟨(Nat.le_of_ble_eq_true rfl), (Nat.le_of_ble_eq_true rfl)⟩) hS (fun q _ h => hFc q h) hFc (fun r34 u t H1 locs ht hvm hw35 hB hz1 hk1 hS => ?_)
            obtain ⟨hP1, hD1⟩ := hB
            rw [ht] at hP1
            obtain ⟨hP, hD⟩ := va_join (wr := [(q 7, .inl ((cm 7), 2304, .inl (upd y0 (nI (96 * 23 + i)).toNatClampNeg 0))), (q 8, .inl ((cm 8), 2304, .inl y1))]) (w1 := [(h0, .inr (15, mG q (nI 23))), (q 1, .inl ((cm 1), 1749, .inl g))]) hP hD [2, 3] [0, 1] rfl rfl (by decide) (by decide) hk1 hFc hP1 hD1
            generalize H1 = H at hP hS ⊢
            have hP : va_P (dC, dI) vwCl [(q 7, .inl ((cm 7), 2304, .inl (upd y0 (nI (96 * 23 + i)).toNatClampNeg 0))), (q 8, .inl ((cm 8), 2304, .inl y1)), (h0, .inr (15, mG q (nI 23))), (q 1, .inl ((cm 1), 1749, .inl g))] H := hP
            have hD : va_D A [(q 7, .inl ((cm 7), 2304, .inl (upd y0 (nI (96 * 23 + i)).toNatClampNeg 0))), (q 8, .inl ((cm 8), 2304, .inl y1)), (h0, .inr (15, mG q (nI 23))), (q 1, .inl ((cm 1), 1749, .inl g))] := hD
            try dsimp only at hw35
            obtain rfl : 0 = r34 := (hw35).symm
            refine va_iast hx hb hK hP hD hS 1 2 rfl rfl (vp_in_nI (by have := (show 23 < 24 by decide); omega) (by decide)) dX12_writesRow_110 (fun H locs hP hD hS => ?_)
            have hP : va_P (dC, dI) vwCl [(q 7, .inl ((cm 7), 2304, .inl (upd y0 (nI (96 * 23 + i)).toNatClampNeg 0))), (q 8, .inl ((cm 8), 2304, .inl (upd y1 (nI (96 * 23 + i)).toNatClampNeg 0))), (h0, .inr (15, mG q (nI 23))), (q 1, .inl ((cm 1), 1749, .inl g))] H := hP
            have hD : va_D A [(q 7, .inl ((cm 7), 2304, .inl (upd y0 (nI (96 * 23 + i)).toNatClampNeg 0))), (q 8, .inl ((cm 8), 2304, .inl (upd y1 (nI (96 * 23 + i)).toNatClampNeg 0))), (h0, .inr (15, mG q (nI 23))), (q 1, .inl ((cm 1), 1749, .inl g))] := hD
            obtain ⟨x36, ex36⟩ : ∃ y : Int32, y = (nI i) + 1 := ⟨_, rfl⟩
            refine lv_iinc (v := x36) (lv' := [(1, .int x36), (0, .ref h0)]) hx hb dX12_writesRow_111 hl (k := 0) rfl (by rw [ex36]; rfl) (by decide) rfl (fun ls hl => ?_)
            refine lv_goto (tgt := 67) hx hb dX12_writesRow_114 (by decide) ?_
            obtain rfl : x36 = nI (i + 1) := ex36.trans (nI_1 i)
            exact ih21 (i + 1) (by omega) (upd y0 (nI (96 * 23 + i)).toNatClampNeg 0) (upd y1 (nI (96 * 23 + i)).toNatClampNeg 0) _ _ (hP.sub [2, 3, 0, 1] rfl) (hD.sub [2, 3, 0, 1] (by decide) rfl) hS ls (lv_sub hl [0, 1] rfl)
        exact key21 96 0 (by decide) y0 y1 _ _ (hP.sub [0, 1, 2, 3] rfl) (hD.sub [0, 1, 2, 3] (by decide) rfl) hS ls (lv_sub hl [0, 1] rfl)
      | succ n18 ih18 =>
        intro i hn18 y0 y1 h96 H locs hP hD hS ls hl
        have hlt37 : i < 2304 := by omega
        refine lv_iload_n hx hb dX12_writesRow_12 rfl (lv_at hl 0 rfl) ?_
        refine lv_sipush (v := 2304) hx hb dX12_writesRow_13 (by decide) ?_
        refine lv_icmp_ge (tgt := 55) hx hb dX12_writesRow_16 (by decide) (fun c38 => absurd c38 (nI_ge (b := 2304) hlt37 (by decide))) (fun c38 => ?_)
        refine lv_aload_n hx hb dX12_writesRow_19 rfl (lv_at hl 1 rfl) ?_
        refine va_get (D := (dC, dI)) (ci := 15) (v := .ref (q 7)) (C := RX12) (T := TX12) (N := 78) hx hb hts bF_X12 hown hK hP 0 rfl rfl 7 (by decide) (ht_at hts 1 rfl) (fun _ h9 => h9) rfl dX12_writesRow_20 ?_
        refine lv_iload_n hx hb dX12_writesRow_23 rfl (lv_at hl 0 rfl) ?_
        refine lv_bipush (v := 96) hx hb dX12_writesRow_24 (by decide) ?_
        refine lv_isub hx hb dX12_writesRow_26 ?_
        refine lv_topi (fun x39 ex39 => ?_)
        refine lv_aload_n hx hb dX12_writesRow_27 rfl (lv_at hl 1 rfl) ?_
        refine va_get (D := (dC, dI)) (ci := 15) (v := .ref (q 7)) (C := RX12) (T := TX12) (N := 78) hx hb hts bF_X12 hown hK hP 0 rfl rfl 7 (by decide) (ht_at hts 1 rfl) (fun _ h9 => h9) rfl dX12_writesRow_28 ?_
        refine lv_iload_n hx hb dX12_writesRow_31 rfl (lv_at hl 0 rfl) ?_
        refine va_iald hx hb hK hP 2 1 rfl rfl (vp_in_nI (Nat.lt_of_lt_of_le hlt37 (by decide)) (by decide)) dX12_writesRow_32 ?_
        refine lv_topi (fun x40 ex40 => ?_)
        refine va_iast hx hb hK hP hD hS 2 1 rfl rfl (by rw [ex39, show (96 : Int32) = nI 96 from rfl, pk_sub h96]; exact vp_in_nI (by omega) (by decide)) dX12_writesRow_33 (fun H locs hP hD hS => ?_)
        have hP : va_P (dC, dI) vwCl [(h0, .inr (15, mG q (nI ra))), (q 1, .inl ((cm 1), 1749, .inl g)), (q 7, .inl ((cm 7), 2304, .inl (upd y0 x39.toNatClampNeg x40))), (q 8, .inl ((cm 8), 2304, .inl y1))] H := hP
        have hD : va_D A [(h0, .inr (15, mG q (nI ra))), (q 1, .inl ((cm 1), 1749, .inl g)), (q 7, .inl ((cm 7), 2304, .inl (upd y0 x39.toNatClampNeg x40))), (q 8, .inl ((cm 8), 2304, .inl y1))] := hD
        refine lv_aload_n hx hb dX12_writesRow_34 rfl (lv_at hl 1 rfl) ?_
        refine va_get (D := (dC, dI)) (ci := 15) (v := .ref (q 8)) (C := RX12) (T := TX12) (N := 78) hx hb hts bF_X12 hown hK hP 0 rfl rfl 8 (by decide) (ht_at hts 20 rfl) (fun _ h9 => h9) rfl dX12_writesRow_35 ?_
        refine lv_iload_n hx hb dX12_writesRow_38 rfl (lv_at hl 0 rfl) ?_
        refine lv_bipush (v := 96) hx hb dX12_writesRow_39 (by decide) ?_
        refine lv_isub hx hb dX12_writesRow_41 ?_
        refine lv_topi (fun x41 ex41 => ?_)
        refine lv_aload_n hx hb dX12_writesRow_42 rfl (lv_at hl 1 rfl) ?_
        refine va_get (D := (dC, dI)) (ci := 15) (v := .ref (q 8)) (C := RX12) (T := TX12) (N := 78) hx hb hts bF_X12 hown hK hP 0 rfl rfl 8 (by decide) (ht_at hts 20 rfl) (fun _ h9 => h9) rfl dX12_writesRow_43 ?_
        refine lv_iload_n hx hb dX12_writesRow_46 rfl (lv_at hl 0 rfl) ?_
        refine va_iald hx hb hK hP 3 2 rfl rfl (vp_in_nI (Nat.lt_of_lt_of_le hlt37 (by decide)) (by decide)) dX12_writesRow_47 ?_
        refine lv_topi (fun x42 ex42 => ?_)
        refine va_iast hx hb hK hP hD hS 3 2 rfl rfl (by rw [ex41, show (96 : Int32) = nI 96 from rfl, pk_sub h96]; exact vp_in_nI (by omega) (by decide)) dX12_writesRow_48 (fun H locs hP hD hS => ?_)
        have hP : va_P (dC, dI) vwCl [(h0, .inr (15, mG q (nI ra))), (q 1, .inl ((cm 1), 1749, .inl g)), (q 7, .inl ((cm 7), 2304, .inl (upd y0 x39.toNatClampNeg x40))), (q 8, .inl ((cm 8), 2304, .inl (upd y1 x41.toNatClampNeg x42)))] H := hP
        have hD : va_D A [(h0, .inr (15, mG q (nI ra))), (q 1, .inl ((cm 1), 1749, .inl g)), (q 7, .inl ((cm 7), 2304, .inl (upd y0 x39.toNatClampNeg x40))), (q 8, .inl ((cm 8), 2304, .inl (upd y1 x41.toNatClampNeg x42)))] := hD
        obtain ⟨x43, ex43⟩ : ∃ y : Int32, y = (nI i) + 1 := ⟨_, rfl⟩
        refine lv_iinc (v := x43) (lv' := [(1, .int x43), (0, .ref h0)]) hx hb dX12_writesRow_49 hl (k := 0) rfl (by rw [ex43]; rfl) (by decide) rfl (fun ls hl => ?_)
        refine lv_goto (tgt := 12) hx hb dX12_writesRow_52 (by decide) ?_
        obtain rfl : x43 = nI (i + 1) := ex43.trans (nI_1 i)
        exact ih18 (i + 1) (by omega) (upd y0 x39.toNatClampNeg x40) (upd y1 x41.toNatClampNeg x42) (by omega) _ _ (hP.sub [0, 1, 2, 3] rfl) (hD.sub [0, 1, 2, 3] (by decide) rfl) hS ls (lv_sub hl [0, 1] rfl)
    exact key18 2208 96 (by decide) f0 f1 (by decide) _ _ (hP.sub [0, 1, 2, 3] rfl) (hD.sub [0, 1, 2, 3] (by decide) rfl) hS ls (lv_sub hl [0, 1] rfl)
