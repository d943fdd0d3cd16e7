def aoT : List String := ["SeaLand$Settler", "SeaLand$Contract", "SeaLand$Work"]
/-- arrays of these objects can be made -/
def AO (U : State) : Prop := ∀ C ∈ aoT, va_AO C U
theorem AO.blind {U : State} (g : JFrame) (mk : MethodId) (a : Array Value) (h : AO U) : AO (U.calling g mk a) := fun C hC => va_AO.moved (u := U) (Vm.Alike.refl U.vm) (h C hC)
theorem AO.call {s U : State} (h : AO s) (hW : s.WarmedH U.vm) : AO U := fun C hC => va_AO.moved hW.alike (h C hC)
theorem nw_i (n : Nat) : ∀ cA : ClassId, vp_cell cA (n, .inl (fun _ => 0)) = arrV cA n (fun _ => defaultValue .int) := fun _ => rfl
theorem nw_z (n : Nat) : ∀ cA : ClassId, vp_cell cA (n, .inl (fun _ => 0)) = arrV cA n (fun _ => defaultValue .boolean) := fun _ => rfl
theorem nw_b (n : Nat) : ∀ cA : ClassId, vp_cell cA (n, .inl (fun _ => 0)) = arrV cA n (fun _ => defaultValue .byte) := fun _ => rfl
theorem nw_l (n : Nat) : ∀ cA : ClassId, vp_cell cA (n, .inr (.inl (fun _ => 0))) = arrV cA n (fun _ => defaultValue .long) := fun _ => rfl
def w_n_Tellings : List Cond := .code yX9_init cX9_init 1 none :: ([.methodLink RX9 3 objectInit, .instanceMethod objectInit, .code objectInit ⟨#[0xb1]⟩ 1 none, .arrayClass .int, .fieldLink RX9 9 "SeaLand$Tellings" "hours" "[I", .fieldLink RX9 15 "SeaLand$Tellings" "numbers" "[I"] ++ bs)
set_option maxHeartbeats 4000000 in
set_option maxRecDepth 100000 in
theorem n_Tellings (l : Launch) (dC : Nat → ClassId) (dI : Nat → Nat → Nat) (h0 : Nat) (sz : Nat) : Met l yX9_init w_n_Tellings ({ frames := 1, cells := 2, slots := 120, locals := 30 }) (va_Pc [.ref h0] (fun U => U.heap.size = sz ∧ va_P (dC, dI) vwCl [(h0, .inr (12, [.null, .null, .int 0]))] U.heap ∧ va_K (dC, dI) vwCl [] U ∧ va_D (fun _ => True) [(h0, .inr (12, [.null, .null, .int 0]))])) (va_Qv (fun (u : (Nat → Nat) × (Nat → ClassId)) => True) (fun (u : (Nat → Nat) × (Nat → ClassId)) (t : State) => match u with | (v, kk) => va_P (dC, dI) vwCl [(h0, .inr (12, [.ref (v 0), .ref (v 1), .int 0])), (v 0, .inl ((kk 0), 60, .inl (fun _ => 0))), (v 1, .inl ((kk 1), 60, .inl (fun _ => 0)))] t.heap ∧ va_K (dC, dI) vwCl [((kk 0), .int), ((kk 1), .int)] t ∧ va_D (va_A [(h0, .inr (12, [.null, .null, .int 0]))] sz) [(h0, .inr (12, [.ref (v 0), .ref (v 1), .int 0])), (v 0, .inl ((kk 0), 60, .inl (fun _ => 0))), (v 1, .inl ((kk 1), 60, .inl (fun _ => 0)))]) (va_A [(h0, .inr (12, [.null, .null, .int 0]))] sz)) 2 120 (va_A [(h0, .inr (12, [.null, .null, .int 0]))] sz) := by
  refine Met.ofW (cc := cX9_init) (maxL := 1) (ret := none) (by decide) rfl ?_
  intro p e s m args below meth c s₁ B hml hv
  obtain ⟨rfl, hsz, hP, hK, hD0⟩ := hv
  have hx := B.exec
  have hb := B.bytes
  have hr := B.returns
  have hts := atoms_spec (ws := w_n_Tellings) B.pre
  have hown : s.vm.findClass RX9 = some m.cls := findClass_of_methodNamed B.named
  have hlocks := B.notSynchronized
  have hin : meth.name = "<init>" := (name_of_methodNamed B.named B.method).1
  subst hsz
  have hD := hD0.self (sz := s.heap.size)
  generalize hAe : va_A [(h0, .inr (12, [.null, .null, .int 0]))] s.heap.size = A at hD ⊢
  have hA : ∀ q : Nat, s.heap.size ≤ q → A q := fun q h => by rw [← hAe]; exact Or.inr h
  have hS : va_S A s.heap s.heap [] := va_S.rf
  have hP : va_P (dC, dI) vwCl [(h0, .inr (12, [.null, .null, .int 0]))] s.heap := hP
  have hl := lv_entry ([.ref h0]) (n := 1) (Nat.le_of_ble_eq_true rfl)
  rw [lg_entry_eq]
  generalize (lg_sl ([.ref h0]) ++ List.replicate (1 - (lg_sl ([.ref h0])).length) Slot.unset).toArray = ls at hl ⊢
  have hl : lv_has ls 1 [(0, .ref h0)] := hl
  refine lv_aload_n hx hb dX9_init_0 rfl (lv_at hl 0 rfl) ?_
  refine W.objInit hx hb hown (ht_at hts 0 rfl) (ht_at hts 1 rfl) (ht_at hts 2 rfl) rfl (by rw [hml]; exact hl.1) rfl dX9_init_1 (Nat.le_of_ble_eq_true rfl) (Nat.le_of_ble_eq_true rfl) ?_
  refine W.eq (g2 := F0 m 4 ls []) rfl ?_
  refine lv_aload_n hx hb dX9_init_4 rfl (lv_at hl 0 rfl) ?_
  refine lv_bipush (v := 60) hx hb dX9_init_5 (by decide) ?_
  refine va_newa (ty := .int) (N' := 60) (a0 := (60, .inl (fun _ => 0))) hx hb (ht_at hts 3 rfl) rfl hK hP hD hS hA (nw_i 60) (by decide) rfl (Nat.le_of_ble_eq_true rfl) (Nat.le_of_ble_eq_true rfl) (Nat.le_of_ble_eq_true rfl) dX9_init_7 (fun q1 k2 H hK hP hD hS => ?_)
  have hP : va_P (dC, dI) vwCl [(h0, .inr (12, [.null, .null, .int 0])), (q1, .inl (k2, 60, .inl (fun _ => 0)))] H := hP
  have hD : va_D A [(h0, .inr (12, [.null, .null, .int 0])), (q1, .inl (k2, 60, .inl (fun _ => 0)))] := hD
  have hK : va_K (dC, dI) vwCl [(k2, .int)] s := hK
  refine va_putF (D := (dC, dI)) (ci := 12) (v := .ref q1) (ty := (.array .int)) (C := RX9) (T := TX9) (N := 3) hx hb hts bF_X9 tyX9 tyX9_ok nmX9 hown hK hP hD hS 0 rfl rfl 0 (by decide) (ht_at hts 4 rfl) (fun _ h9 => h9) rfl hin rfl (by decide +kernel) rfl rfl (Nat.le_of_ble_eq_true rfl) dX9_init_9 (fun H locs hP hD hS => ?_)
  have hP : va_P (dC, dI) vwCl [(h0, .inr (12, [.ref q1, .null, .int 0])), (q1, .inl (k2, 60, .inl (fun _ => 0)))] H := hP
  have hD : va_D A [(h0, .inr (12, [.ref q1, .null, .int 0])), (q1, .inl (k2, 60, .inl (fun _ => 0)))] := hD
  refine lv_aload_n hx hb dX9_init_12 rfl (lv_at hl 0 rfl) ?_
  refine lv_bipush (v := 60) hx hb dX9_init_13 (by decide) ?_
  refine va_newa (ty := .int) (N' := 60) (a0 := (60, .inl (fun _ => 0))) hx hb (ht_at hts 3 rfl) rfl hK hP hD hS hA (nw_i 60) (by decide) rfl (Nat.le_of_ble_eq_true rfl) (Nat.le_of_ble_eq_true rfl) (Nat.le_of_ble_eq_true rfl) dX9_init_15 (fun q3 k4 H hK hP hD hS => ?_)
  have hP : va_P (dC, dI) vwCl [(h0, .inr (12, [.ref q1, .null, .int 0])), (q1, .inl (k2, 60, .inl (fun _ => 0))), (q3, .inl (k4, 60, .inl (fun _ => 0)))] H := hP
  have hD : va_D A [(h0, .inr (12, [.ref q1, .null, .int 0])), (q1, .inl (k2, 60, .inl (fun _ => 0))), (q3, .inl (k4, 60, .inl (fun _ => 0)))] := hD
  have hK : va_K (dC, dI) vwCl [(k2, .int), (k4, .int)] s := hK
  refine va_putF (D := (dC, dI)) (ci := 12) (v := .ref q3) (ty := (.array .int)) (C := RX9) (T := TX9) (N := 3) hx hb hts bF_X9 tyX9 tyX9_ok nmX9 hown hK hP hD hS 0 rfl rfl 1 (by decide) (ht_at hts 5 rfl) (fun _ h9 => h9) rfl hin rfl (by decide +kernel) rfl rfl (Nat.le_of_ble_eq_true rfl) dX9_init_17 (fun H locs hP hD hS => ?_)
  have hP : va_P (dC, dI) vwCl [(h0, .inr (12, [.ref q1, .ref q3, .int 0])), (q1, .inl (k2, 60, .inl (fun _ => 0))), (q3, .inl (k4, 60, .inl (fun _ => 0)))] H := hP
  have hD : va_D A [(h0, .inr (12, [.ref q1, .ref q3, .int 0])), (q1, .inl (k2, 60, .inl (fun _ => 0))), (q3, .inl (k4, 60, .inl (fun _ => 0)))] := hD
  exact W.vret hx hb hr (fun t ht hW => ⟨⟨((fun i => List.getD [q1, q3] i 0), (fun i => List.getD [k2, k4] i k2)), rfl, (by trivial), by rw [ht]; exact hP.sub (ws' := [(h0, .inr (12, [.ref q1, .ref q3, .int 0])), (q1, .inl (k2, 60, .inl (fun _ => 0))), (q3, .inl (k4, 60, .inl (fun _ => 0)))]) [0, 1, 2] rfl, va_K.moved hW.alike (hK.sub (tys' := [(k2, .int), (k4, .int)]) [0, 1] rfl), hD.sub (ws' := [(h0, .inr (12, [.ref q1, .ref q3, .int 0])), (q1, .inl (k2, 60, .inl (fun _ => 0))), (q3, .inl (k4, 60, .inl (fun _ => 0)))]) [0, 1, 2] (by decide) rfl⟩, hS.F ht⟩) hS.2.2 dX9_init_20
def w_n_Work : List Cond := .code yX10_init cX10_init 1 none :: ([.methodLink RX10 3 objectInit, .instanceMethod objectInit, .code objectInit ⟨#[0xb1]⟩ 1 none, .arrayClass .int, .fieldLink RX10 9 "SeaLand$Work" "thick" "[I", .fieldLink RX10 15 "SeaLand$Work" "clay" "[I"] ++ bs)
set_option maxHeartbeats 4000000 in
set_option maxRecDepth 100000 in
theorem n_Work (l : Launch) (dC : Nat → ClassId) (dI : Nat → Nat → Nat) (h0 : Nat) (sz : Nat) : Met l yX10_init w_n_Work ({ frames := 1, cells := 2, slots := 12, locals := 30 }) (va_Pc [.ref h0] (fun U => U.heap.size = sz ∧ va_P (dC, dI) vwCl [(h0, .inr (13, [.null, .null, .int 0, .int 0, .int 0, .int 0, .int 0, .int 0, .int 0, .int 0, .int 0, .int 0]))] U.heap ∧ va_K (dC, dI) vwCl [] U ∧ va_D (fun _ => True) [(h0, .inr (13, [.null, .null, .int 0, .int 0, .int 0, .int 0, .int 0, .int 0, .int 0, .int 0, .int 0, .int 0]))])) (va_Qv (fun (u : (Nat → Nat) × (Nat → ClassId)) => True) (fun (u : (Nat → Nat) × (Nat → ClassId)) (t : State) => match u with | (v, kk) => va_P (dC, dI) vwCl [(h0, .inr (13, [.ref (v 0), .ref (v 1), .int 0, .int 0, .int 0, .int 0, .int 0, .int 0, .int 0, .int 0, .int 0, .int 0])), (v 0, .inl ((kk 0), 6, .inl (fun _ => 0))), (v 1, .inl ((kk 1), 6, .inl (fun _ => 0)))] t.heap ∧ va_K (dC, dI) vwCl [((kk 0), .int), ((kk 1), .int)] t ∧ va_D (va_A [(h0, .inr (13, [.null, .null, .int 0, .int 0, .int 0, .int 0, .int 0, .int 0, .int 0, .int 0, .int 0, .int 0]))] sz) [(h0, .inr (13, [.ref (v 0), .ref (v 1), .int 0, .int 0, .int 0, .int 0, .int 0, .int 0, .int 0, .int 0, .int 0, .int 0])), (v 0, .inl ((kk 0), 6, .inl (fun _ => 0))), (v 1, .inl ((kk 1), 6, .inl (fun _ => 0)))]) (va_A [(h0, .inr (13, [.null, .null, .int 0, .int 0, .int 0, .int 0, .int 0, .int 0, .int 0, .int 0, .int 0, .int 0]))] sz)) 2 12 (va_A [(h0, .inr (13, [.null, .null, .int 0, .int 0, .int 0, .int 0, .int 0, .int 0, .int 0, .int 0, .int 0, .int 0]))] sz) := by
  refine Met.ofW (cc := cX10_init) (maxL := 1) (ret := none) (by decide) rfl ?_
  intro p e s m args below meth c s₁ B hml hv
  obtain ⟨rfl, hsz, hP, hK, hD0⟩ := hv
  have hx := B.exec
  have hb := B.bytes
  have hr := B.returns
  have hts := atoms_spec (ws := w_n_Work) B.pre
  have hown : s.vm.findClass RX10 = some m.cls := findClass_of_methodNamed B.named
  have hlocks := B.notSynchronized
  have hin : meth.name = "<init>" := (name_of_methodNamed B.named B.method).1
  subst hsz
  have hD := hD0.self (sz := s.heap.size)
  generalize hAe : va_A [(h0, .inr (13, [.null, .null, .int 0, .int 0, .int 0, .int 0, .int 0, .int 0, .int 0, .int 0, .int 0, .int 0]))] s.heap.size = A at hD ⊢
  have hA : ∀ q : Nat, s.heap.size ≤ q → A q := fun q h => by rw [← hAe]; exact Or.inr h
  have hS : va_S A s.heap s.heap [] := va_S.rf
  have hP : va_P (dC, dI) vwCl [(h0, .inr (13, [.null, .null, .int 0, .int 0, .int 0, .int 0, .int 0, .int 0, .int 0, .int 0, .int 0, .int 0]))] s.heap := hP
  have hl := lv_entry ([.ref h0]) (n := 1) (Nat.le_of_ble_eq_true rfl)
  rw [lg_entry_eq]
  generalize (lg_sl ([.ref h0]) ++ List.replicate (1 - (lg_sl ([.ref h0])).length) Slot.unset).toArray = ls at hl ⊢
  have hl : lv_has ls 1 [(0, .ref h0)] := hl
  refine lv_aload_n hx hb dX10_init_0 rfl (lv_at hl 0 rfl) ?_
  refine W.objInit hx hb hown (ht_at hts 0 rfl) (ht_at hts 1 rfl) (ht_at hts 2 rfl) rfl (by rw [hml]; exact hl.1) rfl dX10_init_1 (Nat.le_of_ble_eq_true rfl) (Nat.le_of_ble_eq_true rfl) ?_
  refine W.eq (g2 := F0 m 4 ls []) rfl ?_
  refine lv_aload_n hx hb dX10_init_4 rfl (lv_at hl 0 rfl) ?_
  refine lv_bipush (v := 6) hx hb dX10_init_5 (by decide) ?_
  refine va_newa (ty := .int) (N' := 6) (a0 := (6, .inl (fun _ => 0))) hx hb (ht_at hts 3 rfl) rfl hK hP hD hS hA (nw_i 6) (by decide) rfl (Nat.le_of_ble_eq_true rfl) (Nat.le_of_ble_eq_true rfl) (Nat.le_of_ble_eq_true rfl) dX10_init_7 (fun q1 k2 H hK hP hD hS => ?_)
  have hP : va_P (dC, dI) vwCl [(h0, .inr (13, [.null, .null, .int 0, .int 0, .int 0, .int 0, .int 0, .int 0, .int 0, .int 0, .int 0, .int 0])), (q1, .inl (k2, 6, .inl (fun _ => 0)))] H := hP
  have hD : va_D A [(h0, .inr (13, [.null, .null, .int 0, .int 0, .int 0, .int 0, .int 0, .int 0, .int 0, .int 0, .int 0, .int 0])), (q1, .inl (k2, 6, .inl (fun _ => 0)))] := hD
  have hK : va_K (dC, dI) vwCl [(k2, .int)] s := hK
  refine va_putF (D := (dC, dI)) (ci := 13) (v := .ref q1) (ty := (.array .int)) (C := RX10) (T := TX10) (N := 12) hx hb hts bF_X10 tyX10 tyX10_ok nmX10 hown hK hP hD hS 0 rfl rfl 0 (by decide) (ht_at hts 4 rfl) (fun _ h9 => h9) rfl hin rfl (by decide +kernel) rfl rfl (Nat.le_of_ble_eq_true rfl) dX10_init_9 (fun H locs hP hD hS => ?_)
  have hP : va_P (dC, dI) vwCl [(h0, .inr (13, [.ref q1, .null, .int 0, .int 0, .int 0, .int 0, .int 0, .int 0, .int 0, .int 0, .int 0, .int 0])), (q1, .inl (k2, 6, .inl (fun _ => 0)))] H := hP
  have hD : va_D A [(h0, .inr (13, [.ref q1, .null, .int 0, .int 0, .int 0, .int 0, .int 0, .int 0, .int 0, .int 0, .int 0, .int 0])), (q1, .inl (k2, 6, .inl (fun _ => 0)))] := hD
  refine lv_aload_n hx hb dX10_init_12 rfl (lv_at hl 0 rfl) ?_
  refine lv_bipush (v := 6) hx hb dX10_init_13 (by decide) ?_
  refine va_newa (ty := .int) (N' := 6) (a0 := (6, .inl (fun _ => 0))) hx hb (ht_at hts 3 rfl) rfl hK hP hD hS hA (nw_i 6) (by decide) rfl (Nat.le_of_ble_eq_true rfl) (Nat.le_of_ble_eq_true rfl) (Nat.le_of_ble_eq_true rfl) dX10_init_15 (fun q3 k4 H hK hP hD hS => ?_)
  have hP : va_P (dC, dI) vwCl [(h0, .inr (13, [.ref q1, .null, .int 0, .int 0, .int 0, .int 0, .int 0, .int 0, .int 0, .int 0, .int 0, .int 0])), (q1, .inl (k2, 6, .inl (fun _ => 0))), (q3, .inl (k4, 6, .inl (fun _ => 0)))] H := hP
  have hD : va_D A [(h0, .inr (13, [.ref q1, .null, .int 0, .int 0, .int 0, .int 0, .int 0, .int 0, .int 0, .int 0, .int 0, .int 0])), (q1, .inl (k2, 6, .inl (fun _ => 0))), (q3, .inl (k4, 6, .inl (fun _ => 0)))] := hD
  have hK : va_K (dC, dI) vwCl [(k2, .int), (k4, .int)] s := hK
  refine va_putF (D := (dC, dI)) (ci := 13) (v := .ref q3) (ty := (.array .int)) (C := RX10) (T := TX10) (N := 12) hx hb hts bF_X10 tyX10 tyX10_ok nmX10 hown hK hP hD hS 0 rfl rfl 1 (by decide) (ht_at hts 5 rfl) (fun _ h9 => h9) rfl hin rfl (by decide +kernel) rfl rfl (Nat.le_of_ble_eq_true rfl) dX10_init_17 (fun H locs hP hD hS => ?_)
  have hP : va_P (dC, dI) vwCl [(h0, .inr (13, [.ref q1, .ref q3, .int 0, .int 0, .int 0, .int 0, .int 0, .int 0, .int 0, .int 0, .int 0, .int 0])), (q1, .inl (k2, 6, .inl (fun _ => 0))), (q3, .inl (k4, 6, .inl (fun _ => 0)))] H := hP
  have hD : va_D A [(h0, .inr (13, [.ref q1, .ref q3, .int 0, .int 0, .int 0, .int 0, .int 0, .int 0, .int 0, .int 0, .int 0, .int 0])), (q1, .inl (k2, 6, .inl (fun _ => 0))), (q3, .inl (k4, 6, .inl (fun _ => 0)))] := hD
  exact W.vret hx hb hr (fun t ht hW => ⟨⟨((fun i => List.getD [q1, q3] i 0), (fun i => List.getD [k2, k4] i k2)), rfl, (by trivial), by rw [ht]; exact hP.sub (ws' := [(h0, .inr (13, [.ref q1, .ref q3, .int 0, .int 0, .int 0, .int 0, .int 0, .int 0, .int 0, .int 0, .int 0, .int 0])), (q1, .inl (k2, 6, .inl (fun _ => 0))), (q3, .inl (k4, 6, .inl (fun _ => 0)))]) [0, 1, 2] rfl, va_K.moved hW.alike (hK.sub (tys' := [(k2, .int), (k4, .int)]) [0, 1] rfl), hD.sub (ws' := [(h0, .inr (13, [.ref q1, .ref q3, .int 0, .int 0, .int 0, .int 0, .int 0, .int 0, .int 0, .int 0, .int 0, .int 0])), (q1, .inl (k2, 6, .inl (fun _ => 0))), (q3, .inl (k4, 6, .inl (fun _ => 0)))]) [0, 1, 2] (by decide) rfl⟩, hS.F ht⟩) hS.2.2 dX10_init_20
def w_n_Rows : List Cond := .code yX6_init cX6_init 1 none :: ([.methodLink RX6 3 objectInit, .instanceMethod objectInit, .code objectInit ⟨#[0xb1]⟩ 1 none, .arrayClass .int, .fieldLink RX6 9 "SeaLand$Rows" "shown" "[I", .fieldLink RX6 15 "SeaLand$Rows" "proof" "[I"] ++ bs)
set_option maxHeartbeats 4000000 in
set_option maxRecDepth 100000 in
theorem n_Rows (l : Launch) (dC : Nat → ClassId) (dI : Nat → Nat → Nat) (h0 : Nat) (sz : Nat) : Met l yX6_init w_n_Rows ({ frames := 1, cells := 2, slots := 4608, locals := 30 }) (va_Pc [.ref h0] (fun U => U.heap.size = sz ∧ va_P (dC, dI) vwCl [(h0, .inr (9, [.null, .null, .int 0, .int 0]))] U.heap ∧ va_K (dC, dI) vwCl [] U ∧ va_D (fun _ => True) [(h0, .inr (9, [.null, .null, .int 0, .int 0]))])) (va_Qv (fun (u : (Nat → Nat) × (Nat → ClassId)) => True) (fun (u : (Nat → Nat) × (Nat → ClassId)) (t : State) => match u with | (v, kk) => va_P (dC, dI) vwCl [(h0, .inr (9, [.ref (v 0), .ref (v 1), .int 0, .int 0])), (v 0, .inl ((kk 0), 2304, .inl (fun _ => 0))), (v 1, .inl ((kk 1), 2304, .inl (fun _ => 0)))] t.heap ∧ va_K (dC, dI) vwCl [((kk 0), .int), ((kk 1), .int)] t ∧ va_D (va_A [(h0, .inr (9, [.null, .null, .int 0, .int 0]))] sz) [(h0, .inr (9, [.ref (v 0), .ref (v 1), .int 0, .int 0])), (v 0, .inl ((kk 0), 2304, .inl (fun _ => 0))), (v 1, .inl ((kk 1), 2304, .inl (fun _ => 0)))]) (va_A [(h0, .inr (9, [.null, .null, .int 0, .int 0]))] sz)) 2 4608 (va_A [(h0, .inr (9, [.null, .null, .int 0, .int 0]))] sz) := by
  refine Met.ofW (cc := cX6_init) (maxL := 1) (ret := none) (by decide) rfl ?_
  intro p e s m args below meth c s₁ B hml hv
  obtain ⟨rfl, hsz, hP, hK, hD0⟩ := hv
  have hx := B.exec
  have hb := B.bytes
  have hr := B.returns
  have hts := atoms_spec (ws := w_n_Rows) B.pre
  have hown : s.vm.findClass RX6 = some m.cls := findClass_of_methodNamed B.named
  have hlocks := B.notSynchronized
  have hin : meth.name = "<init>" := (name_of_methodNamed B.named B.method).1
  subst hsz
  have hD := hD0.self (sz := s.heap.size)
  generalize hAe : va_A [(h0, .inr (9, [.null, .null, .int 0, .int 0]))] s.heap.size = A at hD ⊢
  have hA : ∀ q : Nat, s.heap.size ≤ q → A q := fun q h => by rw [← hAe]; exact Or.inr h
  have hS : va_S A s.heap s.heap [] := va_S.rf
  have hP : va_P (dC, dI) vwCl [(h0, .inr (9, [.null, .null, .int 0, .int 0]))] s.heap := hP
  have hl := lv_entry ([.ref h0]) (n := 1) (Nat.le_of_ble_eq_true rfl)
  rw [lg_entry_eq]
  generalize (lg_sl ([.ref h0]) ++ List.replicate (1 - (lg_sl ([.ref h0])).length) Slot.unset).toArray = ls at hl ⊢
  have hl : lv_has ls 1 [(0, .ref h0)] := hl
  refine lv_aload_n hx hb dX6_init_0 rfl (lv_at hl 0 rfl) ?_
  refine W.objInit hx hb hown (ht_at hts 0 rfl) (ht_at hts 1 rfl) (ht_at hts 2 rfl) rfl (by rw [hml]; exact hl.1) rfl dX6_init_1 (Nat.le_of_ble_eq_true rfl) (Nat.le_of_ble_eq_true rfl) ?_
  refine W.eq (g2 := F0 m 4 ls []) rfl ?_
  refine lv_aload_n hx hb dX6_init_4 rfl (lv_at hl 0 rfl) ?_
  refine lv_sipush (v := 2304) hx hb dX6_init_5 (by decide) ?_
  refine va_newa (ty := .int) (N' := 2304) (a0 := (2304, .inl (fun _ => 0))) hx hb (ht_at hts 3 rfl) rfl hK hP hD hS hA (nw_i 2304) (by decide) rfl (Nat.le_of_ble_eq_true rfl) (Nat.le_of_ble_eq_true rfl) (Nat.le_of_ble_eq_true rfl) dX6_init_8 (fun q1 k2 H hK hP hD hS => ?_)
  have hP : va_P (dC, dI) vwCl [(h0, .inr (9, [.null, .null, .int 0, .int 0])), (q1, .inl (k2, 2304, .inl (fun _ => 0)))] H := hP
  have hD : va_D A [(h0, .inr (9, [.null, .null, .int 0, .int 0])), (q1, .inl (k2, 2304, .inl (fun _ => 0)))] := hD
  have hK : va_K (dC, dI) vwCl [(k2, .int)] s := hK
  refine va_putF (D := (dC, dI)) (ci := 9) (v := .ref q1) (ty := (.array .int)) (C := RX6) (T := TX6) (N := 4) hx hb hts bF_X6 tyX6 tyX6_ok nmX6 hown hK hP hD hS 0 rfl rfl 0 (by decide) (ht_at hts 4 rfl) (fun _ h9 => h9) rfl hin rfl (by decide +kernel) rfl rfl (Nat.le_of_ble_eq_true rfl) dX6_init_10 (fun H locs hP hD hS => ?_)
  have hP : va_P (dC, dI) vwCl [(h0, .inr (9, [.ref q1, .null, .int 0, .int 0])), (q1, .inl (k2, 2304, .inl (fun _ => 0)))] H := hP
  have hD : va_D A [(h0, .inr (9, [.ref q1, .null, .int 0, .int 0])), (q1, .inl (k2, 2304, .inl (fun _ => 0)))] := hD
  refine lv_aload_n hx hb dX6_init_13 rfl (lv_at hl 0 rfl) ?_
  refine lv_sipush (v := 2304) hx hb dX6_init_14 (by decide) ?_
  refine va_newa (ty := .int) (N' := 2304) (a0 := (2304, .inl (fun _ => 0))) hx hb (ht_at hts 3 rfl) rfl hK hP hD hS hA (nw_i 2304) (by decide) rfl (Nat.le_of_ble_eq_true rfl) (Nat.le_of_ble_eq_true rfl) (Nat.le_of_ble_eq_true rfl) dX6_init_17 (fun q3 k4 H hK hP hD hS => ?_)
  have hP : va_P (dC, dI) vwCl [(h0, .inr (9, [.ref q1, .null, .int 0, .int 0])), (q1, .inl (k2, 2304, .inl (fun _ => 0))), (q3, .inl (k4, 2304, .inl (fun _ => 0)))] H := hP
  have hD : va_D A [(h0, .inr (9, [.ref q1, .null, .int 0, .int 0])), (q1, .inl (k2, 2304, .inl (fun _ => 0))), (q3, .inl (k4, 2304, .inl (fun _ => 0)))] := hD
  have hK : va_K (dC, dI) vwCl [(k2, .int), (k4, .int)] s := hK
  refine va_putF (D := (dC, dI)) (ci := 9) (v := .ref q3) (ty := (.array .int)) (C := RX6) (T := TX6) (N := 4) hx hb hts bF_X6 tyX6 tyX6_ok nmX6 hown hK hP hD hS 0 rfl rfl 1 (by decide) (ht_at hts 5 rfl) (fun _ h9 => h9) rfl hin rfl (by decide +kernel) rfl rfl (Nat.le_of_ble_eq_true rfl) dX6_init_19 (fun H locs hP hD hS => ?_)
  have hP : va_P (dC, dI) vwCl [(h0, .inr (9, [.ref q1, .ref q3, .int 0, .int 0])), (q1, .inl (k2, 2304, .inl (fun _ => 0))), (q3, .inl (k4, 2304, .inl (fun _ => 0)))] H := hP
  have hD : va_D A [(h0, .inr (9, [.ref q1, .ref q3, .int 0, .int 0])), (q1, .inl (k2, 2304, .inl (fun _ => 0))), (q3, .inl (k4, 2304, .inl (fun _ => 0)))] := hD
  exact W.vret hx hb hr (fun t ht hW => ⟨⟨((fun i => List.getD [q1, q3] i 0), (fun i => List.getD [k2, k4] i k2)), rfl, (by trivial), by rw [ht]; exact hP.sub (ws' := [(h0, .inr (9, [.ref q1, .ref q3, .int 0, .int 0])), (q1, .inl (k2, 2304, .inl (fun _ => 0))), (q3, .inl (k4, 2304, .inl (fun _ => 0)))]) [0, 1, 2] rfl, va_K.moved hW.alike (hK.sub (tys' := [(k2, .int), (k4, .int)]) [0, 1] rfl), hD.sub (ws' := [(h0, .inr (9, [.ref q1, .ref q3, .int 0, .int 0])), (q1, .inl (k2, 2304, .inl (fun _ => 0))), (q3, .inl (k4, 2304, .inl (fun _ => 0)))]) [0, 1, 2] (by decide) rfl⟩, hS.F ht⟩) hS.2.2 dX6_init_22
