def w_x_forget : List Cond := .code yX6_forget cX6_forget 1 none :: ([.fieldLink RX6 18 "SeaLand$Rows" "kept" "I", .fieldLink RX6 22 "SeaLand$Rows" "oldest" "I"] ++ bs)
set_option maxHeartbeats 4000000 in
set_option maxRecDepth 100000 in
theorem x_forget (l : Launch) (dC : Nat → ClassId) (dI : Nat → Nat → Nat) (a : Nat → Nat) (k : Nat → ClassId)  (sz : Nat) : Met l yX6_forget w_x_forget ({ frames := 0, cells := 0, slots := 0, locals := 0 }) (va_Pc [.ref (a 27)] (fun U => U.heap.size = sz ∧ va_P (dC, dI) vwCl [(a 27, .inr (9, [.ref (a 28), .ref (a 29), .int 0, .int 0]))] U.heap ∧ va_K (dC, dI) vwCl [] U ∧ va_D (fun _ => True) [(a 27, .inr (9, [.ref (a 28), .ref (a 29), .int 0, .int 0]))] ∧ EV (va_A [(a 27, .inr (9, [.ref (a 28), .ref (a 29), .int 0, .int 0]))] sz) U U.heap)) (va_Qv (fun (u : Unit) => True) (fun (_ : Unit) (t : State) => va_P (dC, dI) vwCl [(a 27, .inr (9, [.ref (a 28), .ref (a 29), .int 0, .int 0]))] t.heap ∧ va_D (va_A [(a 27, .inr (9, [.ref (a 28), .ref (a 29), .int 0, .int 0]))] sz) [(a 27, .inr (9, [.ref (a 28), .ref (a 29), .int 0, .int 0]))]) (va_A [(a 27, .inr (9, [.ref (a 28), .ref (a 29), .int 0, .int 0]))] sz)) 0 0 (va_A [(a 27, .inr (9, [.ref (a 28), .ref (a 29), .int 0, .int 0]))] sz) := by
  refine Met.ofW (cc := cX6_forget) (maxL := 1) (ret := none) (by decide) rfl ?_
  intro p e s m args below meth c s₁ B hml hv
  obtain ⟨rfl, hsz, hP, hK, hD0, hE⟩ := hv
  have hx := B.exec
  have hb := B.bytes
  have hr := B.returns
  have hts := atoms_spec (ws := w_x_forget) B.pre
  have hown : s.vm.findClass RX6 = some m.cls := findClass_of_methodNamed B.named
  have hlocks := B.notSynchronized
  subst hsz
  have hD := hD0.self (sz := s.heap.size)
  generalize hAe : va_A [(a 27, .inr (9, [.ref (a 28), .ref (a 29), .int 0, .int 0]))] s.heap.size = A at hD hE ⊢
  have hA : ∀ q : Nat, s.heap.size ≤ q → A q := fun q h => by rw [← hAe]; exact Or.inr h
  have hS : va_S A s.heap s.heap [] := va_S.rf
  have hP : va_P (dC, dI) vwCl [(a 27, .inr (9, [.ref (a 28), .ref (a 29), .int 0, .int 0]))] s.heap := hP
  have hl := lv_entry ([.ref (a 27)]) (n := 1) (Nat.le_of_ble_eq_true rfl)
  rw [lg_entry_eq]
  generalize (lg_sl ([.ref (a 27)]) ++ List.replicate (1 - (lg_sl ([.ref (a 27)])).length) Slot.unset).toArray = ls at hl ⊢
  have hl : lv_has ls 1 [(0, .ref (a 27))] := hl
  refine lv_aload_n hx hb dX6_forget_0 rfl (lv_at hl 0 rfl) ?_
  refine lv_iconst (v := 0) hx hb dX6_forget_1 (by decide) ?_
  refine va_put (D := (dC, dI)) (ci := 9) (v := .int 0) (ty := .int) (C := RX6) (T := TX6) (N := 4) hx hb hts bF_X6 tyX6 tyX6_ok nmX6 hown hK hP hD hS 0 rfl rfl 2 (by decide) (ht_at hts 0 rfl) (fun _ h9 => h9) rfl (by decide +kernel) rfl rfl (Nat.le_of_ble_eq_true rfl) dX6_forget_2 (fun H locs hP hD hS => ?_)
  have hP : va_P (dC, dI) vwCl [(a 27, .inr (9, [.ref (a 28), .ref (a 29), .int 0, .int 0]))] H := hP
  have hD : va_D A [(a 27, .inr (9, [.ref (a 28), .ref (a 29), .int 0, .int 0]))] := hD
  refine lv_aload_n hx hb dX6_forget_5 rfl (lv_at hl 0 rfl) ?_
  refine lv_iconst (v := 0) hx hb dX6_forget_6 (by decide) ?_
  refine va_put (D := (dC, dI)) (ci := 9) (v := .int 0) (ty := .int) (C := RX6) (T := TX6) (N := 4) hx hb hts bF_X6 tyX6 tyX6_ok nmX6 hown hK hP hD hS 0 rfl rfl 3 (by decide) (ht_at hts 1 rfl) (fun _ h9 => h9) rfl (by decide +kernel) rfl rfl (Nat.le_of_ble_eq_true rfl) dX6_forget_7 (fun H locs hP hD hS => ?_)
  have hP : va_P (dC, dI) vwCl [(a 27, .inr (9, [.ref (a 28), .ref (a 29), .int 0, .int 0]))] H := hP
  have hD : va_D A [(a 27, .inr (9, [.ref (a 28), .ref (a 29), .int 0, .int 0]))] := hD
  exact W.vret hx hb hr (fun t ht hW => ⟨⟨(), rfl, (by trivial), by rw [ht]; exact hP.sub (ws' := [(a 27, .inr (9, [.ref (a 28), .ref (a 29), .int 0, .int 0]))]) [0] rfl, hD.sub (ws' := [(a 27, .inr (9, [.ref (a 28), .ref (a 29), .int 0, .int 0]))]) [0] (by decide) rfl⟩, hS.F ht⟩) hS.2.2 dX6_forget_10
def w_x_needRoom : List Cond := .code yX11_needRoomForWork cX11_needRoomForWork 1 none :: ([.fieldLink RX11 16 "SeaLand" "lake" "LSeaLand$Lake;"] ++ bs)
set_option maxHeartbeats 4000000 in
set_option maxRecDepth 100000 in
theorem x_needRoom (l : Launch) (dC : Nat → ClassId) (dI : Nat → Nat → Nat) (a : Nat → Nat) (k : Nat → ClassId)  (sz : Nat) : Met l yX11_needRoomForWork w_x_needRoom ({ frames := 0, cells := 0, slots := 0, locals := 0 }) (va_Pc [.ref (a 0)] (fun U => U.heap.size = sz ∧ va_P (dC, dI) vwCl [(a 0, .inr (14, [.ref (a 1), .ref (a 2), .ref (a 27), .ref (a 30), .ref (a 74), .ref (a 75), .null, .int 0, .int 0])), (a 2, .inr (6, [.ref (a 3), .ref (a 14), .ref (a 26), .int 0, .int 0]))] U.heap ∧ va_K (dC, dI) vwCl [] U ∧ va_D (fun _ => True) [(a 0, .inr (14, [.ref (a 1), .ref (a 2), .ref (a 27), .ref (a 30), .ref (a 74), .ref (a 75), .null, .int 0, .int 0])), (a 2, .inr (6, [.ref (a 3), .ref (a 14), .ref (a 26), .int 0, .int 0]))] ∧ EV (va_A [(a 0, .inr (14, [.ref (a 1), .ref (a 2), .ref (a 27), .ref (a 30), .ref (a 74), .ref (a 75), .null, .int 0, .int 0])), (a 2, .inr (6, [.ref (a 3), .ref (a 14), .ref (a 26), .int 0, .int 0]))] sz) U U.heap)) (va_Qv (fun (u : Unit) => True) (fun (_ : Unit) (t : State) => va_P (dC, dI) vwCl [(a 0, .inr (14, [.ref (a 1), .ref (a 2), .ref (a 27), .ref (a 30), .ref (a 74), .ref (a 75), .null, .int 0, .int 0])), (a 2, .inr (6, [.ref (a 3), .ref (a 14), .ref (a 26), .int 0, .int 0]))] t.heap ∧ va_D (va_A [(a 0, .inr (14, [.ref (a 1), .ref (a 2), .ref (a 27), .ref (a 30), .ref (a 74), .ref (a 75), .null, .int 0, .int 0])), (a 2, .inr (6, [.ref (a 3), .ref (a 14), .ref (a 26), .int 0, .int 0]))] sz) [(a 0, .inr (14, [.ref (a 1), .ref (a 2), .ref (a 27), .ref (a 30), .ref (a 74), .ref (a 75), .null, .int 0, .int 0])), (a 2, .inr (6, [.ref (a 3), .ref (a 14), .ref (a 26), .int 0, .int 0]))]) (va_A [(a 0, .inr (14, [.ref (a 1), .ref (a 2), .ref (a 27), .ref (a 30), .ref (a 74), .ref (a 75), .null, .int 0, .int 0])), (a 2, .inr (6, [.ref (a 3), .ref (a 14), .ref (a 26), .int 0, .int 0]))] sz)) 0 0 (va_A [(a 0, .inr (14, [.ref (a 1), .ref (a 2), .ref (a 27), .ref (a 30), .ref (a 74), .ref (a 75), .null, .int 0, .int 0])), (a 2, .inr (6, [.ref (a 3), .ref (a 14), .ref (a 26), .int 0, .int 0]))] sz) := by
  refine Met.ofW (cc := cX11_needRoomForWork) (maxL := 1) (ret := none) (by decide) rfl ?_
  intro p e s m args below meth c s₁ B hml hv
  obtain ⟨rfl, hsz, hP, hK, hD0, hE⟩ := hv
  have hx := B.exec
  have hb := B.bytes
  have hr := B.returns
  have hts := atoms_spec (ws := w_x_needRoom) B.pre
  have hown : s.vm.findClass RX11 = some m.cls := findClass_of_methodNamed B.named
  have hlocks := B.notSynchronized
  subst hsz
  have hD := hD0.self (sz := s.heap.size)
  generalize hAe : va_A [(a 0, .inr (14, [.ref (a 1), .ref (a 2), .ref (a 27), .ref (a 30), .ref (a 74), .ref (a 75), .null, .int 0, .int 0])), (a 2, .inr (6, [.ref (a 3), .ref (a 14), .ref (a 26), .int 0, .int 0]))] s.heap.size = A at hD hE ⊢
  have hA : ∀ q : Nat, s.heap.size ≤ q → A q := fun q h => by rw [← hAe]; exact Or.inr h
  have hS : va_S A s.heap s.heap [] := va_S.rf
  have hP : va_P (dC, dI) vwCl [(a 0, .inr (14, [.ref (a 1), .ref (a 2), .ref (a 27), .ref (a 30), .ref (a 74), .ref (a 75), .null, .int 0, .int 0])), (a 2, .inr (6, [.ref (a 3), .ref (a 14), .ref (a 26), .int 0, .int 0]))] s.heap := hP
  have hl := lv_entry ([.ref (a 0)]) (n := 1) (Nat.le_of_ble_eq_true rfl)
  rw [lg_entry_eq]
  generalize (lg_sl ([.ref (a 0)]) ++ List.replicate (1 - (lg_sl ([.ref (a 0)])).length) Slot.unset).toArray = ls at hl ⊢
  have hl : lv_has ls 1 [(0, .ref (a 0))] := hl
  refine lv_aload_n hx hb dX11_needRoomForWork_0 rfl (lv_at hl 0 rfl) ?_
  refine va_get (D := (dC, dI)) (ci := 14) (v := .ref (a 2)) (C := RX11) (T := TX11) (N := 9) hx hb hts bF_X11 hown hK hP 0 rfl rfl 1 (by decide) (ht_at hts 0 rfl) (fun _ h9 => h9) rfl dX11_needRoomForWork_1 ?_
  refine va_getN (D := (dC, dI)) (ci := 6) (v := .int 0) (C := RX3) (T := TX3) (N := 5) hx hb hts bF_X3 hown hK hP 1 rfl rfl 3 (by decide) (hE.nw 44 rfl) (fun _ h9 => h9) rfl dX11_needRoomForWork_4 ?_
  refine lv_bipush (v := 30) hx hb dX11_needRoomForWork_7 (by decide) ?_
  refine lv_icmp_ne (tgt := 23) hx hb dX11_needRoomForWork_9 (by decide) (fun c1 => ?_) (fun c1 => absurd c1 (by decide))
  exact W.vret hx hb hr (fun t ht hW => ⟨⟨(), rfl, (by trivial), by rw [ht]; exact hP.sub (ws' := [(a 0, .inr (14, [.ref (a 1), .ref (a 2), .ref (a 27), .ref (a 30), .ref (a 74), .ref (a 75), .null, .int 0, .int 0])), (a 2, .inr (6, [.ref (a 3), .ref (a 14), .ref (a 26), .int 0, .int 0]))]) [0, 1] rfl, hD.sub (ws' := [(a 0, .inr (14, [.ref (a 1), .ref (a 2), .ref (a 27), .ref (a 30), .ref (a 74), .ref (a 75), .null, .int 0, .int 0])), (a 2, .inr (6, [.ref (a 3), .ref (a 14), .ref (a 26), .int 0, .int 0]))]) [0, 1] (by decide) rfl⟩, hS.F ht⟩) hS.2.2 dX11_needRoomForWork_23
def w_x_isFreeLand : List Cond := .code yX3_isFreeLand cX3_isFreeLand 2 (some .boolean) :: ([.fieldLink RX3 21 "SeaLand$Lake" "ground" "LSeaLand$Ground;"] ++ bs)
set_option maxHeartbeats 4000000 in
set_option maxRecDepth 100000 in
theorem x_isFreeLand (l : Launch) (dC : Nat → ClassId) (dI : Nat → Nat → Nat) (a : Nat → Nat) (k : Nat → ClassId) (sq : Int32) (sz : Nat) (hsq : 0 ≤ sq ∧ sq ≤ 95) : Met l yX3_isFreeLand w_x_isFreeLand ({ frames := 0, cells := 0, slots := 0, locals := 0 }) (va_Pc [.ref (a 2), .int sq] (fun U => U.heap.size = sz ∧ va_P (dC, dI) vwCl [(a 2, .inr (6, [.ref (a 3), .ref (a 14), .ref (a 26), .int 0, .int 0])), (a 14, .inr (5, [.ref (a 15), .ref (a 16), .ref (a 17), .ref (a 18), .ref (a 19), .ref (a 20), .ref (a 21), .ref (a 22), .ref (a 23), .ref (a 24), .ref (a 25), .int 0, .int 0, .int 0, .int 0])), (a 15, .inl ((k 15), 96, .inl (fun _ => 0)))] U.heap ∧ va_K (dC, dI) vwCl [((k 15), .boolean)] U ∧ va_D (fun _ => True) [(a 2, .inr (6, [.ref (a 3), .ref (a 14), .ref (a 26), .int 0, .int 0])), (a 14, .inr (5, [.ref (a 15), .ref (a 16), .ref (a 17), .ref (a 18), .ref (a 19), .ref (a 20), .ref (a 21), .ref (a 22), .ref (a 23), .ref (a 24), .ref (a 25), .int 0, .int 0, .int 0, .int 0])), (a 15, .inl ((k 15), 96, .inl (fun _ => 0)))] ∧ EV (va_A [(a 2, .inr (6, [.ref (a 3), .ref (a 14), .ref (a 26), .int 0, .int 0])), (a 14, .inr (5, [.ref (a 15), .ref (a 16), .ref (a 17), .ref (a 18), .ref (a 19), .ref (a 20), .ref (a 21), .ref (a 22), .ref (a 23), .ref (a 24), .ref (a 25), .int 0, .int 0, .int 0, .int 0])), (a 15, .inl ((k 15), 96, .inl (fun _ => 0)))] sz) U U.heap)) (va_Qi (fun (r : Int32) (u : Unit) => r = 0) (fun (_ : Unit) (t : State) => va_P (dC, dI) vwCl [(a 2, .inr (6, [.ref (a 3), .ref (a 14), .ref (a 26), .int 0, .int 0])), (a 14, .inr (5, [.ref (a 15), .ref (a 16), .ref (a 17), .ref (a 18), .ref (a 19), .ref (a 20), .ref (a 21), .ref (a 22), .ref (a 23), .ref (a 24), .ref (a 25), .int 0, .int 0, .int 0, .int 0])), (a 15, .inl ((k 15), 96, .inl (fun _ => 0)))] t.heap ∧ va_D (va_A [(a 2, .inr (6, [.ref (a 3), .ref (a 14), .ref (a 26), .int 0, .int 0])), (a 14, .inr (5, [.ref (a 15), .ref (a 16), .ref (a 17), .ref (a 18), .ref (a 19), .ref (a 20), .ref (a 21), .ref (a 22), .ref (a 23), .ref (a 24), .ref (a 25), .int 0, .int 0, .int 0, .int 0])), (a 15, .inl ((k 15), 96, .inl (fun _ => 0)))] sz) [(a 2, .inr (6, [.ref (a 3), .ref (a 14), .ref (a 26), .int 0, .int 0])), (a 14, .inr (5, [.ref (a 15), .ref (a 16), .ref (a 17), .ref (a 18), .ref (a 19), .ref (a 20), .ref (a 21), .ref (a 22), .ref (a 23), .ref (a 24), .ref (a 25), .int 0, .int 0, .int 0, .int 0])), (a 15, .inl ((k 15), 96, .inl (fun _ => 0)))]) (va_A [(a 2, .inr (6, [.ref (a 3), .ref (a 14), .ref (a 26), .int 0, .int 0])), (a 14, .inr (5, [.ref (a 15), .ref (a 16), .ref (a 17), .ref (a 18), .ref (a 19), .ref (a 20), .ref (a 21), .ref (a 22), .ref (a 23), .ref (a 24), .ref (a 25), .int 0, .int 0, .int 0, .int 0])), (a 15, .inl ((k 15), 96, .inl (fun _ => 0)))] sz)) 0 0 (va_A [(a 2, .inr (6, [.ref (a 3), .ref (a 14), .ref (a 26), .int 0, .int 0])), (a 14, .inr (5, [.ref (a 15), .ref (a 16), .ref (a 17), .ref (a 18), .ref (a 19), .ref (a 20), .ref (a 21), .ref (a 22), .ref (a 23), .ref (a 24), .ref (a 25), .int 0, .int 0, .int 0, .int 0])), (a 15, .inl ((k 15), 96, .inl (fun _ => 0)))] sz) := by
  refine Met.ofW (cc := cX3_isFreeLand) (maxL := 2) (ret := (some .boolean)) (by decide) rfl ?_
  intro p e s m args below meth c s₁ B hml hv
  obtain ⟨rfl, hsz, hP, hK, hD0, hE⟩ := hv
  have hx := B.exec
  have hb := B.bytes
  have hr := B.returns
  have hts := atoms_spec (ws := w_x_isFreeLand) B.pre
  have hown : s.vm.findClass RX3 = some m.cls := findClass_of_methodNamed B.named
  have hlocks := B.notSynchronized
  subst hsz
  have hD := hD0.self (sz := s.heap.size)
  generalize hAe : va_A [(a 2, .inr (6, [.ref (a 3), .ref (a 14), .ref (a 26), .int 0, .int 0])), (a 14, .inr (5, [.ref (a 15), .ref (a 16), .ref (a 17), .ref (a 18), .ref (a 19), .ref (a 20), .ref (a 21), .ref (a 22), .ref (a 23), .ref (a 24), .ref (a 25), .int 0, .int 0, .int 0, .int 0])), (a 15, .inl ((k 15), 96, .inl (fun _ => 0)))] s.heap.size = A at hD hE ⊢
  have hA : ∀ q : Nat, s.heap.size ≤ q → A q := fun q h => by rw [← hAe]; exact Or.inr h
  have hS : va_S A s.heap s.heap [] := va_S.rf
  have hP : va_P (dC, dI) vwCl [(a 2, .inr (6, [.ref (a 3), .ref (a 14), .ref (a 26), .int 0, .int 0])), (a 14, .inr (5, [.ref (a 15), .ref (a 16), .ref (a 17), .ref (a 18), .ref (a 19), .ref (a 20), .ref (a 21), .ref (a 22), .ref (a 23), .ref (a 24), .ref (a 25), .int 0, .int 0, .int 0, .int 0])), (a 15, .inl ((k 15), 96, .inl (fun _ => 0)))] s.heap := hP
  have hl := lv_entry ([.ref (a 2), .int sq]) (n := 2) (Nat.le_of_ble_eq_true rfl)
  rw [lg_entry_eq]
  generalize (lg_sl ([.ref (a 2), .int sq]) ++ List.replicate (2 - (lg_sl ([.ref (a 2), .int sq])).length) Slot.unset).toArray = ls at hl ⊢
  have hl : lv_has ls 2 [(0, .ref (a 2)), (1, .int sq)] := hl
  refine lv_aload_n hx hb dX3_isFreeLand_0 rfl (lv_at hl 0 rfl) ?_
  refine va_get (D := (dC, dI)) (ci := 6) (v := .ref (a 14)) (C := RX3) (T := TX3) (N := 5) hx hb hts bF_X3 hown hK hP 0 rfl rfl 1 (by decide) (ht_at hts 0 rfl) (fun _ h9 => h9) rfl dX3_isFreeLand_1 ?_
  refine va_getN (D := (dC, dI)) (ci := 5) (v := .ref (a 15)) (C := RX2) (T := TX2) (N := 15) hx hb hts bF_X2 hown hK hP 1 rfl rfl 0 (by decide) (hE.nw 77 rfl) (fun _ h9 => h9) rfl dX3_isFreeLand_4 ?_
  refine lv_iload_n hx hb dX3_isFreeLand_7 rfl (lv_at hl 1 rfl) ?_
  refine va_zald hx hb hK hP 2 0 rfl rfl (vin hsq (by decide)) dX3_isFreeLand_8 ?_
  refine lv_topi (fun x1 ex1 => ?_)
  obtain rfl : 0 = x1 := (ex1).symm
  refine lv_if_eq (tgt := 25) hx hb dX3_isFreeLand_9 (by decide) (fun c2 => ?_) (fun c2 => absurd c2 (by decide))
  refine lv_iconst (v := 0) hx hb dX3_isFreeLand_25 (by decide) ?_
  exact W.zret (v := 0) hx hb hr (by decide) (fun t ht hW => ⟨⟨0, (), rfl, (by rfl), by rw [ht]; exact hP.sub (ws' := [(a 2, .inr (6, [.ref (a 3), .ref (a 14), .ref (a 26), .int 0, .int 0])), (a 14, .inr (5, [.ref (a 15), .ref (a 16), .ref (a 17), .ref (a 18), .ref (a 19), .ref (a 20), .ref (a 21), .ref (a 22), .ref (a 23), .ref (a 24), .ref (a 25), .int 0, .int 0, .int 0, .int 0])), (a 15, .inl ((k 15), 96, .inl (fun _ => 0)))]) [0, 1, 2] rfl, hD.sub (ws' := [(a 2, .inr (6, [.ref (a 3), .ref (a 14), .ref (a 26), .int 0, .int 0])), (a 14, .inr (5, [.ref (a 15), .ref (a 16), .ref (a 17), .ref (a 18), .ref (a 19), .ref (a 20), .ref (a 21), .ref (a 22), .ref (a 23), .ref (a 24), .ref (a 25), .int 0, .int 0, .int 0, .int 0])), (a 15, .inl ((k 15), 96, .inl (fun _ => 0)))]) [0, 1, 2] (by decide) rfl⟩, hS.F ht⟩) hS.2.2 dX3_isFreeLand_26
def w_x_standingW : List Cond := .code yX9_standingAt cX9_standingAt 5 (some .int) :: ([.fieldLink RX9 18 "SeaLand$Tellings" "told" "I"] ++ bs)
set_option maxHeartbeats 4000000 in
set_option maxRecDepth 100000 in
theorem x_standingW (l : Launch) (dC : Nat → ClassId) (dI : Nat → Nat → Nat) (a : Nat → Nat) (k : Nat → ClassId) (h : Int32) (sz : Nat) : Met l yX9_standingAt w_x_standingW ({ frames := 0, cells := 0, slots := 0, locals := 0 }) (va_Pc [.ref (a 8), .int h] (fun U => U.heap.size = sz ∧ va_P (dC, dI) vwCl [(a 8, .inr (12, [.ref (a 9), .ref (a 10), .int 0]))] U.heap ∧ va_K (dC, dI) vwCl [] U ∧ va_D (fun _ => True) [(a 8, .inr (12, [.ref (a 9), .ref (a 10), .int 0]))] ∧ EV (va_A [(a 8, .inr (12, [.ref (a 9), .ref (a 10), .int 0]))] sz) U U.heap)) (va_Qi (fun (r : Int32) (u : Unit) => r = -1) (fun (_ : Unit) (t : State) => va_P (dC, dI) vwCl [(a 8, .inr (12, [.ref (a 9), .ref (a 10), .int 0]))] t.heap ∧ va_D (va_A [(a 8, .inr (12, [.ref (a 9), .ref (a 10), .int 0]))] sz) [(a 8, .inr (12, [.ref (a 9), .ref (a 10), .int 0]))]) (va_A [(a 8, .inr (12, [.ref (a 9), .ref (a 10), .int 0]))] sz)) 0 0 (va_A [(a 8, .inr (12, [.ref (a 9), .ref (a 10), .int 0]))] sz) := by
  refine Met.ofW (cc := cX9_standingAt) (maxL := 5) (ret := (some .int)) (by decide) rfl ?_
  intro p e s m args below meth c s₁ B hml hv
  obtain ⟨rfl, hsz, hP, hK, hD0, hE⟩ := hv
  have hx := B.exec
  have hb := B.bytes
  have hr := B.returns
  have hts := atoms_spec (ws := w_x_standingW) B.pre
  have hown : s.vm.findClass RX9 = some m.cls := findClass_of_methodNamed B.named
  have hlocks := B.notSynchronized
  subst hsz
  have hD := hD0.self (sz := s.heap.size)
  generalize hAe : va_A [(a 8, .inr (12, [.ref (a 9), .ref (a 10), .int 0]))] s.heap.size = A at hD hE ⊢
  have hA : ∀ q : Nat, s.heap.size ≤ q → A q := fun q h => by rw [← hAe]; exact Or.inr h
  have hS : va_S A s.heap s.heap [] := va_S.rf
  have hP : va_P (dC, dI) vwCl [(a 8, .inr (12, [.ref (a 9), .ref (a 10), .int 0]))] s.heap := hP
  have hl := lv_entry ([.ref (a 8), .int h]) (n := 5) (Nat.le_of_ble_eq_true rfl)
  rw [lg_entry_eq]
  generalize (lg_sl ([.ref (a 8), .int h]) ++ List.replicate (5 - (lg_sl ([.ref (a 8), .int h])).length) Slot.unset).toArray = ls at hl ⊢
  have hl : lv_has ls 5 [(0, .ref (a 8)), (1, .int h)] := hl
  refine lv_iconst (v := (-1)) hx hb dX9_standingAt_0 (by decide) ?_
  refine lv_istore_n (lv' := [(2, .int (-1)), (0, .ref (a 8)), (1, .int h)]) hx hb dX9_standingAt_1 rfl hl (by decide) rfl (fun ls hl => ?_)
  refine lv_iconst (v := (-1)) hx hb dX9_standingAt_2 (by decide) ?_
  refine lv_istore_n (lv' := [(3, .int (-1)), (2, .int (-1)), (0, .ref (a 8)), (1, .int h)]) hx hb dX9_standingAt_3 rfl hl (by decide) rfl (fun ls hl => ?_)
  refine lv_iconst (v := 0) hx hb dX9_standingAt_4 (by decide) ?_
  refine lv_istore (lv' := [(4, .int 0), (3, .int (-1)), (2, .int (-1)), (0, .ref (a 8)), (1, .int h)]) hx hb dX9_standingAt_5 hl (by decide) rfl (fun ls hl => ?_)
  refine lv_iload hx hb dX9_standingAt_7 (lv_at hl 0 rfl) ?_
  refine lv_aload_n hx hb dX9_standingAt_9 rfl (lv_at hl 3 rfl) ?_
  refine va_get (D := (dC, dI)) (ci := 12) (v := .int 0) (C := RX9) (T := TX9) (N := 3) hx hb hts bF_X9 hown hK hP 0 rfl rfl 2 (by decide) (ht_at hts 0 rfl) (fun _ h9 => h9) rfl dX9_standingAt_10 ?_
  refine lv_icmp_ge (tgt := 55) hx hb dX9_standingAt_13 (by decide) (fun c1 => ?_) (fun c1 => absurd c1 (by decide))
  refine lv_iload_n hx hb dX9_standingAt_55 rfl (lv_at hl 2 rfl) ?_
  exact W.iret (v := (-1)) hx hb hr (fun t ht hW => ⟨⟨(-1), (), rfl, (by rfl), by rw [ht]; exact hP.sub (ws' := [(a 8, .inr (12, [.ref (a 9), .ref (a 10), .int 0]))]) [0] rfl, hD.sub (ws' := [(a 8, .inr (12, [.ref (a 9), .ref (a 10), .int 0]))]) [0] (by decide) rfl⟩, hS.F ht⟩) hS.2.2 dX9_standingAt_56
def w_x_standingR : List Cond := .code yX9_standingAt cX9_standingAt 5 (some .int) :: ([.fieldLink RX9 18 "SeaLand$Tellings" "told" "I"] ++ bs)
set_option maxHeartbeats 4000000 in
set_option maxRecDepth 100000 in
theorem x_standingR (l : Launch) (dC : Nat → ClassId) (dI : Nat → Nat → Nat) (a : Nat → Nat) (k : Nat → ClassId) (h : Int32) (sz : Nat) : Met l yX9_standingAt w_x_standingR ({ frames := 0, cells := 0, slots := 0, locals := 0 }) (va_Pc [.ref (a 11), .int h] (fun U => U.heap.size = sz ∧ va_P (dC, dI) vwCl [(a 11, .inr (12, [.ref (a 12), .ref (a 13), .int 0]))] U.heap ∧ va_K (dC, dI) vwCl [] U ∧ va_D (fun _ => True) [(a 11, .inr (12, [.ref (a 12), .ref (a 13), .int 0]))] ∧ EV (va_A [(a 11, .inr (12, [.ref (a 12), .ref (a 13), .int 0]))] sz) U U.heap)) (va_Qi (fun (r : Int32) (u : Unit) => r = -1) (fun (_ : Unit) (t : State) => va_P (dC, dI) vwCl [(a 11, .inr (12, [.ref (a 12), .ref (a 13), .int 0]))] t.heap ∧ va_D (va_A [(a 11, .inr (12, [.ref (a 12), .ref (a 13), .int 0]))] sz) [(a 11, .inr (12, [.ref (a 12), .ref (a 13), .int 0]))]) (va_A [(a 11, .inr (12, [.ref (a 12), .ref (a 13), .int 0]))] sz)) 0 0 (va_A [(a 11, .inr (12, [.ref (a 12), .ref (a 13), .int 0]))] sz) := by
  refine Met.ofW (cc := cX9_standingAt) (maxL := 5) (ret := (some .int)) (by decide) rfl ?_
  intro p e s m args below meth c s₁ B hml hv
  obtain ⟨rfl, hsz, hP, hK, hD0, hE⟩ := hv
  have hx := B.exec
  have hb := B.bytes
  have hr := B.returns
  have hts := atoms_spec (ws := w_x_standingR) B.pre
  have hown : s.vm.findClass RX9 = some m.cls := findClass_of_methodNamed B.named
  have hlocks := B.notSynchronized
  subst hsz
  have hD := hD0.self (sz := s.heap.size)
  generalize hAe : va_A [(a 11, .inr (12, [.ref (a 12), .ref (a 13), .int 0]))] s.heap.size = A at hD hE ⊢
  have hA : ∀ q : Nat, s.heap.size ≤ q → A q := fun q h => by rw [← hAe]; exact Or.inr h
  have hS : va_S A s.heap s.heap [] := va_S.rf
  have hP : va_P (dC, dI) vwCl [(a 11, .inr (12, [.ref (a 12), .ref (a 13), .int 0]))] s.heap := hP
  have hl := lv_entry ([.ref (a 11), .int h]) (n := 5) (Nat.le_of_ble_eq_true rfl)
  rw [lg_entry_eq]
  generalize (lg_sl ([.ref (a 11), .int h]) ++ List.replicate (5 - (lg_sl ([.ref (a 11), .int h])).length) Slot.unset).toArray = ls at hl ⊢
  have hl : lv_has ls 5 [(0, .ref (a 11)), (1, .int h)] := hl
  refine lv_iconst (v := (-1)) hx hb dX9_standingAt_0 (by decide) ?_
  refine lv_istore_n (lv' := [(2, .int (-1)), (0, .ref (a 11)), (1, .int h)]) hx hb dX9_standingAt_1 rfl hl (by decide) rfl (fun ls hl => ?_)
  refine lv_iconst (v := (-1)) hx hb dX9_standingAt_2 (by decide) ?_
  refine lv_istore_n (lv' := [(3, .int (-1)), (2, .int (-1)), (0, .ref (a 11)), (1, .int h)]) hx hb dX9_standingAt_3 rfl hl (by decide) rfl (fun ls hl => ?_)
  refine lv_iconst (v := 0) hx hb dX9_standingAt_4 (by decide) ?_
  refine lv_istore (lv' := [(4, .int 0), (3, .int (-1)), (2, .int (-1)), (0, .ref (a 11)), (1, .int h)]) hx hb dX9_standingAt_5 hl (by decide) rfl (fun ls hl => ?_)
  refine lv_iload hx hb dX9_standingAt_7 (lv_at hl 0 rfl) ?_
  refine lv_aload_n hx hb dX9_standingAt_9 rfl (lv_at hl 3 rfl) ?_
  refine va_get (D := (dC, dI)) (ci := 12) (v := .int 0) (C := RX9) (T := TX9) (N := 3) hx hb hts bF_X9 hown hK hP 0 rfl rfl 2 (by decide) (ht_at hts 0 rfl) (fun _ h9 => h9) rfl dX9_standingAt_10 ?_
  refine lv_icmp_ge (tgt := 55) hx hb dX9_standingAt_13 (by decide) (fun c1 => ?_) (fun c1 => absurd c1 (by decide))
  refine lv_iload_n hx hb dX9_standingAt_55 rfl (lv_at hl 2 rfl) ?_
  exact W.iret (v := (-1)) hx hb hr (fun t ht hW => ⟨⟨(-1), (), rfl, (by rfl), by rw [ht]; exact hP.sub (ws' := [(a 11, .inr (12, [.ref (a 12), .ref (a 13), .int 0]))]) [0] rfl, hD.sub (ws' := [(a 11, .inr (12, [.ref (a 12), .ref (a 13), .int 0]))]) [0] (by decide) rfl⟩, hS.F ht⟩) hS.2.2 dX9_standingAt_56
def w_x_windAt : List Cond := .code yX8_windAt cX8_windAt 4 (some .int) :: ([.fieldLink RX8 27 "SeaLand$Sky" "wind" "LSeaLand$Tellings;", .code yX9_standingAt cX9_standingAt 5 (some .int), .fieldLink RX9 18 "SeaLand$Tellings" "told" "I", .methodLink RX8 44 yX9_standingAt, .instanceMethod yX9_standingAt, .selects RX9 yX9_standingAt yX9_standingAt, .initialized RX9] ++ bs)
set_option maxHeartbeats 4000000 in
set_option maxRecDepth 100000 in
theorem x_windAt (l : Launch) (dC : Nat → ClassId) (dI : Nat → Nat → Nat) (a : Nat → Nat) (k : Nat → ClassId) (h : Int32) (sz : Nat) : Met l yX8_windAt w_x_windAt ({ frames := 1, cells := 0, slots := 0, locals := 24 }) (va_Pc [.ref (a 3), .int h] (fun U => U.heap.size = sz ∧ va_P (dC, dI) vwCl [(a 3, .inr (11, [.ref (a 4), .ref (a 5), .ref (a 6), .ref (a 7), .ref (a 8), .ref (a 11), .int 0])), (a 8, .inr (12, [.ref (a 9), .ref (a 10), .int 0]))] U.heap ∧ va_K (dC, dI) vwCl [] U ∧ va_D (fun _ => True) [(a 3, .inr (11, [.ref (a 4), .ref (a 5), .ref (a 6), .ref (a 7), .ref (a 8), .ref (a 11), .int 0])), (a 8, .inr (12, [.ref (a 9), .ref (a 10), .int 0]))] ∧ EV (va_A [(a 3, .inr (11, [.ref (a 4), .ref (a 5), .ref (a 6), .ref (a 7), .ref (a 8), .ref (a 11), .int 0])), (a 8, .inr (12, [.ref (a 9), .ref (a 10), .int 0]))] sz) U U.heap)) (va_Qi (fun (r : Int32) (u : Unit) => r = 0) (fun (_ : Unit) (t : State) => va_P (dC, dI) vwCl [(a 3, .inr (11, [.ref (a 4), .ref (a 5), .ref (a 6), .ref (a 7), .ref (a 8), .ref (a 11), .int 0])), (a 8, .inr (12, [.ref (a 9), .ref (a 10), .int 0]))] t.heap ∧ va_D (va_A [(a 3, .inr (11, [.ref (a 4), .ref (a 5), .ref (a 6), .ref (a 7), .ref (a 8), .ref (a 11), .int 0])), (a 8, .inr (12, [.ref (a 9), .ref (a 10), .int 0]))] sz) [(a 3, .inr (11, [.ref (a 4), .ref (a 5), .ref (a 6), .ref (a 7), .ref (a 8), .ref (a 11), .int 0])), (a 8, .inr (12, [.ref (a 9), .ref (a 10), .int 0]))]) (va_A [(a 3, .inr (11, [.ref (a 4), .ref (a 5), .ref (a 6), .ref (a 7), .ref (a 8), .ref (a 11), .int 0])), (a 8, .inr (12, [.ref (a 9), .ref (a 10), .int 0]))] sz)) 0 0 (va_A [(a 3, .inr (11, [.ref (a 4), .ref (a 5), .ref (a 6), .ref (a 7), .ref (a 8), .ref (a 11), .int 0])), (a 8, .inr (12, [.ref (a 9), .ref (a 10), .int 0]))] sz) := by
  refine Met.ofW (cc := cX8_windAt) (maxL := 4) (ret := (some .int)) (by decide) rfl ?_
  intro p e s m args below meth c s₁ B hml hv
  obtain ⟨rfl, hsz, hP, hK, hD0, hE⟩ := hv
  have hx := B.exec
  have hb := B.bytes
  have hr := B.returns
  have hts := atoms_spec (ws := w_x_windAt) B.pre
  have hown : s.vm.findClass RX8 = some m.cls := findClass_of_methodNamed B.named
  have hlocks := B.notSynchronized
  subst hsz
  have hD := hD0.self (sz := s.heap.size)
  generalize hAe : va_A [(a 3, .inr (11, [.ref (a 4), .ref (a 5), .ref (a 6), .ref (a 7), .ref (a 8), .ref (a 11), .int 0])), (a 8, .inr (12, [.ref (a 9), .ref (a 10), .int 0]))] s.heap.size = A at hD hE ⊢
  have hA : ∀ q : Nat, s.heap.size ≤ q → A q := fun q h => by rw [← hAe]; exact Or.inr h
  have hS : va_S A s.heap s.heap [] := va_S.rf
  have hP : va_P (dC, dI) vwCl [(a 3, .inr (11, [.ref (a 4), .ref (a 5), .ref (a 6), .ref (a 7), .ref (a 8), .ref (a 11), .int 0])), (a 8, .inr (12, [.ref (a 9), .ref (a 10), .int 0]))] s.heap := hP
  have hl := lv_entry ([.ref (a 3), .int h]) (n := 4) (Nat.le_of_ble_eq_true rfl)
  rw [lg_entry_eq]
  generalize (lg_sl ([.ref (a 3), .int h]) ++ List.replicate (4 - (lg_sl ([.ref (a 3), .int h])).length) Slot.unset).toArray = ls at hl ⊢
  have hl : lv_has ls 4 [(0, .ref (a 3)), (1, .int h)] := hl
  refine lv_aload_n hx hb dX8_windAt_0 rfl (lv_at hl 0 rfl) ?_
  refine va_get (D := (dC, dI)) (ci := 11) (v := .ref (a 8)) (C := RX8) (T := TX8) (N := 7) hx hb hts bF_X8 hown hK hP 0 rfl rfl 4 (by decide) (ht_at hts 0 rfl) (fun _ h9 => h9) rfl dX8_windAt_1 ?_
  refine lv_iload_n hx hb dX8_windAt_4 rfl (lv_at hl 1 rfl) ?_
  have hPc := hP.sub (ws' := [(a 8, .inr (12, [.ref (a 9), .ref (a 10), .int 0]))]) [1] rfl
  have hDc := hD.sub (ws' := [(a 8, .inr (12, [.ref (a 9), .ref (a 10), .int 0]))]) [1] (by decide) rfl
  have hKc := hK.sub (tys' := []) [] rfl
  have hFc := va_free (wc := [(a 8, .inr (12, [.ref (a 9), .ref (a 10), .int 0]))]) hD hS hA [1] rfl
  refine va_calli (va_runV (As := [.int h]) (rest := []) ⟨hx, hb, hml, hown, hts⟩ (x_standingW l dC dI a k h s.heap.size ) (cwV 1 hts (goodIn_app (goodIn_r _ [4, 5, 6, 7] (by decide +kernel) (by decide +kernel)) (goodIn_ca (goodIn_r _ [2, 3] (by decide +kernel) (by decide +kernel)) (bs_in _ _))) rfl rfl rfl (by decide +kernel) ⟨(Nat.le_of_ble_eq_true rfl), (Nat.le_of_ble_eq_true rfl)⟩) ⟨fun a U g mk q => by obtain ⟨q0, q1, qP, qK, qD, qE⟩ := q; exact ⟨q0, q1, qP, va_K.moved (u := U) (U := U.calling g mk a) (Vm.Alike.refl U.vm) qK, qD, EV.blind g mk a qE⟩, va_recv hKc hPc (ci := 12) (q0 := 0) rfl rfl, fun U hU hW => ⟨rfl, by rw [hU], by rw [hU]; exact hPc, va_K.moved hW.alike hKc, hDc.weaken (fun _ _ _ _ => trivial), hE.call hS hFc hU hW⟩⟩ rfl rfl hl.1 rfl (lv_room (Nat.le_of_ble_eq_true rfl)) dX8_windAt_5 ⟨(Nat.le_of_ble_eq_true rfl), (Nat.le_of_ble_eq_true rfl)⟩) hS (fun q _ h => hFc q h) hFc (fun r2 u t H1 locs ht hvm hw3 hB hz1 hk1 hS => ?_)
  obtain ⟨hP1, hD1⟩ := hB
  rw [ht] at hP1
  obtain ⟨hP, hD⟩ := va_join (wr := [(a 3, .inr (11, [.ref (a 4), .ref (a 5), .ref (a 6), .ref (a 7), .ref (a 8), .ref (a 11), .int 0]))]) (w1 := [(a 8, .inr (12, [.ref (a 9), .ref (a 10), .int 0]))]) hP hD [1] [0] rfl rfl (by decide) (by decide) hk1 hFc hP1 hD1
  generalize H1 = H at hP hS ⊢
  have hP : va_P (dC, dI) vwCl [(a 3, .inr (11, [.ref (a 4), .ref (a 5), .ref (a 6), .ref (a 7), .ref (a 8), .ref (a 11), .int 0])), (a 8, .inr (12, [.ref (a 9), .ref (a 10), .int 0]))] H := hP
  have hD : va_D A [(a 3, .inr (11, [.ref (a 4), .ref (a 5), .ref (a 6), .ref (a 7), .ref (a 8), .ref (a 11), .int 0])), (a 8, .inr (12, [.ref (a 9), .ref (a 10), .int 0]))] := hD
  try dsimp only at hw3
  obtain rfl : (-1) = r2 := (hw3).symm
  refine lv_istore_n (lv' := [(2, .int (-1)), (0, .ref (a 3)), (1, .int h)]) hx hb dX8_windAt_8 rfl hl (by decide) rfl (fun ls hl => ?_)
  refine lv_iload_n hx hb dX8_windAt_9 rfl (lv_at hl 0 rfl) ?_
  refine lv_iconst (v := (-1)) hx hb dX8_windAt_10 (by decide) ?_
  refine lv_icmp_ne (tgt := 16) hx hb dX8_windAt_11 (by decide) (fun c4 => absurd c4 (by decide)) (fun c4 => ?_)
  refine lv_iconst (v := 0) hx hb dX8_windAt_14 (by decide) ?_
  exact W.iret (v := 0) hx hb hr (fun t ht hW => ⟨⟨0, (), rfl, (by rfl), by rw [ht]; exact hP.sub (ws' := [(a 3, .inr (11, [.ref (a 4), .ref (a 5), .ref (a 6), .ref (a 7), .ref (a 8), .ref (a 11), .int 0])), (a 8, .inr (12, [.ref (a 9), .ref (a 10), .int 0]))]) [0, 1] rfl, hD.sub (ws' := [(a 3, .inr (11, [.ref (a 4), .ref (a 5), .ref (a 6), .ref (a 7), .ref (a 8), .ref (a 11), .int 0])), (a 8, .inr (12, [.ref (a 9), .ref (a 10), .int 0]))]) [0, 1] (by decide) rfl⟩, hS.F ht⟩) hS.2.2 dX8_windAt_15
def w_x_rainAt : List Cond := .code yX8_rainAt cX8_rainAt 3 (some .int) :: ([.fieldLink RX8 31 "SeaLand$Sky" "rain" "LSeaLand$Tellings;", .code yX9_standingAt cX9_standingAt 5 (some .int), .fieldLink RX9 18 "SeaLand$Tellings" "told" "I", .methodLink RX8 44 yX9_standingAt, .instanceMethod yX9_standingAt, .selects RX9 yX9_standingAt yX9_standingAt, .initialized RX9] ++ bs)
set_option maxHeartbeats 4000000 in
set_option maxRecDepth 100000 in
theorem x_rainAt (l : Launch) (dC : Nat → ClassId) (dI : Nat → Nat → Nat) (a : Nat → Nat) (k : Nat → ClassId) (h : Int32) (sz : Nat) : Met l yX8_rainAt w_x_rainAt ({ frames := 1, cells := 0, slots := 0, locals := 24 }) (va_Pc [.ref (a 3), .int h] (fun U => U.heap.size = sz ∧ va_P (dC, dI) vwCl [(a 3, .inr (11, [.ref (a 4), .ref (a 5), .ref (a 6), .ref (a 7), .ref (a 8), .ref (a 11), .int 0])), (a 11, .inr (12, [.ref (a 12), .ref (a 13), .int 0]))] U.heap ∧ va_K (dC, dI) vwCl [] U ∧ va_D (fun _ => True) [(a 3, .inr (11, [.ref (a 4), .ref (a 5), .ref (a 6), .ref (a 7), .ref (a 8), .ref (a 11), .int 0])), (a 11, .inr (12, [.ref (a 12), .ref (a 13), .int 0]))] ∧ EV (va_A [(a 3, .inr (11, [.ref (a 4), .ref (a 5), .ref (a 6), .ref (a 7), .ref (a 8), .ref (a 11), .int 0])), (a 11, .inr (12, [.ref (a 12), .ref (a 13), .int 0]))] sz) U U.heap)) (va_Qi (fun (r : Int32) (u : Unit) => r = 0) (fun (_ : Unit) (t : State) => va_P (dC, dI) vwCl [(a 3, .inr (11, [.ref (a 4), .ref (a 5), .ref (a 6), .ref (a 7), .ref (a 8), .ref (a 11), .int 0])), (a 11, .inr (12, [.ref (a 12), .ref (a 13), .int 0]))] t.heap ∧ va_D (va_A [(a 3, .inr (11, [.ref (a 4), .ref (a 5), .ref (a 6), .ref (a 7), .ref (a 8), .ref (a 11), .int 0])), (a 11, .inr (12, [.ref (a 12), .ref (a 13), .int 0]))] sz) [(a 3, .inr (11, [.ref (a 4), .ref (a 5), .ref (a 6), .ref (a 7), .ref (a 8), .ref (a 11), .int 0])), (a 11, .inr (12, [.ref (a 12), .ref (a 13), .int 0]))]) (va_A [(a 3, .inr (11, [.ref (a 4), .ref (a 5), .ref (a 6), .ref (a 7), .ref (a 8), .ref (a 11), .int 0])), (a 11, .inr (12, [.ref (a 12), .ref (a 13), .int 0]))] sz)) 0 0 (va_A [(a 3, .inr (11, [.ref (a 4), .ref (a 5), .ref (a 6), .ref (a 7), .ref (a 8), .ref (a 11), .int 0])), (a 11, .inr (12, [.ref (a 12), .ref (a 13), .int 0]))] sz) := by
  refine Met.ofW (cc := cX8_rainAt) (maxL := 3) (ret := (some .int)) (by decide) rfl ?_
  intro p e s m args below meth c s₁ B hml hv
  obtain ⟨rfl, hsz, hP, hK, hD0, hE⟩ := hv
  have hx := B.exec
  have hb := B.bytes
  have hr := B.returns
  have hts := atoms_spec (ws := w_x_rainAt) B.pre
  have hown : s.vm.findClass RX8 = some m.cls := findClass_of_methodNamed B.named
  have hlocks := B.notSynchronized
  subst hsz
  have hD := hD0.self (sz := s.heap.size)
  generalize hAe : va_A [(a 3, .inr (11, [.ref (a 4), .ref (a 5), .ref (a 6), .ref (a 7), .ref (a 8), .ref (a 11), .int 0])), (a 11, .inr (12, [.ref (a 12), .ref (a 13), .int 0]))] s.heap.size = A at hD hE ⊢
  have hA : ∀ q : Nat, s.heap.size ≤ q → A q := fun q h => by rw [← hAe]; exact Or.inr h
  have hS : va_S A s.heap s.heap [] := va_S.rf
  have hP : va_P (dC, dI) vwCl [(a 3, .inr (11, [.ref (a 4), .ref (a 5), .ref (a 6), .ref (a 7), .ref (a 8), .ref (a 11), .int 0])), (a 11, .inr (12, [.ref (a 12), .ref (a 13), .int 0]))] s.heap := hP
  have hl := lv_entry ([.ref (a 3), .int h]) (n := 3) (Nat.le_of_ble_eq_true rfl)
  rw [lg_entry_eq]
  generalize (lg_sl ([.ref (a 3), .int h]) ++ List.replicate (3 - (lg_sl ([.ref (a 3), .int h])).length) Slot.unset).toArray = ls at hl ⊢
  have hl : lv_has ls 3 [(0, .ref (a 3)), (1, .int h)] := hl
  refine lv_aload_n hx hb dX8_rainAt_0 rfl (lv_at hl 0 rfl) ?_
  refine va_get (D := (dC, dI)) (ci := 11) (v := .ref (a 11)) (C := RX8) (T := TX8) (N := 7) hx hb hts bF_X8 hown hK hP 0 rfl rfl 5 (by decide) (ht_at hts 0 rfl) (fun _ h9 => h9) rfl dX8_rainAt_1 ?_
  refine lv_iload_n hx hb dX8_rainAt_4 rfl (lv_at hl 1 rfl) ?_
  have hPc := hP.sub (ws' := [(a 11, .inr (12, [.ref (a 12), .ref (a 13), .int 0]))]) [1] rfl
  have hDc := hD.sub (ws' := [(a 11, .inr (12, [.ref (a 12), .ref (a 13), .int 0]))]) [1] (by decide) rfl
  have hKc := hK.sub (tys' := []) [] rfl
  have hFc := va_free (wc := [(a 11, .inr (12, [.ref (a 12), .ref (a 13), .int 0]))]) hD hS hA [1] rfl
  refine va_calli (va_runV (As := [.int h]) (rest := []) ⟨hx, hb, hml, hown, hts⟩ (x_standingR l dC dI a k h s.heap.size ) (cwV 1 hts (goodIn_app (goodIn_r _ [4, 5, 6, 7] (by decide +kernel) (by decide +kernel)) (goodIn_ca (goodIn_r _ [2, 3] (by decide +kernel) (by decide +kernel)) (bs_in _ _))) rfl rfl rfl (by decide +kernel) ⟨(Nat.le_of_ble_eq_true rfl), (Nat.le_of_ble_eq_true rfl)⟩) ⟨fun a U g mk q => by obtain ⟨q0, q1, qP, qK, qD, qE⟩ := q; exact ⟨q0, q1, qP, va_K.moved (u := U) (U := U.calling g mk a) (Vm.Alike.refl U.vm) qK, qD, EV.blind g mk a qE⟩, va_recv hKc hPc (ci := 12) (q0 := 0) rfl rfl, fun U hU hW => ⟨rfl, by rw [hU], by rw [hU]; exact hPc, va_K.moved hW.alike hKc, hDc.weaken (fun _ _ _ _ => trivial), hE.call hS hFc hU hW⟩⟩ rfl rfl hl.1 rfl (lv_room (Nat.le_of_ble_eq_true rfl)) dX8_rainAt_5 ⟨(Nat.le_of_ble_eq_true rfl), (Nat.le_of_ble_eq_true rfl)⟩) hS (fun q _ h => hFc q h) hFc (fun r2 u t H1 locs ht hvm hw3 hB hz1 hk1 hS => ?_)
  obtain ⟨hP1, hD1⟩ := hB
  rw [ht] at hP1
  obtain ⟨hP, hD⟩ := va_join (wr := [(a 3, .inr (11, [.ref (a 4), .ref (a 5), .ref (a 6), .ref (a 7), .ref (a 8), .ref (a 11), .int 0]))]) (w1 := [(a 11, .inr (12, [.ref (a 12), .ref (a 13), .int 0]))]) hP hD [1] [0] rfl rfl (by decide) (by decide) hk1 hFc hP1 hD1
  generalize H1 = H at hP hS ⊢
  have hP : va_P (dC, dI) vwCl [(a 3, .inr (11, [.ref (a 4), .ref (a 5), .ref (a 6), .ref (a 7), .ref (a 8), .ref (a 11), .int 0])), (a 11, .inr (12, [.ref (a 12), .ref (a 13), .int 0]))] H := hP
  have hD : va_D A [(a 3, .inr (11, [.ref (a 4), .ref (a 5), .ref (a 6), .ref (a 7), .ref (a 8), .ref (a 11), .int 0])), (a 11, .inr (12, [.ref (a 12), .ref (a 13), .int 0]))] := hD
  try dsimp only at hw3
  obtain rfl : (-1) = r2 := (hw3).symm
  refine lv_istore_n (lv' := [(2, .int (-1)), (0, .ref (a 3)), (1, .int h)]) hx hb dX8_rainAt_8 rfl hl (by decide) rfl (fun ls hl => ?_)
  refine lv_iload_n hx hb dX8_rainAt_9 rfl (lv_at hl 0 rfl) ?_
  refine lv_iconst (v := (-1)) hx hb dX8_rainAt_10 (by decide) ?_
  refine lv_icmp_ne (tgt := 18) hx hb dX8_rainAt_11 (by decide) (fun c4 => absurd c4 (by decide)) (fun c4 => ?_)
  refine lv_iconst (v := 0) hx hb dX8_rainAt_14 (by decide) ?_
  refine lv_goto (tgt := 27) hx hb dX8_rainAt_15 (by decide) ?_
  exact W.iret (v := 0) hx hb hr (fun t ht hW => ⟨⟨0, (), rfl, (by rfl), by rw [ht]; exact hP.sub (ws' := [(a 3, .inr (11, [.ref (a 4), .ref (a 5), .ref (a 6), .ref (a 7), .ref (a 8), .ref (a 11), .int 0])), (a 11, .inr (12, [.ref (a 12), .ref (a 13), .int 0]))]) [0, 1] rfl, hD.sub (ws' := [(a 3, .inr (11, [.ref (a 4), .ref (a 5), .ref (a 6), .ref (a 7), .ref (a 8), .ref (a 11), .int 0])), (a 11, .inr (12, [.ref (a 12), .ref (a 13), .int 0]))]) [0, 1] (by decide) rfl⟩, hS.F ht⟩) hS.2.2 dX8_rainAt_27
def w_x_workOn : List Cond := .code yX3_workOn cX3_workOn 3 (some .int) :: ([.fieldLink RX3 47 "SeaLand$Lake" "built" "I"] ++ bs)
set_option maxHeartbeats 4000000 in
set_option maxRecDepth 100000 in
theorem x_workOn (l : Launch) (dC : Nat → ClassId) (dI : Nat → Nat → Nat) (a : Nat → Nat) (k : Nat → ClassId) (sq : Int32) (sz : Nat) : Met l yX3_workOn w_x_workOn ({ frames := 0, cells := 0, slots := 0, locals := 0 }) (va_Pc [.ref (a 2), .int sq] (fun U => U.heap.size = sz ∧ va_P (dC, dI) vwCl [(a 2, .inr (6, [.ref (a 3), .ref (a 14), .ref (a 26), .int 0, .int 0]))] U.heap ∧ va_K (dC, dI) vwCl [] U ∧ va_D (fun _ => True) [(a 2, .inr (6, [.ref (a 3), .ref (a 14), .ref (a 26), .int 0, .int 0]))] ∧ EV (va_A [(a 2, .inr (6, [.ref (a 3), .ref (a 14), .ref (a 26), .int 0, .int 0]))] sz) U U.heap)) (va_Qi (fun (r : Int32) (u : Unit) => r = -1) (fun (_ : Unit) (t : State) => va_P (dC, dI) vwCl [(a 2, .inr (6, [.ref (a 3), .ref (a 14), .ref (a 26), .int 0, .int 0]))] t.heap ∧ va_D (va_A [(a 2, .inr (6, [.ref (a 3), .ref (a 14), .ref (a 26), .int 0, .int 0]))] sz) [(a 2, .inr (6, [.ref (a 3), .ref (a 14), .ref (a 26), .int 0, .int 0]))]) (va_A [(a 2, .inr (6, [.ref (a 3), .ref (a 14), .ref (a 26), .int 0, .int 0]))] sz)) 0 0 (va_A [(a 2, .inr (6, [.ref (a 3), .ref (a 14), .ref (a 26), .int 0, .int 0]))] sz) := by
  refine Met.ofW (cc := cX3_workOn) (maxL := 3) (ret := (some .int)) (by decide) rfl ?_
  intro p e s m args below meth c s₁ B hml hv
  obtain ⟨rfl, hsz, hP, hK, hD0, hE⟩ := hv
  have hx := B.exec
  have hb := B.bytes
  have hr := B.returns
  have hts := atoms_spec (ws := w_x_workOn) B.pre
  have hown : s.vm.findClass RX3 = some m.cls := findClass_of_methodNamed B.named
  have hlocks := B.notSynchronized
  subst hsz
  have hD := hD0.self (sz := s.heap.size)
  generalize hAe : va_A [(a 2, .inr (6, [.ref (a 3), .ref (a 14), .ref (a 26), .int 0, .int 0]))] s.heap.size = A at hD hE ⊢
  have hA : ∀ q : Nat, s.heap.size ≤ q → A q := fun q h => by rw [← hAe]; exact Or.inr h
  have hS : va_S A s.heap s.heap [] := va_S.rf
  have hP : va_P (dC, dI) vwCl [(a 2, .inr (6, [.ref (a 3), .ref (a 14), .ref (a 26), .int 0, .int 0]))] s.heap := hP
  have hl := lv_entry ([.ref (a 2), .int sq]) (n := 3) (Nat.le_of_ble_eq_true rfl)
  rw [lg_entry_eq]
  generalize (lg_sl ([.ref (a 2), .int sq]) ++ List.replicate (3 - (lg_sl ([.ref (a 2), .int sq])).length) Slot.unset).toArray = ls at hl ⊢
  have hl : lv_has ls 3 [(0, .ref (a 2)), (1, .int sq)] := hl
  refine lv_iconst (v := 0) hx hb dX3_workOn_0 (by decide) ?_
  refine lv_istore_n (lv' := [(2, .int 0), (0, .ref (a 2)), (1, .int sq)]) hx hb dX3_workOn_1 rfl hl (by decide) rfl (fun ls hl => ?_)
  refine lv_iload_n hx hb dX3_workOn_2 rfl (lv_at hl 0 rfl) ?_
  refine lv_aload_n hx hb dX3_workOn_3 rfl (lv_at hl 1 rfl) ?_
  refine va_get (D := (dC, dI)) (ci := 6) (v := .int 0) (C := RX3) (T := TX3) (N := 5) hx hb hts bF_X3 hown hK hP 0 rfl rfl 3 (by decide) (ht_at hts 0 rfl) (fun _ h9 => h9) rfl dX3_workOn_4 ?_
  refine lv_icmp_ge (tgt := 31) hx hb dX3_workOn_7 (by decide) (fun c1 => ?_) (fun c1 => absurd c1 (by decide))
  refine lv_iconst (v := (-1)) hx hb dX3_workOn_31 (by decide) ?_
  exact W.iret (v := (-1)) hx hb hr (fun t ht hW => ⟨⟨(-1), (), rfl, (by rfl), by rw [ht]; exact hP.sub (ws' := [(a 2, .inr (6, [.ref (a 3), .ref (a 14), .ref (a 26), .int 0, .int 0]))]) [0] rfl, hD.sub (ws' := [(a 2, .inr (6, [.ref (a 3), .ref (a 14), .ref (a 26), .int 0, .int 0]))]) [0] (by decide) rfl⟩, hS.F ht⟩) hS.2.2 dX3_workOn_32
def w_x_dayNow : List Cond := .code yX3_dayNow cX3_dayNow 1 (some .int) :: ([.fieldLink RX3 32 "SeaLand$Lake" "hour" "I"] ++ bs)
set_option maxHeartbeats 4000000 in
set_option maxRecDepth 100000 in
theorem x_dayNow (l : Launch) (dC : Nat → ClassId) (dI : Nat → Nat → Nat) (a : Nat → Nat) (k : Nat → ClassId)  (sz : Nat) : Met l yX3_dayNow w_x_dayNow ({ frames := 0, cells := 0, slots := 0, locals := 0 }) (va_Pc [.ref (a 2)] (fun U => U.heap.size = sz ∧ va_P (dC, dI) vwCl [(a 2, .inr (6, [.ref (a 3), .ref (a 14), .ref (a 26), .int 0, .int 0]))] U.heap ∧ va_K (dC, dI) vwCl [] U ∧ va_D (fun _ => True) [(a 2, .inr (6, [.ref (a 3), .ref (a 14), .ref (a 26), .int 0, .int 0]))] ∧ EV (va_A [(a 2, .inr (6, [.ref (a 3), .ref (a 14), .ref (a 26), .int 0, .int 0]))] sz) U U.heap)) (va_Qi (fun (r : Int32) (u : Unit) => r = 0) (fun (_ : Unit) (t : State) => va_P (dC, dI) vwCl [(a 2, .inr (6, [.ref (a 3), .ref (a 14), .ref (a 26), .int 0, .int 0]))] t.heap ∧ va_D (va_A [(a 2, .inr (6, [.ref (a 3), .ref (a 14), .ref (a 26), .int 0, .int 0]))] sz) [(a 2, .inr (6, [.ref (a 3), .ref (a 14), .ref (a 26), .int 0, .int 0]))]) (va_A [(a 2, .inr (6, [.ref (a 3), .ref (a 14), .ref (a 26), .int 0, .int 0]))] sz)) 0 0 (va_A [(a 2, .inr (6, [.ref (a 3), .ref (a 14), .ref (a 26), .int 0, .int 0]))] sz) := by
  refine Met.ofW (cc := cX3_dayNow) (maxL := 1) (ret := (some .int)) (by decide) rfl ?_
  intro p e s m args below meth c s₁ B hml hv
  obtain ⟨rfl, hsz, hP, hK, hD0, hE⟩ := hv
  have hx := B.exec
  have hb := B.bytes
  have hr := B.returns
  have hts := atoms_spec (ws := w_x_dayNow) B.pre
  have hown : s.vm.findClass RX3 = some m.cls := findClass_of_methodNamed B.named
  have hlocks := B.notSynchronized
  subst hsz
  have hD := hD0.self (sz := s.heap.size)
  generalize hAe : va_A [(a 2, .inr (6, [.ref (a 3), .ref (a 14), .ref (a 26), .int 0, .int 0]))] s.heap.size = A at hD hE ⊢
  have hA : ∀ q : Nat, s.heap.size ≤ q → A q := fun q h => by rw [← hAe]; exact Or.inr h
  have hS : va_S A s.heap s.heap [] := va_S.rf
  have hP : va_P (dC, dI) vwCl [(a 2, .inr (6, [.ref (a 3), .ref (a 14), .ref (a 26), .int 0, .int 0]))] s.heap := hP
  have hl := lv_entry ([.ref (a 2)]) (n := 1) (Nat.le_of_ble_eq_true rfl)
  rw [lg_entry_eq]
  generalize (lg_sl ([.ref (a 2)]) ++ List.replicate (1 - (lg_sl ([.ref (a 2)])).length) Slot.unset).toArray = ls at hl ⊢
  have hl : lv_has ls 1 [(0, .ref (a 2))] := hl
  refine lv_aload_n hx hb dX3_dayNow_0 rfl (lv_at hl 0 rfl) ?_
  refine va_get (D := (dC, dI)) (ci := 6) (v := .int 0) (C := RX3) (T := TX3) (N := 5) hx hb hts bF_X3 hown hK hP 0 rfl rfl 4 (by decide) (ht_at hts 0 rfl) (fun _ h9 => h9) rfl dX3_dayNow_1 ?_
  refine lv_bipush (v := 24) hx hb dX3_dayNow_4 (by decide) ?_
  refine lv_idiv hx hb dX3_dayNow_6 (by decide) ?_
  refine lv_topi (fun x1 ex1 => ?_)
  obtain rfl : x1 = 0 := ex1.trans (by decide)
  exact W.iret (v := 0) hx hb hr (fun t ht hW => ⟨⟨0, (), rfl, (by rfl), by rw [ht]; exact hP.sub (ws' := [(a 2, .inr (6, [.ref (a 3), .ref (a 14), .ref (a 26), .int 0, .int 0]))]) [0] rfl, hD.sub (ws' := [(a 2, .inr (6, [.ref (a 3), .ref (a 14), .ref (a 26), .int 0, .int 0]))]) [0] (by decide) rfl⟩, hS.F ht⟩) hS.2.2 dX3_dayNow_7
def w_x_levelFor : List Cond := .code yX4_levelFor cX4_levelFor 5 (some .int) :: ([.fieldLink RX4 60 "SeaLand$Law" "lines" "I"] ++ bs)
set_option maxHeartbeats 4000000 in
set_option maxRecDepth 100000 in
theorem x_levelFor (l : Launch) (dC : Nat → ClassId) (dI : Nat → Nat → Nat) (a : Nat → Nat) (k : Nat → ClassId) (sq su : Int32) (sz : Nat) : Met l yX4_levelFor w_x_levelFor ({ frames := 0, cells := 0, slots := 0, locals := 0 }) (va_Pc [.ref (a 38), .int sq, .int su] (fun U => U.heap.size = sz ∧ va_P (dC, dI) vwCl [(a 38, .inr (7, [.ref (a 39), .ref (a 40), .ref (a 41), .ref (a 42), .ref (a 43), .ref (a 44), .ref (a 45), .ref (a 46), .ref (a 47), .ref (a 48), .ref (a 49), .int 0, .int 0, .int 0]))] U.heap ∧ va_K (dC, dI) vwCl [] U ∧ va_D (fun _ => True) [(a 38, .inr (7, [.ref (a 39), .ref (a 40), .ref (a 41), .ref (a 42), .ref (a 43), .ref (a 44), .ref (a 45), .ref (a 46), .ref (a 47), .ref (a 48), .ref (a 49), .int 0, .int 0, .int 0]))] ∧ EV (va_A [(a 38, .inr (7, [.ref (a 39), .ref (a 40), .ref (a 41), .ref (a 42), .ref (a 43), .ref (a 44), .ref (a 45), .ref (a 46), .ref (a 47), .ref (a 48), .ref (a 49), .int 0, .int 0, .int 0]))] sz) U U.heap)) (va_Qi (fun (r : Int32) (u : Unit) => r = 1000) (fun (_ : Unit) (t : State) => va_P (dC, dI) vwCl [(a 38, .inr (7, [.ref (a 39), .ref (a 40), .ref (a 41), .ref (a 42), .ref (a 43), .ref (a 44), .ref (a 45), .ref (a 46), .ref (a 47), .ref (a 48), .ref (a 49), .int 0, .int 0, .int 0]))] t.heap ∧ va_D (va_A [(a 38, .inr (7, [.ref (a 39), .ref (a 40), .ref (a 41), .ref (a 42), .ref (a 43), .ref (a 44), .ref (a 45), .ref (a 46), .ref (a 47), .ref (a 48), .ref (a 49), .int 0, .int 0, .int 0]))] sz) [(a 38, .inr (7, [.ref (a 39), .ref (a 40), .ref (a 41), .ref (a 42), .ref (a 43), .ref (a 44), .ref (a 45), .ref (a 46), .ref (a 47), .ref (a 48), .ref (a 49), .int 0, .int 0, .int 0]))]) (va_A [(a 38, .inr (7, [.ref (a 39), .ref (a 40), .ref (a 41), .ref (a 42), .ref (a 43), .ref (a 44), .ref (a 45), .ref (a 46), .ref (a 47), .ref (a 48), .ref (a 49), .int 0, .int 0, .int 0]))] sz)) 0 0 (va_A [(a 38, .inr (7, [.ref (a 39), .ref (a 40), .ref (a 41), .ref (a 42), .ref (a 43), .ref (a 44), .ref (a 45), .ref (a 46), .ref (a 47), .ref (a 48), .ref (a 49), .int 0, .int 0, .int 0]))] sz) := by
  refine Met.ofW (cc := cX4_levelFor) (maxL := 5) (ret := (some .int)) (by decide) rfl ?_
  intro p e s m args below meth c s₁ B hml hv
  obtain ⟨rfl, hsz, hP, hK, hD0, hE⟩ := hv
  have hx := B.exec
  have hb := B.bytes
  have hr := B.returns
  have hts := atoms_spec (ws := w_x_levelFor) B.pre
  have hown : s.vm.findClass RX4 = some m.cls := findClass_of_methodNamed B.named
  have hlocks := B.notSynchronized
  subst hsz
  have hD := hD0.self (sz := s.heap.size)
  generalize hAe : va_A [(a 38, .inr (7, [.ref (a 39), .ref (a 40), .ref (a 41), .ref (a 42), .ref (a 43), .ref (a 44), .ref (a 45), .ref (a 46), .ref (a 47), .ref (a 48), .ref (a 49), .int 0, .int 0, .int 0]))] s.heap.size = A at hD hE ⊢
  have hA : ∀ q : Nat, s.heap.size ≤ q → A q := fun q h => by rw [← hAe]; exact Or.inr h
  have hS : va_S A s.heap s.heap [] := va_S.rf
  have hP : va_P (dC, dI) vwCl [(a 38, .inr (7, [.ref (a 39), .ref (a 40), .ref (a 41), .ref (a 42), .ref (a 43), .ref (a 44), .ref (a 45), .ref (a 46), .ref (a 47), .ref (a 48), .ref (a 49), .int 0, .int 0, .int 0]))] s.heap := hP
  have hl := lv_entry ([.ref (a 38), .int sq, .int su]) (n := 5) (Nat.le_of_ble_eq_true rfl)
  rw [lg_entry_eq]
  generalize (lg_sl ([.ref (a 38), .int sq, .int su]) ++ List.replicate (5 - (lg_sl ([.ref (a 38), .int sq, .int su])).length) Slot.unset).toArray = ls at hl ⊢
  have hl : lv_has ls 5 [(0, .ref (a 38)), (1, .int sq), (2, .int su)] := hl
  refine lv_sipush (v := 1000) hx hb dX4_levelFor_0 (by decide) ?_
  refine lv_istore_n (lv' := [(3, .int 1000), (0, .ref (a 38)), (1, .int sq), (2, .int su)]) hx hb dX4_levelFor_3 rfl hl (by decide) rfl (fun ls hl => ?_)
  refine lv_iconst (v := 0) hx hb dX4_levelFor_4 (by decide) ?_
  refine lv_istore (lv' := [(4, .int 0), (3, .int 1000), (0, .ref (a 38)), (1, .int sq), (2, .int su)]) hx hb dX4_levelFor_5 hl (by decide) rfl (fun ls hl => ?_)
  refine lv_iload hx hb dX4_levelFor_7 (lv_at hl 0 rfl) ?_
  refine lv_aload_n hx hb dX4_levelFor_9 rfl (lv_at hl 2 rfl) ?_
  refine va_get (D := (dC, dI)) (ci := 7) (v := .int 0) (C := RX4) (T := TX4) (N := 14) hx hb hts bF_X4 hown hK hP 0 rfl rfl 11 (by decide) (ht_at hts 0 rfl) (fun _ h9 => h9) rfl dX4_levelFor_10 ?_
  refine lv_icmp_ge (tgt := 79) hx hb dX4_levelFor_13 (by decide) (fun c1 => ?_) (fun c1 => absurd c1 (by decide))
  refine lv_iload_n hx hb dX4_levelFor_79 rfl (lv_at hl 1 rfl) ?_
  exact W.iret (v := 1000) hx hb hr (fun t ht hW => ⟨⟨1000, (), rfl, (by rfl), by rw [ht]; exact hP.sub (ws' := [(a 38, .inr (7, [.ref (a 39), .ref (a 40), .ref (a 41), .ref (a 42), .ref (a 43), .ref (a 44), .ref (a 45), .ref (a 46), .ref (a 47), .ref (a 48), .ref (a 49), .int 0, .int 0, .int 0]))]) [0] rfl, hD.sub (ws' := [(a 38, .inr (7, [.ref (a 39), .ref (a 40), .ref (a 41), .ref (a 42), .ref (a 43), .ref (a 44), .ref (a 45), .ref (a 46), .ref (a 47), .ref (a 48), .ref (a 49), .int 0, .int 0, .int 0]))]) [0] (by decide) rfl⟩, hS.F ht⟩) hS.2.2 dX4_levelFor_80
def w_x_stepsToBank : List Cond := .code yX3_stepsToBank cX3_stepsToBank 4 (some .int) :: ([.fieldLink RX3 47 "SeaLand$Lake" "built" "I"] ++ bs)
set_option maxHeartbeats 4000000 in
set_option maxRecDepth 100000 in
theorem x_stepsToBank (l : Launch) (dC : Nat → ClassId) (dI : Nat → Nat → Nat) (a : Nat → Nat) (k : Nat → ClassId) (sq : Int32) (sz : Nat) : Met l yX3_stepsToBank w_x_stepsToBank ({ frames := 0, cells := 0, slots := 0, locals := 0 }) (va_Pc [.ref (a 2), .int sq] (fun U => U.heap.size = sz ∧ va_P (dC, dI) vwCl [(a 2, .inr (6, [.ref (a 3), .ref (a 14), .ref (a 26), .int 0, .int 0]))] U.heap ∧ va_K (dC, dI) vwCl [] U ∧ va_D (fun _ => True) [(a 2, .inr (6, [.ref (a 3), .ref (a 14), .ref (a 26), .int 0, .int 0]))] ∧ EV (va_A [(a 2, .inr (6, [.ref (a 3), .ref (a 14), .ref (a 26), .int 0, .int 0]))] sz) U U.heap)) (va_Qi (fun (r : Int32) (u : Unit) => r = 99) (fun (_ : Unit) (t : State) => va_P (dC, dI) vwCl [(a 2, .inr (6, [.ref (a 3), .ref (a 14), .ref (a 26), .int 0, .int 0]))] t.heap ∧ va_D (va_A [(a 2, .inr (6, [.ref (a 3), .ref (a 14), .ref (a 26), .int 0, .int 0]))] sz) [(a 2, .inr (6, [.ref (a 3), .ref (a 14), .ref (a 26), .int 0, .int 0]))]) (va_A [(a 2, .inr (6, [.ref (a 3), .ref (a 14), .ref (a 26), .int 0, .int 0]))] sz)) 0 0 (va_A [(a 2, .inr (6, [.ref (a 3), .ref (a 14), .ref (a 26), .int 0, .int 0]))] sz) := by
  refine Met.ofW (cc := cX3_stepsToBank) (maxL := 4) (ret := (some .int)) (by decide) rfl ?_
  intro p e s m args below meth c s₁ B hml hv
  obtain ⟨rfl, hsz, hP, hK, hD0, hE⟩ := hv
  have hx := B.exec
  have hb := B.bytes
  have hr := B.returns
  have hts := atoms_spec (ws := w_x_stepsToBank) B.pre
  have hown : s.vm.findClass RX3 = some m.cls := findClass_of_methodNamed B.named
  have hlocks := B.notSynchronized
  subst hsz
  have hD := hD0.self (sz := s.heap.size)
  generalize hAe : va_A [(a 2, .inr (6, [.ref (a 3), .ref (a 14), .ref (a 26), .int 0, .int 0]))] s.heap.size = A at hD hE ⊢
  have hA : ∀ q : Nat, s.heap.size ≤ q → A q := fun q h => by rw [← hAe]; exact Or.inr h
  have hS : va_S A s.heap s.heap [] := va_S.rf
  have hP : va_P (dC, dI) vwCl [(a 2, .inr (6, [.ref (a 3), .ref (a 14), .ref (a 26), .int 0, .int 0]))] s.heap := hP
  have hl := lv_entry ([.ref (a 2), .int sq]) (n := 4) (Nat.le_of_ble_eq_true rfl)
  rw [lg_entry_eq]
  generalize (lg_sl ([.ref (a 2), .int sq]) ++ List.replicate (4 - (lg_sl ([.ref (a 2), .int sq])).length) Slot.unset).toArray = ls at hl ⊢
  have hl : lv_has ls 4 [(0, .ref (a 2)), (1, .int sq)] := hl
  refine lv_bipush (v := 99) hx hb dX3_stepsToBank_0 (by decide) ?_
  refine lv_istore_n (lv' := [(2, .int 99), (0, .ref (a 2)), (1, .int sq)]) hx hb dX3_stepsToBank_2 rfl hl (by decide) rfl (fun ls hl => ?_)
  refine lv_iconst (v := 0) hx hb dX3_stepsToBank_3 (by decide) ?_
  refine lv_istore_n (lv' := [(3, .int 0), (2, .int 99), (0, .ref (a 2)), (1, .int sq)]) hx hb dX3_stepsToBank_4 rfl hl (by decide) rfl (fun ls hl => ?_)
  refine lv_iload_n hx hb dX3_stepsToBank_5 rfl (lv_at hl 0 rfl) ?_
  refine lv_aload_n hx hb dX3_stepsToBank_6 rfl (lv_at hl 2 rfl) ?_
  refine va_get (D := (dC, dI)) (ci := 6) (v := .int 0) (C := RX3) (T := TX3) (N := 5) hx hb hts bF_X3 hown hK hP 0 rfl rfl 3 (by decide) (ht_at hts 0 rfl) (fun _ h9 => h9) rfl dX3_stepsToBank_7 ?_
  refine lv_icmp_ge (tgt := 49) hx hb dX3_stepsToBank_10 (by decide) (fun c1 => ?_) (fun c1 => absurd c1 (by decide))
  refine lv_iload_n hx hb dX3_stepsToBank_49 rfl (lv_at hl 1 rfl) ?_
  exact W.iret (v := 99) hx hb hr (fun t ht hW => ⟨⟨99, (), rfl, (by rfl), by rw [ht]; exact hP.sub (ws' := [(a 2, .inr (6, [.ref (a 3), .ref (a 14), .ref (a 26), .int 0, .int 0]))]) [0] rfl, hD.sub (ws' := [(a 2, .inr (6, [.ref (a 3), .ref (a 14), .ref (a 26), .int 0, .int 0]))]) [0] (by decide) rfl⟩, hS.F ht⟩) hS.2.2 dX3_stepsToBank_50
def w_x_lastOf : List Cond := .code yX4_lastOf cX4_lastOf 5 (some .int) :: ([.fieldLink RX4 60 "SeaLand$Law" "lines" "I"] ++ bs)
set_option maxHeartbeats 4000000 in
set_option maxRecDepth 100000 in
theorem x_lastOf (l : Launch) (dC : Nat → ClassId) (dI : Nat → Nat → Nat) (a : Nat → Nat) (k : Nat → ClassId) (kd wo : Int32) (sz : Nat) : Met l yX4_lastOf w_x_lastOf ({ frames := 0, cells := 0, slots := 0, locals := 0 }) (va_Pc [.ref (a 38), .int kd, .int wo] (fun U => U.heap.size = sz ∧ va_P (dC, dI) vwCl [(a 38, .inr (7, [.ref (a 39), .ref (a 40), .ref (a 41), .ref (a 42), .ref (a 43), .ref (a 44), .ref (a 45), .ref (a 46), .ref (a 47), .ref (a 48), .ref (a 49), .int 0, .int 0, .int 0]))] U.heap ∧ va_K (dC, dI) vwCl [] U ∧ va_D (fun _ => True) [(a 38, .inr (7, [.ref (a 39), .ref (a 40), .ref (a 41), .ref (a 42), .ref (a 43), .ref (a 44), .ref (a 45), .ref (a 46), .ref (a 47), .ref (a 48), .ref (a 49), .int 0, .int 0, .int 0]))] ∧ EV (va_A [(a 38, .inr (7, [.ref (a 39), .ref (a 40), .ref (a 41), .ref (a 42), .ref (a 43), .ref (a 44), .ref (a 45), .ref (a 46), .ref (a 47), .ref (a 48), .ref (a 49), .int 0, .int 0, .int 0]))] sz) U U.heap)) (va_Qi (fun (r : Int32) (u : Unit) => r = wo) (fun (_ : Unit) (t : State) => va_P (dC, dI) vwCl [(a 38, .inr (7, [.ref (a 39), .ref (a 40), .ref (a 41), .ref (a 42), .ref (a 43), .ref (a 44), .ref (a 45), .ref (a 46), .ref (a 47), .ref (a 48), .ref (a 49), .int 0, .int 0, .int 0]))] t.heap ∧ va_D (va_A [(a 38, .inr (7, [.ref (a 39), .ref (a 40), .ref (a 41), .ref (a 42), .ref (a 43), .ref (a 44), .ref (a 45), .ref (a 46), .ref (a 47), .ref (a 48), .ref (a 49), .int 0, .int 0, .int 0]))] sz) [(a 38, .inr (7, [.ref (a 39), .ref (a 40), .ref (a 41), .ref (a 42), .ref (a 43), .ref (a 44), .ref (a 45), .ref (a 46), .ref (a 47), .ref (a 48), .ref (a 49), .int 0, .int 0, .int 0]))]) (va_A [(a 38, .inr (7, [.ref (a 39), .ref (a 40), .ref (a 41), .ref (a 42), .ref (a 43), .ref (a 44), .ref (a 45), .ref (a 46), .ref (a 47), .ref (a 48), .ref (a 49), .int 0, .int 0, .int 0]))] sz)) 0 0 (va_A [(a 38, .inr (7, [.ref (a 39), .ref (a 40), .ref (a 41), .ref (a 42), .ref (a 43), .ref (a 44), .ref (a 45), .ref (a 46), .ref (a 47), .ref (a 48), .ref (a 49), .int 0, .int 0, .int 0]))] sz) := by
  refine Met.ofW (cc := cX4_lastOf) (maxL := 5) (ret := (some .int)) (by decide) rfl ?_
  intro p e s m args below meth c s₁ B hml hv
  obtain ⟨rfl, hsz, hP, hK, hD0, hE⟩ := hv
  have hx := B.exec
  have hb := B.bytes
  have hr := B.returns
  have hts := atoms_spec (ws := w_x_lastOf) B.pre
  have hown : s.vm.findClass RX4 = some m.cls := findClass_of_methodNamed B.named
  have hlocks := B.notSynchronized
  subst hsz
  have hD := hD0.self (sz := s.heap.size)
  generalize hAe : va_A [(a 38, .inr (7, [.ref (a 39), .ref (a 40), .ref (a 41), .ref (a 42), .ref (a 43), .ref (a 44), .ref (a 45), .ref (a 46), .ref (a 47), .ref (a 48), .ref (a 49), .int 0, .int 0, .int 0]))] s.heap.size = A at hD hE ⊢
  have hA : ∀ q : Nat, s.heap.size ≤ q → A q := fun q h => by rw [← hAe]; exact Or.inr h
  have hS : va_S A s.heap s.heap [] := va_S.rf
  have hP : va_P (dC, dI) vwCl [(a 38, .inr (7, [.ref (a 39), .ref (a 40), .ref (a 41), .ref (a 42), .ref (a 43), .ref (a 44), .ref (a 45), .ref (a 46), .ref (a 47), .ref (a 48), .ref (a 49), .int 0, .int 0, .int 0]))] s.heap := hP
  have hl := lv_entry ([.ref (a 38), .int kd, .int wo]) (n := 5) (Nat.le_of_ble_eq_true rfl)
  rw [lg_entry_eq]
  generalize (lg_sl ([.ref (a 38), .int kd, .int wo]) ++ List.replicate (5 - (lg_sl ([.ref (a 38), .int kd, .int wo])).length) Slot.unset).toArray = ls at hl ⊢
  have hl : lv_has ls 5 [(0, .ref (a 38)), (1, .int kd), (2, .int wo)] := hl
  refine lv_iload_n hx hb dX4_lastOf_0 rfl (lv_at hl 2 rfl) ?_
  refine lv_istore_n (lv' := [(3, .int wo), (0, .ref (a 38)), (1, .int kd), (2, .int wo)]) hx hb dX4_lastOf_1 rfl hl (by decide) rfl (fun ls hl => ?_)
  refine lv_iconst (v := 0) hx hb dX4_lastOf_2 (by decide) ?_
  refine lv_istore (lv' := [(4, .int 0), (3, .int wo), (0, .ref (a 38)), (1, .int kd), (2, .int wo)]) hx hb dX4_lastOf_3 hl (by decide) rfl (fun ls hl => ?_)
  refine lv_iload hx hb dX4_lastOf_5 (lv_at hl 0 rfl) ?_
  refine lv_aload_n hx hb dX4_lastOf_7 rfl (lv_at hl 2 rfl) ?_
  refine va_get (D := (dC, dI)) (ci := 7) (v := .int 0) (C := RX4) (T := TX4) (N := 14) hx hb hts bF_X4 hown hK hP 0 rfl rfl 11 (by decide) (ht_at hts 0 rfl) (fun _ h9 => h9) rfl dX4_lastOf_8 ?_
  refine lv_icmp_ge (tgt := 43) hx hb dX4_lastOf_11 (by decide) (fun c1 => ?_) (fun c1 => absurd c1 (by decide))
  refine lv_iload_n hx hb dX4_lastOf_43 rfl (lv_at hl 1 rfl) ?_
  exact W.iret (v := wo) hx hb hr (fun t ht hW => ⟨⟨wo, (), rfl, (by rfl), by rw [ht]; exact hP.sub (ws' := [(a 38, .inr (7, [.ref (a 39), .ref (a 40), .ref (a 41), .ref (a 42), .ref (a 43), .ref (a 44), .ref (a 45), .ref (a 46), .ref (a 47), .ref (a 48), .ref (a 49), .int 0, .int 0, .int 0]))]) [0] rfl, hD.sub (ws' := [(a 38, .inr (7, [.ref (a 39), .ref (a 40), .ref (a 41), .ref (a 42), .ref (a 43), .ref (a 44), .ref (a 45), .ref (a 46), .ref (a 47), .ref (a 48), .ref (a 49), .int 0, .int 0, .int 0]))]) [0] (by decide) rfl⟩, hS.F ht⟩) hS.2.2 dX4_lastOf_44
def w_x_buildingAllowed : List Cond := .code yX0_buildingAllowed cX0_buildingAllowed 3 (some .boolean) :: ([.code yX3_stepsToBank cX3_stepsToBank 4 (some .int), .fieldLink RX3 47 "SeaLand$Lake" "built" "I", .methodLink RX0 138 yX3_stepsToBank, .instanceMethod yX3_stepsToBank, .selects RX3 yX3_stepsToBank yX3_stepsToBank, .initialized RX3, .fieldLink RX0 41 "SeaLand$Board" "force" "LSeaLand$Law;", .code yX4_lastOf cX4_lastOf 5 (some .int), .fieldLink RX4 60 "SeaLand$Law" "lines" "I", .methodLink RX0 94 yX4_lastOf, .instanceMethod yX4_lastOf, .selects RX4 yX4_lastOf yX4_lastOf, .initialized RX4] ++ bs)
set_option maxHeartbeats 4000000 in
set_option maxRecDepth 100000 in
theorem x_buildingAllowed (l : Launch) (dC : Nat → ClassId) (dI : Nat → Nat → Nat) (a : Nat → Nat) (k : Nat → ClassId) (sq : Int32) (sz : Nat) : Met l yX0_buildingAllowed w_x_buildingAllowed ({ frames := 1, cells := 0, slots := 0, locals := 24 }) (va_Pc [.ref (a 30), .int sq, .ref (a 2)] (fun U => U.heap.size = sz ∧ va_P (dC, dI) vwCl [(a 30, .inr (3, [.ref (a 31), .ref (a 32), .ref (a 33), .ref (a 34), .ref (a 35), .ref (a 36), .ref (a 37), .ref (a 38), .ref (a 50), .ref (a 62), .int (-1), .int 0, .long 0, .long 0, .int 0, .int 0, .int 0, .int 0])), (a 2, .inr (6, [.ref (a 3), .ref (a 14), .ref (a 26), .int 0, .int 0])), (a 38, .inr (7, [.ref (a 39), .ref (a 40), .ref (a 41), .ref (a 42), .ref (a 43), .ref (a 44), .ref (a 45), .ref (a 46), .ref (a 47), .ref (a 48), .ref (a 49), .int 0, .int 0, .int 0]))] U.heap ∧ va_K (dC, dI) vwCl [] U ∧ va_D (fun _ => True) [(a 30, .inr (3, [.ref (a 31), .ref (a 32), .ref (a 33), .ref (a 34), .ref (a 35), .ref (a 36), .ref (a 37), .ref (a 38), .ref (a 50), .ref (a 62), .int (-1), .int 0, .long 0, .long 0, .int 0, .int 0, .int 0, .int 0])), (a 2, .inr (6, [.ref (a 3), .ref (a 14), .ref (a 26), .int 0, .int 0])), (a 38, .inr (7, [.ref (a 39), .ref (a 40), .ref (a 41), .ref (a 42), .ref (a 43), .ref (a 44), .ref (a 45), .ref (a 46), .ref (a 47), .ref (a 48), .ref (a 49), .int 0, .int 0, .int 0]))] ∧ EV (va_A [(a 30, .inr (3, [.ref (a 31), .ref (a 32), .ref (a 33), .ref (a 34), .ref (a 35), .ref (a 36), .ref (a 37), .ref (a 38), .ref (a 50), .ref (a 62), .int (-1), .int 0, .long 0, .long 0, .int 0, .int 0, .int 0, .int 0])), (a 2, .inr (6, [.ref (a 3), .ref (a 14), .ref (a 26), .int 0, .int 0])), (a 38, .inr (7, [.ref (a 39), .ref (a 40), .ref (a 41), .ref (a 42), .ref (a 43), .ref (a 44), .ref (a 45), .ref (a 46), .ref (a 47), .ref (a 48), .ref (a 49), .int 0, .int 0, .int 0]))] sz) U U.heap)) (va_Qi (fun (r : Int32) (u : Unit) => r = 1) (fun (_ : Unit) (t : State) => va_P (dC, dI) vwCl [(a 30, .inr (3, [.ref (a 31), .ref (a 32), .ref (a 33), .ref (a 34), .ref (a 35), .ref (a 36), .ref (a 37), .ref (a 38), .ref (a 50), .ref (a 62), .int (-1), .int 0, .long 0, .long 0, .int 0, .int 0, .int 0, .int 0])), (a 2, .inr (6, [.ref (a 3), .ref (a 14), .ref (a 26), .int 0, .int 0])), (a 38, .inr (7, [.ref (a 39), .ref (a 40), .ref (a 41), .ref (a 42), .ref (a 43), .ref (a 44), .ref (a 45), .ref (a 46), .ref (a 47), .ref (a 48), .ref (a 49), .int 0, .int 0, .int 0]))] t.heap ∧ va_D (va_A [(a 30, .inr (3, [.ref (a 31), .ref (a 32), .ref (a 33), .ref (a 34), .ref (a 35), .ref (a 36), .ref (a 37), .ref (a 38), .ref (a 50), .ref (a 62), .int (-1), .int 0, .long 0, .long 0, .int 0, .int 0, .int 0, .int 0])), (a 2, .inr (6, [.ref (a 3), .ref (a 14), .ref (a 26), .int 0, .int 0])), (a 38, .inr (7, [.ref (a 39), .ref (a 40), .ref (a 41), .ref (a 42), .ref (a 43), .ref (a 44), .ref (a 45), .ref (a 46), .ref (a 47), .ref (a 48), .ref (a 49), .int 0, .int 0, .int 0]))] sz) [(a 30, .inr (3, [.ref (a 31), .ref (a 32), .ref (a 33), .ref (a 34), .ref (a 35), .ref (a 36), .ref (a 37), .ref (a 38), .ref (a 50), .ref (a 62), .int (-1), .int 0, .long 0, .long 0, .int 0, .int 0, .int 0, .int 0])), (a 2, .inr (6, [.ref (a 3), .ref (a 14), .ref (a 26), .int 0, .int 0])), (a 38, .inr (7, [.ref (a 39), .ref (a 40), .ref (a 41), .ref (a 42), .ref (a 43), .ref (a 44), .ref (a 45), .ref (a 46), .ref (a 47), .ref (a 48), .ref (a 49), .int 0, .int 0, .int 0]))]) (va_A [(a 30, .inr (3, [.ref (a 31), .ref (a 32), .ref (a 33), .ref (a 34), .ref (a 35), .ref (a 36), .ref (a 37), .ref (a 38), .ref (a 50), .ref (a 62), .int (-1), .int 0, .long 0, .long 0, .int 0, .int 0, .int 0, .int 0])), (a 2, .inr (6, [.ref (a 3), .ref (a 14), .ref (a 26), .int 0, .int 0])), (a 38, .inr (7, [.ref (a 39), .ref (a 40), .ref (a 41), .ref (a 42), .ref (a 43), .ref (a 44), .ref (a 45), .ref (a 46), .ref (a 47), .ref (a 48), .ref (a 49), .int 0, .int 0, .int 0]))] sz)) 0 0 (va_A [(a 30, .inr (3, [.ref (a 31), .ref (a 32), .ref (a 33), .ref (a 34), .ref (a 35), .ref (a 36), .ref (a 37), .ref (a 38), .ref (a 50), .ref (a 62), .int (-1), .int 0, .long 0, .long 0, .int 0, .int 0, .int 0, .int 0])), (a 2, .inr (6, [.ref (a 3), .ref (a 14), .ref (a 26), .int 0, .int 0])), (a 38, .inr (7, [.ref (a 39), .ref (a 40), .ref (a 41), .ref (a 42), .ref (a 43), .ref (a 44), .ref (a 45), .ref (a 46), .ref (a 47), .ref (a 48), .ref (a 49), .int 0, .int 0, .int 0]))] sz) := by
  refine Met.ofW (cc := cX0_buildingAllowed) (maxL := 3) (ret := (some .boolean)) (by decide) rfl ?_
  intro p e s m args below meth c s₁ B hml hv
  obtain ⟨rfl, hsz, hP, hK, hD0, hE⟩ := hv
  have hx := B.exec
  have hb := B.bytes
  have hr := B.returns
  have hts := atoms_spec (ws := w_x_buildingAllowed) B.pre
  have hown : s.vm.findClass RX0 = some m.cls := findClass_of_methodNamed B.named
  have hlocks := B.notSynchronized
  subst hsz
  have hD := hD0.self (sz := s.heap.size)
  generalize hAe : va_A [(a 30, .inr (3, [.ref (a 31), .ref (a 32), .ref (a 33), .ref (a 34), .ref (a 35), .ref (a 36), .ref (a 37), .ref (a 38), .ref (a 50), .ref (a 62), .int (-1), .int 0, .long 0, .long 0, .int 0, .int 0, .int 0, .int 0])), (a 2, .inr (6, [.ref (a 3), .ref (a 14), .ref (a 26), .int 0, .int 0])), (a 38, .inr (7, [.ref (a 39), .ref (a 40), .ref (a 41), .ref (a 42), .ref (a 43), .ref (a 44), .ref (a 45), .ref (a 46), .ref (a 47), .ref (a 48), .ref (a 49), .int 0, .int 0, .int 0]))] s.heap.size = A at hD hE ⊢
  have hA : ∀ q : Nat, s.heap.size ≤ q → A q := fun q h => by rw [← hAe]; exact Or.inr h
  have hS : va_S A s.heap s.heap [] := va_S.rf
  have hP : va_P (dC, dI) vwCl [(a 30, .inr (3, [.ref (a 31), .ref (a 32), .ref (a 33), .ref (a 34), .ref (a 35), .ref (a 36), .ref (a 37), .ref (a 38), .ref (a 50), .ref (a 62), .int (-1), .int 0, .long 0, .long 0, .int 0, .int 0, .int 0, .int 0])), (a 2, .inr (6, [.ref (a 3), .ref (a 14), .ref (a 26), .int 0, .int 0])), (a 38, .inr (7, [.ref (a 39), .ref (a 40), .ref (a 41), .ref (a 42), .ref (a 43), .ref (a 44), .ref (a 45), .ref (a 46), .ref (a 47), .ref (a 48), .ref (a 49), .int 0, .int 0, .int 0]))] s.heap := hP
  have hl := lv_entry ([.ref (a 30), .int sq, .ref (a 2)]) (n := 3) (Nat.le_of_ble_eq_true rfl)
  rw [lg_entry_eq]
  generalize (lg_sl ([.ref (a 30), .int sq, .ref (a 2)]) ++ List.replicate (3 - (lg_sl ([.ref (a 30), .int sq, .ref (a 2)])).length) Slot.unset).toArray = ls at hl ⊢
  have hl : lv_has ls 3 [(0, .ref (a 30)), (1, .int sq), (2, .ref (a 2))] := hl
  refine lv_aload_n hx hb dX0_buildingAllowed_0 rfl (lv_at hl 2 rfl) ?_
  refine lv_iload_n hx hb dX0_buildingAllowed_1 rfl (lv_at hl 1 rfl) ?_
  have hPc := hP.sub (ws' := [(a 2, .inr (6, [.ref (a 3), .ref (a 14), .ref (a 26), .int 0, .int 0]))]) [1] rfl
  have hDc := hD.sub (ws' := [(a 2, .inr (6, [.ref (a 3), .ref (a 14), .ref (a 26), .int 0, .int 0]))]) [1] (by decide) rfl
  have hKc := hK.sub (tys' := []) [] rfl
  have hFc := va_free (wc := [(a 2, .inr (6, [.ref (a 3), .ref (a 14), .ref (a 26), .int 0, .int 0]))]) hD hS hA [1] rfl
  refine va_calli (va_runV (As := [.int sq]) (rest := []) ⟨hx, hb, hml, hown, hts⟩ (x_stepsToBank l dC dI a k sq s.heap.size ) (cwV 1 hts (goodIn_app (goodIn_r _ [3, 4, 5, 6] (by decide +kernel) (by decide +kernel)) (goodIn_ca (goodIn_r _ [1, 2] (by decide +kernel) (by decide +kernel)) (bs_in _ _))) rfl rfl rfl (by decide +kernel) ⟨(Nat.le_of_ble_eq_true rfl), (Nat.le_of_ble_eq_true rfl)⟩) ⟨fun a U g mk q => by obtain ⟨q0, q1, qP, qK, qD, qE⟩ := q; exact ⟨q0, q1, qP, va_K.moved (u := U) (U := U.calling g mk a) (Vm.Alike.refl U.vm) qK, qD, EV.blind g mk a qE⟩, va_recv hKc hPc (ci := 6) (q0 := 0) rfl rfl, fun U hU hW => ⟨rfl, by rw [hU], by rw [hU]; exact hPc, va_K.moved hW.alike hKc, hDc.weaken (fun _ _ _ _ => trivial), hE.call hS hFc hU hW⟩⟩ rfl rfl hl.1 rfl (lv_room (Nat.le_of_ble_eq_true rfl)) dX0_buildingAllowed_2 ⟨(Nat.le_of_ble_eq_true rfl), (Nat.le_of_ble_eq_true rfl)⟩) hS (fun q _ h => hFc q h) hFc (fun r2 u t H1 locs ht hvm hw3 hB hz1 hk1 hS => ?_)
  obtain ⟨hP1, hD1⟩ := hB
  rw [ht] at hP1
  obtain ⟨hP, hD⟩ := va_join (wr := [(a 30, .inr (3, [.ref (a 31), .ref (a 32), .ref (a 33), .ref (a 34), .ref (a 35), .ref (a 36), .ref (a 37), .ref (a 38), .ref (a 50), .ref (a 62), .int (-1), .int 0, .long 0, .long 0, .int 0, .int 0, .int 0, .int 0])), (a 38, .inr (7, [.ref (a 39), .ref (a 40), .ref (a 41), .ref (a 42), .ref (a 43), .ref (a 44), .ref (a 45), .ref (a 46), .ref (a 47), .ref (a 48), .ref (a 49), .int 0, .int 0, .int 0]))]) (w1 := [(a 2, .inr (6, [.ref (a 3), .ref (a 14), .ref (a 26), .int 0, .int 0]))]) hP hD [1] [0, 2] rfl rfl (by decide) (by decide) hk1 hFc hP1 hD1
  generalize H1 = H at hP hS ⊢
  have hP : va_P (dC, dI) vwCl [(a 30, .inr (3, [.ref (a 31), .ref (a 32), .ref (a 33), .ref (a 34), .ref (a 35), .ref (a 36), .ref (a 37), .ref (a 38), .ref (a 50), .ref (a 62), .int (-1), .int 0, .long 0, .long 0, .int 0, .int 0, .int 0, .int 0])), (a 38, .inr (7, [.ref (a 39), .ref (a 40), .ref (a 41), .ref (a 42), .ref (a 43), .ref (a 44), .ref (a 45), .ref (a 46), .ref (a 47), .ref (a 48), .ref (a 49), .int 0, .int 0, .int 0])), (a 2, .inr (6, [.ref (a 3), .ref (a 14), .ref (a 26), .int 0, .int 0]))] H := hP
  have hD : va_D A [(a 30, .inr (3, [.ref (a 31), .ref (a 32), .ref (a 33), .ref (a 34), .ref (a 35), .ref (a 36), .ref (a 37), .ref (a 38), .ref (a 50), .ref (a 62), .int (-1), .int 0, .long 0, .long 0, .int 0, .int 0, .int 0, .int 0])), (a 38, .inr (7, [.ref (a 39), .ref (a 40), .ref (a 41), .ref (a 42), .ref (a 43), .ref (a 44), .ref (a 45), .ref (a 46), .ref (a 47), .ref (a 48), .ref (a 49), .int 0, .int 0, .int 0])), (a 2, .inr (6, [.ref (a 3), .ref (a 14), .ref (a 26), .int 0, .int 0]))] := hD
  try dsimp only at hw3
  obtain rfl : 99 = r2 := (hw3).symm
  refine lv_aload_n hx hb dX0_buildingAllowed_5 rfl (lv_at hl 0 rfl) ?_
  refine va_get (D := (dC, dI)) (ci := 3) (v := .ref (a 38)) (C := RX0) (T := TX0) (N := 18) hx hb hts bF_X0 hown hK hP 0 rfl rfl 7 (by decide) (ht_at hts 6 rfl) (fun _ h9 => h9) rfl dX0_buildingAllowed_6 ?_
  refine lv_bipush (v := 9) hx hb dX0_buildingAllowed_9 (by decide) ?_
  refine lv_iconst (v := 0) hx hb dX0_buildingAllowed_11 (by decide) ?_
  have hPc := hP.sub (ws' := [(a 38, .inr (7, [.ref (a 39), .ref (a 40), .ref (a 41), .ref (a 42), .ref (a 43), .ref (a 44), .ref (a 45), .ref (a 46), .ref (a 47), .ref (a 48), .ref (a 49), .int 0, .int 0, .int 0]))]) [1] rfl
  have hDc := hD.sub (ws' := [(a 38, .inr (7, [.ref (a 39), .ref (a 40), .ref (a 41), .ref (a 42), .ref (a 43), .ref (a 44), .ref (a 45), .ref (a 46), .ref (a 47), .ref (a 48), .ref (a 49), .int 0, .int 0, .int 0]))]) [1] (by decide) rfl
  have hKc := hK.sub (tys' := []) [] rfl
  have hFc := va_free (wc := [(a 38, .inr (7, [.ref (a 39), .ref (a 40), .ref (a 41), .ref (a 42), .ref (a 43), .ref (a 44), .ref (a 45), .ref (a 46), .ref (a 47), .ref (a 48), .ref (a 49), .int 0, .int 0, .int 0]))]) hD hS hA [1] rfl
  refine va_calli (va_runV (As := [.int 9, .int 0]) (rest := [.int 99]) ⟨hx, hb, hml, hown, hts⟩ (x_lastOf l dC dI a k 9 0 H.size ) (cwV 2 hts (goodIn_app (goodIn_r _ [10, 11, 12, 13] (by decide +kernel) (by decide +kernel)) (goodIn_ca (goodIn_r _ [8, 9] (by decide +kernel) (by decide +kernel)) (bs_in _ _))) rfl rfl rfl (by decide +kernel) ⟨(Nat.le_of_ble_eq_true rfl), (Nat.le_of_ble_eq_true rfl)⟩) ⟨fun a U g mk q => by obtain ⟨q0, q1, qP, qK, qD, qE⟩ := q; exact ⟨q0, q1, qP, va_K.moved (u := U) (U := U.calling g mk a) (Vm.Alike.refl U.vm) qK, qD, EV.blind g mk a qE⟩, va_recv hKc hPc (ci := 7) (q0 := 0) rfl rfl, fun U hU hW => ⟨rfl, by rw [hU], by rw [hU]; exact hPc, va_K.moved hW.alike hKc, hDc.weaken (fun _ _ _ _ => trivial), hE.call hS hFc hU hW⟩⟩ rfl rfl hl.1 rfl (lv_room (Nat.le_of_ble_eq_true rfl)) dX0_buildingAllowed_12 ⟨(Nat.le_of_ble_eq_true rfl), (Nat.le_of_ble_eq_true rfl)⟩) hS (fun q _ h => hFc q h) hFc (fun r5 u t H1 locs ht hvm hw6 hB hz1 hk1 hS => ?_)
  obtain ⟨hP1, hD1⟩ := hB
  rw [ht] at hP1
  obtain ⟨hP, hD⟩ := va_join (wr := [(a 30, .inr (3, [.ref (a 31), .ref (a 32), .ref (a 33), .ref (a 34), .ref (a 35), .ref (a 36), .ref (a 37), .ref (a 38), .ref (a 50), .ref (a 62), .int (-1), .int 0, .long 0, .long 0, .int 0, .int 0, .int 0, .int 0])), (a 2, .inr (6, [.ref (a 3), .ref (a 14), .ref (a 26), .int 0, .int 0]))]) (w1 := [(a 38, .inr (7, [.ref (a 39), .ref (a 40), .ref (a 41), .ref (a 42), .ref (a 43), .ref (a 44), .ref (a 45), .ref (a 46), .ref (a 47), .ref (a 48), .ref (a 49), .int 0, .int 0, .int 0]))]) hP hD [1] [0, 2] rfl rfl (by decide) (by decide) hk1 hFc hP1 hD1
  generalize H1 = H at hP hS ⊢
  have hP : va_P (dC, dI) vwCl [(a 30, .inr (3, [.ref (a 31), .ref (a 32), .ref (a 33), .ref (a 34), .ref (a 35), .ref (a 36), .ref (a 37), .ref (a 38), .ref (a 50), .ref (a 62), .int (-1), .int 0, .long 0, .long 0, .int 0, .int 0, .int 0, .int 0])), (a 2, .inr (6, [.ref (a 3), .ref (a 14), .ref (a 26), .int 0, .int 0])), (a 38, .inr (7, [.ref (a 39), .ref (a 40), .ref (a 41), .ref (a 42), .ref (a 43), .ref (a 44), .ref (a 45), .ref (a 46), .ref (a 47), .ref (a 48), .ref (a 49), .int 0, .int 0, .int 0]))] H := hP
  have hD : va_D A [(a 30, .inr (3, [.ref (a 31), .ref (a 32), .ref (a 33), .ref (a 34), .ref (a 35), .ref (a 36), .ref (a 37), .ref (a 38), .ref (a 50), .ref (a 62), .int (-1), .int 0, .long 0, .long 0, .int 0, .int 0, .int 0, .int 0])), (a 2, .inr (6, [.ref (a 3), .ref (a 14), .ref (a 26), .int 0, .int 0])), (a 38, .inr (7, [.ref (a 39), .ref (a 40), .ref (a 41), .ref (a 42), .ref (a 43), .ref (a 44), .ref (a 45), .ref (a 46), .ref (a 47), .ref (a 48), .ref (a 49), .int 0, .int 0, .int 0]))] := hD
  try dsimp only at hw6
  obtain rfl : 0 = r5 := (hw6).symm
  refine lv_icmp_lt (tgt := 22) hx hb dX0_buildingAllowed_15 (by decide) (fun c7 => absurd c7 (by decide)) (fun c7 => ?_)
  refine lv_iconst (v := 1) hx hb dX0_buildingAllowed_18 (by decide) ?_
  refine lv_goto (tgt := 23) hx hb dX0_buildingAllowed_19 (by decide) ?_
  exact W.zret (v := 1) hx hb hr (by decide) (fun t ht hW => ⟨⟨1, (), rfl, (by rfl), by rw [ht]; exact hP.sub (ws' := [(a 30, .inr (3, [.ref (a 31), .ref (a 32), .ref (a 33), .ref (a 34), .ref (a 35), .ref (a 36), .ref (a 37), .ref (a 38), .ref (a 50), .ref (a 62), .int (-1), .int 0, .long 0, .long 0, .int 0, .int 0, .int 0, .int 0])), (a 2, .inr (6, [.ref (a 3), .ref (a 14), .ref (a 26), .int 0, .int 0])), (a 38, .inr (7, [.ref (a 39), .ref (a 40), .ref (a 41), .ref (a 42), .ref (a 43), .ref (a 44), .ref (a 45), .ref (a 46), .ref (a 47), .ref (a 48), .ref (a 49), .int 0, .int 0, .int 0]))]) [0, 1, 2] rfl, hD.sub (ws' := [(a 30, .inr (3, [.ref (a 31), .ref (a 32), .ref (a 33), .ref (a 34), .ref (a 35), .ref (a 36), .ref (a 37), .ref (a 38), .ref (a 50), .ref (a 62), .int (-1), .int 0, .long 0, .long 0, .int 0, .int 0, .int 0, .int 0])), (a 2, .inr (6, [.ref (a 3), .ref (a 14), .ref (a 26), .int 0, .int 0])), (a 38, .inr (7, [.ref (a 39), .ref (a 40), .ref (a 41), .ref (a 42), .ref (a 43), .ref (a 44), .ref (a 45), .ref (a 46), .ref (a 47), .ref (a 48), .ref (a 49), .int 0, .int 0, .int 0]))]) [0, 1, 2] (by decide) rfl⟩, hS.F ht⟩) hS.2.2 dX0_buildingAllowed_23
def w_x_firstByMark : List Cond := .code yX0_firstByMark cX0_firstByMark 3 (some .int) :: ([.fieldLink RX0 75 "SeaLand$Board" "settled" "I"] ++ bs)
set_option maxHeartbeats 4000000 in
set_option maxRecDepth 100000 in
theorem x_firstByMark (l : Launch) (dC : Nat → ClassId) (dI : Nat → Nat → Nat) (a : Nat → Nat) (k : Nat → ClassId)  (sz : Nat) : Met l yX0_firstByMark w_x_firstByMark ({ frames := 0, cells := 0, slots := 0, locals := 0 }) (va_Pc [.ref (a 30)] (fun U => U.heap.size = sz ∧ va_P (dC, dI) vwCl [(a 30, .inr (3, [.ref (a 31), .ref (a 32), .ref (a 33), .ref (a 34), .ref (a 35), .ref (a 36), .ref (a 37), .ref (a 38), .ref (a 50), .ref (a 62), .int (-1), .int 0, .long 0, .long 0, .int 0, .int 0, .int 0, .int 0]))] U.heap ∧ va_K (dC, dI) vwCl [] U ∧ va_D (fun _ => True) [(a 30, .inr (3, [.ref (a 31), .ref (a 32), .ref (a 33), .ref (a 34), .ref (a 35), .ref (a 36), .ref (a 37), .ref (a 38), .ref (a 50), .ref (a 62), .int (-1), .int 0, .long 0, .long 0, .int 0, .int 0, .int 0, .int 0]))] ∧ EV (va_A [(a 30, .inr (3, [.ref (a 31), .ref (a 32), .ref (a 33), .ref (a 34), .ref (a 35), .ref (a 36), .ref (a 37), .ref (a 38), .ref (a 50), .ref (a 62), .int (-1), .int 0, .long 0, .long 0, .int 0, .int 0, .int 0, .int 0]))] sz) U U.heap)) (va_Qi (fun (r : Int32) (u : Unit) => r = -1) (fun (_ : Unit) (t : State) => va_P (dC, dI) vwCl [(a 30, .inr (3, [.ref (a 31), .ref (a 32), .ref (a 33), .ref (a 34), .ref (a 35), .ref (a 36), .ref (a 37), .ref (a 38), .ref (a 50), .ref (a 62), .int (-1), .int 0, .long 0, .long 0, .int 0, .int 0, .int 0, .int 0]))] t.heap ∧ va_D (va_A [(a 30, .inr (3, [.ref (a 31), .ref (a 32), .ref (a 33), .ref (a 34), .ref (a 35), .ref (a 36), .ref (a 37), .ref (a 38), .ref (a 50), .ref (a 62), .int (-1), .int 0, .long 0, .long 0, .int 0, .int 0, .int 0, .int 0]))] sz) [(a 30, .inr (3, [.ref (a 31), .ref (a 32), .ref (a 33), .ref (a 34), .ref (a 35), .ref (a 36), .ref (a 37), .ref (a 38), .ref (a 50), .ref (a 62), .int (-1), .int 0, .long 0, .long 0, .int 0, .int 0, .int 0, .int 0]))]) (va_A [(a 30, .inr (3, [.ref (a 31), .ref (a 32), .ref (a 33), .ref (a 34), .ref (a 35), .ref (a 36), .ref (a 37), .ref (a 38), .ref (a 50), .ref (a 62), .int (-1), .int 0, .long 0, .long 0, .int 0, .int 0, .int 0, .int 0]))] sz)) 0 0 (va_A [(a 30, .inr (3, [.ref (a 31), .ref (a 32), .ref (a 33), .ref (a 34), .ref (a 35), .ref (a 36), .ref (a 37), .ref (a 38), .ref (a 50), .ref (a 62), .int (-1), .int 0, .long 0, .long 0, .int 0, .int 0, .int 0, .int 0]))] sz) := by
  refine Met.ofW (cc := cX0_firstByMark) (maxL := 3) (ret := (some .int)) (by decide) rfl ?_
  intro p e s m args below meth c s₁ B hml hv
  obtain ⟨rfl, hsz, hP, hK, hD0, hE⟩ := hv
  have hx := B.exec
  have hb := B.bytes
  have hr := B.returns
  have hts := atoms_spec (ws := w_x_firstByMark) B.pre
  have hown : s.vm.findClass RX0 = some m.cls := findClass_of_methodNamed B.named
  have hlocks := B.notSynchronized
  subst hsz
  have hD := hD0.self (sz := s.heap.size)
  generalize hAe : va_A [(a 30, .inr (3, [.ref (a 31), .ref (a 32), .ref (a 33), .ref (a 34), .ref (a 35), .ref (a 36), .ref (a 37), .ref (a 38), .ref (a 50), .ref (a 62), .int (-1), .int 0, .long 0, .long 0, .int 0, .int 0, .int 0, .int 0]))] s.heap.size = A at hD hE ⊢
  have hA : ∀ q : Nat, s.heap.size ≤ q → A q := fun q h => by rw [← hAe]; exact Or.inr h
  have hS : va_S A s.heap s.heap [] := va_S.rf
  have hP : va_P (dC, dI) vwCl [(a 30, .inr (3, [.ref (a 31), .ref (a 32), .ref (a 33), .ref (a 34), .ref (a 35), .ref (a 36), .ref (a 37), .ref (a 38), .ref (a 50), .ref (a 62), .int (-1), .int 0, .long 0, .long 0, .int 0, .int 0, .int 0, .int 0]))] s.heap := hP
  have hl := lv_entry ([.ref (a 30)]) (n := 3) (Nat.le_of_ble_eq_true rfl)
  rw [lg_entry_eq]
  generalize (lg_sl ([.ref (a 30)]) ++ List.replicate (3 - (lg_sl ([.ref (a 30)])).length) Slot.unset).toArray = ls at hl ⊢
  have hl : lv_has ls 3 [(0, .ref (a 30))] := hl
  refine lv_iconst (v := (-1)) hx hb dX0_firstByMark_0 (by decide) ?_
  refine lv_istore_n (lv' := [(1, .int (-1)), (0, .ref (a 30))]) hx hb dX0_firstByMark_1 rfl hl (by decide) rfl (fun ls hl => ?_)
  refine lv_iconst (v := 0) hx hb dX0_firstByMark_2 (by decide) ?_
  refine lv_istore_n (lv' := [(2, .int 0), (1, .int (-1)), (0, .ref (a 30))]) hx hb dX0_firstByMark_3 rfl hl (by decide) rfl (fun ls hl => ?_)
  refine lv_iload_n hx hb dX0_firstByMark_4 rfl (lv_at hl 0 rfl) ?_
  refine lv_aload_n hx hb dX0_firstByMark_5 rfl (lv_at hl 2 rfl) ?_
  refine va_get (D := (dC, dI)) (ci := 3) (v := .int 0) (C := RX0) (T := TX0) (N := 18) hx hb hts bF_X0 hown hK hP 0 rfl rfl 14 (by decide) (ht_at hts 0 rfl) (fun _ h9 => h9) rfl dX0_firstByMark_6 ?_
  refine lv_icmp_ge (tgt := 86) hx hb dX0_firstByMark_9 (by decide) (fun c1 => ?_) (fun c1 => absurd c1 (by decide))
  refine lv_iload_n hx hb dX0_firstByMark_86 rfl (lv_at hl 1 rfl) ?_
  exact W.iret (v := (-1)) hx hb hr (fun t ht hW => ⟨⟨(-1), (), rfl, (by rfl), by rw [ht]; exact hP.sub (ws' := [(a 30, .inr (3, [.ref (a 31), .ref (a 32), .ref (a 33), .ref (a 34), .ref (a 35), .ref (a 36), .ref (a 37), .ref (a 38), .ref (a 50), .ref (a 62), .int (-1), .int 0, .long 0, .long 0, .int 0, .int 0, .int 0, .int 0]))]) [0] rfl, hD.sub (ws' := [(a 30, .inr (3, [.ref (a 31), .ref (a 32), .ref (a 33), .ref (a 34), .ref (a 35), .ref (a 36), .ref (a 37), .ref (a 38), .ref (a 50), .ref (a 62), .int (-1), .int 0, .long 0, .long 0, .int 0, .int 0, .int 0, .int 0]))]) [0] (by decide) rfl⟩, hS.F ht⟩) hS.2.2 dX0_firstByMark_87
def w_x_bestFreeFarm : List Cond := .code yX0_bestFreeFarm cX0_bestFreeFarm 6 (some .int) :: ([.fieldLink RX0 143 "SeaLand$Board" "farms" "I"] ++ bs)
set_option maxHeartbeats 4000000 in
set_option maxRecDepth 100000 in
theorem x_bestFreeFarm (l : Launch) (dC : Nat → ClassId) (dI : Nat → Nat → Nat) (a : Nat → Nat) (k : Nat → ClassId)  (sz : Nat) : Met l yX0_bestFreeFarm w_x_bestFreeFarm ({ frames := 0, cells := 0, slots := 0, locals := 0 }) (va_Pc [.ref (a 30), .ref (a 14)] (fun U => U.heap.size = sz ∧ va_P (dC, dI) vwCl [(a 30, .inr (3, [.ref (a 31), .ref (a 32), .ref (a 33), .ref (a 34), .ref (a 35), .ref (a 36), .ref (a 37), .ref (a 38), .ref (a 50), .ref (a 62), .int (-1), .int 0, .long 0, .long 0, .int 0, .int 0, .int 0, .int 0]))] U.heap ∧ va_K (dC, dI) vwCl [] U ∧ va_D (fun _ => True) [(a 30, .inr (3, [.ref (a 31), .ref (a 32), .ref (a 33), .ref (a 34), .ref (a 35), .ref (a 36), .ref (a 37), .ref (a 38), .ref (a 50), .ref (a 62), .int (-1), .int 0, .long 0, .long 0, .int 0, .int 0, .int 0, .int 0]))] ∧ EV (va_A [(a 30, .inr (3, [.ref (a 31), .ref (a 32), .ref (a 33), .ref (a 34), .ref (a 35), .ref (a 36), .ref (a 37), .ref (a 38), .ref (a 50), .ref (a 62), .int (-1), .int 0, .long 0, .long 0, .int 0, .int 0, .int 0, .int 0]))] sz) U U.heap)) (va_Qi (fun (r : Int32) (u : Unit) => r = -1) (fun (_ : Unit) (t : State) => va_P (dC, dI) vwCl [(a 30, .inr (3, [.ref (a 31), .ref (a 32), .ref (a 33), .ref (a 34), .ref (a 35), .ref (a 36), .ref (a 37), .ref (a 38), .ref (a 50), .ref (a 62), .int (-1), .int 0, .long 0, .long 0, .int 0, .int 0, .int 0, .int 0]))] t.heap ∧ va_D (va_A [(a 30, .inr (3, [.ref (a 31), .ref (a 32), .ref (a 33), .ref (a 34), .ref (a 35), .ref (a 36), .ref (a 37), .ref (a 38), .ref (a 50), .ref (a 62), .int (-1), .int 0, .long 0, .long 0, .int 0, .int 0, .int 0, .int 0]))] sz) [(a 30, .inr (3, [.ref (a 31), .ref (a 32), .ref (a 33), .ref (a 34), .ref (a 35), .ref (a 36), .ref (a 37), .ref (a 38), .ref (a 50), .ref (a 62), .int (-1), .int 0, .long 0, .long 0, .int 0, .int 0, .int 0, .int 0]))]) (va_A [(a 30, .inr (3, [.ref (a 31), .ref (a 32), .ref (a 33), .ref (a 34), .ref (a 35), .ref (a 36), .ref (a 37), .ref (a 38), .ref (a 50), .ref (a 62), .int (-1), .int 0, .long 0, .long 0, .int 0, .int 0, .int 0, .int 0]))] sz)) 0 0 (va_A [(a 30, .inr (3, [.ref (a 31), .ref (a 32), .ref (a 33), .ref (a 34), .ref (a 35), .ref (a 36), .ref (a 37), .ref (a 38), .ref (a 50), .ref (a 62), .int (-1), .int 0, .long 0, .long 0, .int 0, .int 0, .int 0, .int 0]))] sz) := by
  refine Met.ofW (cc := cX0_bestFreeFarm) (maxL := 6) (ret := (some .int)) (by decide) rfl ?_
  intro p e s m args below meth c s₁ B hml hv
  obtain ⟨rfl, hsz, hP, hK, hD0, hE⟩ := hv
  have hx := B.exec
  have hb := B.bytes
  have hr := B.returns
  have hts := atoms_spec (ws := w_x_bestFreeFarm) B.pre
  have hown : s.vm.findClass RX0 = some m.cls := findClass_of_methodNamed B.named
  have hlocks := B.notSynchronized
  subst hsz
  have hD := hD0.self (sz := s.heap.size)
  generalize hAe : va_A [(a 30, .inr (3, [.ref (a 31), .ref (a 32), .ref (a 33), .ref (a 34), .ref (a 35), .ref (a 36), .ref (a 37), .ref (a 38), .ref (a 50), .ref (a 62), .int (-1), .int 0, .long 0, .long 0, .int 0, .int 0, .int 0, .int 0]))] s.heap.size = A at hD hE ⊢
  have hA : ∀ q : Nat, s.heap.size ≤ q → A q := fun q h => by rw [← hAe]; exact Or.inr h
  have hS : va_S A s.heap s.heap [] := va_S.rf
  have hP : va_P (dC, dI) vwCl [(a 30, .inr (3, [.ref (a 31), .ref (a 32), .ref (a 33), .ref (a 34), .ref (a 35), .ref (a 36), .ref (a 37), .ref (a 38), .ref (a 50), .ref (a 62), .int (-1), .int 0, .long 0, .long 0, .int 0, .int 0, .int 0, .int 0]))] s.heap := hP
  have hl := lv_entry ([.ref (a 30), .ref (a 14)]) (n := 6) (Nat.le_of_ble_eq_true rfl)
  rw [lg_entry_eq]
  generalize (lg_sl ([.ref (a 30), .ref (a 14)]) ++ List.replicate (6 - (lg_sl ([.ref (a 30), .ref (a 14)])).length) Slot.unset).toArray = ls at hl ⊢
  have hl : lv_has ls 6 [(0, .ref (a 30)), (1, .ref (a 14))] := hl
  refine lv_iconst (v := (-1)) hx hb dX0_bestFreeFarm_0 (by decide) ?_
  refine lv_istore_n (lv' := [(2, .int (-1)), (0, .ref (a 30)), (1, .ref (a 14))]) hx hb dX0_bestFreeFarm_1 rfl hl (by decide) rfl (fun ls hl => ?_)
  refine lv_iconst (v := (-1)) hx hb dX0_bestFreeFarm_2 (by decide) ?_
  refine lv_istore_n (lv' := [(3, .int (-1)), (2, .int (-1)), (0, .ref (a 30)), (1, .ref (a 14))]) hx hb dX0_bestFreeFarm_3 rfl hl (by decide) rfl (fun ls hl => ?_)
  refine lv_iconst (v := 0) hx hb dX0_bestFreeFarm_4 (by decide) ?_
  refine lv_istore (lv' := [(4, .int 0), (3, .int (-1)), (2, .int (-1)), (0, .ref (a 30)), (1, .ref (a 14))]) hx hb dX0_bestFreeFarm_5 hl (by decide) rfl (fun ls hl => ?_)
  refine lv_iload hx hb dX0_bestFreeFarm_7 (lv_at hl 0 rfl) ?_
  refine lv_aload_n hx hb dX0_bestFreeFarm_9 rfl (lv_at hl 3 rfl) ?_
  refine va_get (D := (dC, dI)) (ci := 3) (v := .int 0) (C := RX0) (T := TX0) (N := 18) hx hb hts bF_X0 hown hK hP 0 rfl rfl 16 (by decide) (ht_at hts 0 rfl) (fun _ h9 => h9) rfl dX0_bestFreeFarm_10 ?_
  refine lv_icmp_ge (tgt := 57) hx hb dX0_bestFreeFarm_13 (by decide) (fun c1 => ?_) (fun c1 => absurd c1 (by decide))
  refine lv_iload_n hx hb dX0_bestFreeFarm_57 rfl (lv_at hl 2 rfl) ?_
  exact W.iret (v := (-1)) hx hb hr (fun t ht hW => ⟨⟨(-1), (), rfl, (by rfl), by rw [ht]; exact hP.sub (ws' := [(a 30, .inr (3, [.ref (a 31), .ref (a 32), .ref (a 33), .ref (a 34), .ref (a 35), .ref (a 36), .ref (a 37), .ref (a 38), .ref (a 50), .ref (a 62), .int (-1), .int 0, .long 0, .long 0, .int 0, .int 0, .int 0, .int 0]))]) [0] rfl, hD.sub (ws' := [(a 30, .inr (3, [.ref (a 31), .ref (a 32), .ref (a 33), .ref (a 34), .ref (a 35), .ref (a 36), .ref (a 37), .ref (a 38), .ref (a 50), .ref (a 62), .int (-1), .int 0, .long 0, .long 0, .int 0, .int 0, .int 0, .int 0]))]) [0] (by decide) rfl⟩, hS.F ht⟩) hS.2.2 dX0_bestFreeFarm_58
def w_x_debtorOfRank : List Cond := .code yX0_debtorOfRank cX0_debtorOfRank 3 (some .int) :: ([.fieldLink RX0 75 "SeaLand$Board" "settled" "I"] ++ bs)
set_option maxHeartbeats 4000000 in
set_option maxRecDepth 100000 in
theorem x_debtorOfRank (l : Launch) (dC : Nat → ClassId) (dI : Nat → Nat → Nat) (a : Nat → Nat) (k : Nat → ClassId) (n : Int32) (sz : Nat) : Met l yX0_debtorOfRank w_x_debtorOfRank ({ frames := 0, cells := 0, slots := 0, locals := 0 }) (va_Pc [.ref (a 30), .int n] (fun U => U.heap.size = sz ∧ va_P (dC, dI) vwCl [(a 30, .inr (3, [.ref (a 31), .ref (a 32), .ref (a 33), .ref (a 34), .ref (a 35), .ref (a 36), .ref (a 37), .ref (a 38), .ref (a 50), .ref (a 62), .int (-1), .int 0, .long 0, .long 0, .int 0, .int 0, .int 0, .int 0]))] U.heap ∧ va_K (dC, dI) vwCl [] U ∧ va_D (fun _ => True) [(a 30, .inr (3, [.ref (a 31), .ref (a 32), .ref (a 33), .ref (a 34), .ref (a 35), .ref (a 36), .ref (a 37), .ref (a 38), .ref (a 50), .ref (a 62), .int (-1), .int 0, .long 0, .long 0, .int 0, .int 0, .int 0, .int 0]))] ∧ EV (va_A [(a 30, .inr (3, [.ref (a 31), .ref (a 32), .ref (a 33), .ref (a 34), .ref (a 35), .ref (a 36), .ref (a 37), .ref (a 38), .ref (a 50), .ref (a 62), .int (-1), .int 0, .long 0, .long 0, .int 0, .int 0, .int 0, .int 0]))] sz) U U.heap)) (va_Qi (fun (r : Int32) (u : Unit) => r = -1) (fun (_ : Unit) (t : State) => va_P (dC, dI) vwCl [(a 30, .inr (3, [.ref (a 31), .ref (a 32), .ref (a 33), .ref (a 34), .ref (a 35), .ref (a 36), .ref (a 37), .ref (a 38), .ref (a 50), .ref (a 62), .int (-1), .int 0, .long 0, .long 0, .int 0, .int 0, .int 0, .int 0]))] t.heap ∧ va_D (va_A [(a 30, .inr (3, [.ref (a 31), .ref (a 32), .ref (a 33), .ref (a 34), .ref (a 35), .ref (a 36), .ref (a 37), .ref (a 38), .ref (a 50), .ref (a 62), .int (-1), .int 0, .long 0, .long 0, .int 0, .int 0, .int 0, .int 0]))] sz) [(a 30, .inr (3, [.ref (a 31), .ref (a 32), .ref (a 33), .ref (a 34), .ref (a 35), .ref (a 36), .ref (a 37), .ref (a 38), .ref (a 50), .ref (a 62), .int (-1), .int 0, .long 0, .long 0, .int 0, .int 0, .int 0, .int 0]))]) (va_A [(a 30, .inr (3, [.ref (a 31), .ref (a 32), .ref (a 33), .ref (a 34), .ref (a 35), .ref (a 36), .ref (a 37), .ref (a 38), .ref (a 50), .ref (a 62), .int (-1), .int 0, .long 0, .long 0, .int 0, .int 0, .int 0, .int 0]))] sz)) 0 0 (va_A [(a 30, .inr (3, [.ref (a 31), .ref (a 32), .ref (a 33), .ref (a 34), .ref (a 35), .ref (a 36), .ref (a 37), .ref (a 38), .ref (a 50), .ref (a 62), .int (-1), .int 0, .long 0, .long 0, .int 0, .int 0, .int 0, .int 0]))] sz) := by
  refine Met.ofW (cc := cX0_debtorOfRank) (maxL := 3) (ret := (some .int)) (by decide) rfl ?_
  intro p e s m args below meth c s₁ B hml hv
  obtain ⟨rfl, hsz, hP, hK, hD0, hE⟩ := hv
  have hx := B.exec
  have hb := B.bytes
  have hr := B.returns
  have hts := atoms_spec (ws := w_x_debtorOfRank) B.pre
  have hown : s.vm.findClass RX0 = some m.cls := findClass_of_methodNamed B.named
  have hlocks := B.notSynchronized
  subst hsz
  have hD := hD0.self (sz := s.heap.size)
  generalize hAe : va_A [(a 30, .inr (3, [.ref (a 31), .ref (a 32), .ref (a 33), .ref (a 34), .ref (a 35), .ref (a 36), .ref (a 37), .ref (a 38), .ref (a 50), .ref (a 62), .int (-1), .int 0, .long 0, .long 0, .int 0, .int 0, .int 0, .int 0]))] s.heap.size = A at hD hE ⊢
  have hA : ∀ q : Nat, s.heap.size ≤ q → A q := fun q h => by rw [← hAe]; exact Or.inr h
  have hS : va_S A s.heap s.heap [] := va_S.rf
  have hP : va_P (dC, dI) vwCl [(a 30, .inr (3, [.ref (a 31), .ref (a 32), .ref (a 33), .ref (a 34), .ref (a 35), .ref (a 36), .ref (a 37), .ref (a 38), .ref (a 50), .ref (a 62), .int (-1), .int 0, .long 0, .long 0, .int 0, .int 0, .int 0, .int 0]))] s.heap := hP
  have hl := lv_entry ([.ref (a 30), .int n]) (n := 3) (Nat.le_of_ble_eq_true rfl)
  rw [lg_entry_eq]
  generalize (lg_sl ([.ref (a 30), .int n]) ++ List.replicate (3 - (lg_sl ([.ref (a 30), .int n])).length) Slot.unset).toArray = ls at hl ⊢
  have hl : lv_has ls 3 [(0, .ref (a 30)), (1, .int n)] := hl
  refine lv_iconst (v := 0) hx hb dX0_debtorOfRank_0 (by decide) ?_
  refine lv_istore_n (lv' := [(2, .int 0), (0, .ref (a 30)), (1, .int n)]) hx hb dX0_debtorOfRank_1 rfl hl (by decide) rfl (fun ls hl => ?_)
  refine lv_iload_n hx hb dX0_debtorOfRank_2 rfl (lv_at hl 0 rfl) ?_
  refine lv_aload_n hx hb dX0_debtorOfRank_3 rfl (lv_at hl 1 rfl) ?_
  refine va_get (D := (dC, dI)) (ci := 3) (v := .int 0) (C := RX0) (T := TX0) (N := 18) hx hb hts bF_X0 hown hK hP 0 rfl rfl 14 (by decide) (ht_at hts 0 rfl) (fun _ h9 => h9) rfl dX0_debtorOfRank_4 ?_
  refine lv_icmp_ge (tgt := 39) hx hb dX0_debtorOfRank_7 (by decide) (fun c1 => ?_) (fun c1 => absurd c1 (by decide))
  refine lv_iconst (v := (-1)) hx hb dX0_debtorOfRank_39 (by decide) ?_
  exact W.iret (v := (-1)) hx hb hr (fun t ht hW => ⟨⟨(-1), (), rfl, (by rfl), by rw [ht]; exact hP.sub (ws' := [(a 30, .inr (3, [.ref (a 31), .ref (a 32), .ref (a 33), .ref (a 34), .ref (a 35), .ref (a 36), .ref (a 37), .ref (a 38), .ref (a 50), .ref (a 62), .int (-1), .int 0, .long 0, .long 0, .int 0, .int 0, .int 0, .int 0]))]) [0] rfl, hD.sub (ws' := [(a 30, .inr (3, [.ref (a 31), .ref (a 32), .ref (a 33), .ref (a 34), .ref (a 35), .ref (a 36), .ref (a 37), .ref (a 38), .ref (a 50), .ref (a 62), .int (-1), .int 0, .long 0, .long 0, .int 0, .int 0, .int 0, .int 0]))]) [0] (by decide) rfl⟩, hS.F ht⟩) hS.2.2 dX0_debtorOfRank_40
def w_x_firstTorn : List Cond := .code yX6_firstTorn cX6_firstTorn 3 (some .int) :: ([.fieldLink RX6 18 "SeaLand$Rows" "kept" "I"] ++ bs)
set_option maxHeartbeats 4000000 in
set_option maxRecDepth 100000 in
theorem x_firstTorn (l : Launch) (dC : Nat → ClassId) (dI : Nat → Nat → Nat) (a : Nat → Nat) (k : Nat → ClassId)  (sz : Nat) : Met l yX6_firstTorn w_x_firstTorn ({ frames := 0, cells := 0, slots := 0, locals := 0 }) (va_Pc [.ref (a 27)] (fun U => U.heap.size = sz ∧ va_P (dC, dI) vwCl [(a 27, .inr (9, [.ref (a 28), .ref (a 29), .int 0, .int 0]))] U.heap ∧ va_K (dC, dI) vwCl [] U ∧ va_D (fun _ => True) [(a 27, .inr (9, [.ref (a 28), .ref (a 29), .int 0, .int 0]))] ∧ EV (va_A [(a 27, .inr (9, [.ref (a 28), .ref (a 29), .int 0, .int 0]))] sz) U U.heap)) (va_Qi (fun (r : Int32) (u : Unit) => r = -1) (fun (_ : Unit) (t : State) => va_P (dC, dI) vwCl [(a 27, .inr (9, [.ref (a 28), .ref (a 29), .int 0, .int 0]))] t.heap ∧ va_D (va_A [(a 27, .inr (9, [.ref (a 28), .ref (a 29), .int 0, .int 0]))] sz) [(a 27, .inr (9, [.ref (a 28), .ref (a 29), .int 0, .int 0]))]) (va_A [(a 27, .inr (9, [.ref (a 28), .ref (a 29), .int 0, .int 0]))] sz)) 0 0 (va_A [(a 27, .inr (9, [.ref (a 28), .ref (a 29), .int 0, .int 0]))] sz) := by
  refine Met.ofW (cc := cX6_firstTorn) (maxL := 3) (ret := (some .int)) (by decide) rfl ?_
  intro p e s m args below meth c s₁ B hml hv
  obtain ⟨rfl, hsz, hP, hK, hD0, hE⟩ := hv
  have hx := B.exec
  have hb := B.bytes
  have hr := B.returns
  have hts := atoms_spec (ws := w_x_firstTorn) B.pre
  have hown : s.vm.findClass RX6 = some m.cls := findClass_of_methodNamed B.named
  have hlocks := B.notSynchronized
  subst hsz
  have hD := hD0.self (sz := s.heap.size)
  generalize hAe : va_A [(a 27, .inr (9, [.ref (a 28), .ref (a 29), .int 0, .int 0]))] s.heap.size = A at hD hE ⊢
  have hA : ∀ q : Nat, s.heap.size ≤ q → A q := fun q h => by rw [← hAe]; exact Or.inr h
  have hS : va_S A s.heap s.heap [] := va_S.rf
  have hP : va_P (dC, dI) vwCl [(a 27, .inr (9, [.ref (a 28), .ref (a 29), .int 0, .int 0]))] s.heap := hP
  have hl := lv_entry ([.ref (a 27)]) (n := 3) (Nat.le_of_ble_eq_true rfl)
  rw [lg_entry_eq]
  generalize (lg_sl ([.ref (a 27)]) ++ List.replicate (3 - (lg_sl ([.ref (a 27)])).length) Slot.unset).toArray = ls at hl ⊢
  have hl : lv_has ls 3 [(0, .ref (a 27))] := hl
  refine lv_iconst (v := 0) hx hb dX6_firstTorn_0 (by decide) ?_
  refine lv_istore_n (lv' := [(1, .int 0), (0, .ref (a 27))]) hx hb dX6_firstTorn_1 rfl hl (by decide) rfl (fun ls hl => ?_)
  refine lv_iload_n hx hb dX6_firstTorn_2 rfl (lv_at hl 0 rfl) ?_
  refine lv_aload_n hx hb dX6_firstTorn_3 rfl (lv_at hl 1 rfl) ?_
  refine va_get (D := (dC, dI)) (ci := 9) (v := .int 0) (C := RX6) (T := TX6) (N := 4) hx hb hts bF_X6 hown hK hP 0 rfl rfl 2 (by decide) (ht_at hts 0 rfl) (fun _ h9 => h9) rfl dX6_firstTorn_4 ?_
  refine lv_bipush (v := 96) hx hb dX6_firstTorn_7 (by decide) ?_
  refine lv_imul hx hb dX6_firstTorn_9 ?_
  refine lv_topi (fun x1 ex1 => ?_)
  obtain rfl : x1 = 0 := ex1.trans (by decide)
  refine lv_icmp_ge (tgt := 49) hx hb dX6_firstTorn_10 (by decide) (fun c2 => ?_) (fun c2 => absurd c2 (by decide))
  refine lv_iconst (v := (-1)) hx hb dX6_firstTorn_49 (by decide) ?_
  exact W.iret (v := (-1)) hx hb hr (fun t ht hW => ⟨⟨(-1), (), rfl, (by rfl), by rw [ht]; exact hP.sub (ws' := [(a 27, .inr (9, [.ref (a 28), .ref (a 29), .int 0, .int 0]))]) [0] rfl, hD.sub (ws' := [(a 27, .inr (9, [.ref (a 28), .ref (a 29), .int 0, .int 0]))]) [0] (by decide) rfl⟩, hS.F ht⟩) hS.2.2 dX6_firstTorn_50
def w_x_breaches : List Cond := .code yX3_breaches cX3_breaches 3 (some .int) :: ([.fieldLink RX3 47 "SeaLand$Lake" "built" "I"] ++ bs)
set_option maxHeartbeats 4000000 in
set_option maxRecDepth 100000 in
theorem x_breaches (l : Launch) (dC : Nat → ClassId) (dI : Nat → Nat → Nat) (a : Nat → Nat) (k : Nat → ClassId)  (sz : Nat) : Met l yX3_breaches w_x_breaches ({ frames := 0, cells := 0, slots := 0, locals := 0 }) (va_Pc [.ref (a 2)] (fun U => U.heap.size = sz ∧ va_P (dC, dI) vwCl [(a 2, .inr (6, [.ref (a 3), .ref (a 14), .ref (a 26), .int 0, .int 0]))] U.heap ∧ va_K (dC, dI) vwCl [] U ∧ va_D (fun _ => True) [(a 2, .inr (6, [.ref (a 3), .ref (a 14), .ref (a 26), .int 0, .int 0]))] ∧ EV (va_A [(a 2, .inr (6, [.ref (a 3), .ref (a 14), .ref (a 26), .int 0, .int 0]))] sz) U U.heap)) (va_Qi (fun (r : Int32) (u : Unit) => r = 0) (fun (_ : Unit) (t : State) => va_P (dC, dI) vwCl [(a 2, .inr (6, [.ref (a 3), .ref (a 14), .ref (a 26), .int 0, .int 0]))] t.heap ∧ va_D (va_A [(a 2, .inr (6, [.ref (a 3), .ref (a 14), .ref (a 26), .int 0, .int 0]))] sz) [(a 2, .inr (6, [.ref (a 3), .ref (a 14), .ref (a 26), .int 0, .int 0]))]) (va_A [(a 2, .inr (6, [.ref (a 3), .ref (a 14), .ref (a 26), .int 0, .int 0]))] sz)) 0 0 (va_A [(a 2, .inr (6, [.ref (a 3), .ref (a 14), .ref (a 26), .int 0, .int 0]))] sz) := by
  refine Met.ofW (cc := cX3_breaches) (maxL := 3) (ret := (some .int)) (by decide) rfl ?_
  intro p e s m args below meth c s₁ B hml hv
  obtain ⟨rfl, hsz, hP, hK, hD0, hE⟩ := hv
  have hx := B.exec
  have hb := B.bytes
  have hr := B.returns
  have hts := atoms_spec (ws := w_x_breaches) B.pre
  have hown : s.vm.findClass RX3 = some m.cls := findClass_of_methodNamed B.named
  have hlocks := B.notSynchronized
  subst hsz
  have hD := hD0.self (sz := s.heap.size)
  generalize hAe : va_A [(a 2, .inr (6, [.ref (a 3), .ref (a 14), .ref (a 26), .int 0, .int 0]))] s.heap.size = A at hD hE ⊢
  have hA : ∀ q : Nat, s.heap.size ≤ q → A q := fun q h => by rw [← hAe]; exact Or.inr h
  have hS : va_S A s.heap s.heap [] := va_S.rf
  have hP : va_P (dC, dI) vwCl [(a 2, .inr (6, [.ref (a 3), .ref (a 14), .ref (a 26), .int 0, .int 0]))] s.heap := hP
  have hl := lv_entry ([.ref (a 2)]) (n := 3) (Nat.le_of_ble_eq_true rfl)
  rw [lg_entry_eq]
  generalize (lg_sl ([.ref (a 2)]) ++ List.replicate (3 - (lg_sl ([.ref (a 2)])).length) Slot.unset).toArray = ls at hl ⊢
  have hl : lv_has ls 3 [(0, .ref (a 2))] := hl
  refine lv_iconst (v := 0) hx hb dX3_breaches_0 (by decide) ?_
  refine lv_istore_n (lv' := [(1, .int 0), (0, .ref (a 2))]) hx hb dX3_breaches_1 rfl hl (by decide) rfl (fun ls hl => ?_)
  refine lv_iconst (v := 0) hx hb dX3_breaches_2 (by decide) ?_
  refine lv_istore_n (lv' := [(2, .int 0), (1, .int 0), (0, .ref (a 2))]) hx hb dX3_breaches_3 rfl hl (by decide) rfl (fun ls hl => ?_)
  refine lv_iload_n hx hb dX3_breaches_4 rfl (lv_at hl 0 rfl) ?_
  refine lv_aload_n hx hb dX3_breaches_5 rfl (lv_at hl 2 rfl) ?_
  refine va_get (D := (dC, dI)) (ci := 6) (v := .int 0) (C := RX3) (T := TX3) (N := 5) hx hb hts bF_X3 hown hK hP 0 rfl rfl 3 (by decide) (ht_at hts 0 rfl) (fun _ h9 => h9) rfl dX3_breaches_6 ?_
  refine lv_icmp_ge (tgt := 39) hx hb dX3_breaches_9 (by decide) (fun c1 => ?_) (fun c1 => absurd c1 (by decide))
  refine lv_iload_n hx hb dX3_breaches_39 rfl (lv_at hl 1 rfl) ?_
  exact W.iret (v := 0) hx hb hr (fun t ht hW => ⟨⟨0, (), rfl, (by rfl), by rw [ht]; exact hP.sub (ws' := [(a 2, .inr (6, [.ref (a 3), .ref (a 14), .ref (a 26), .int 0, .int 0]))]) [0] rfl, hD.sub (ws' := [(a 2, .inr (6, [.ref (a 3), .ref (a 14), .ref (a 26), .int 0, .int 0]))]) [0] (by decide) rfl⟩, hS.F ht⟩) hS.2.2 dX3_breaches_40
def w_x_allArrears : List Cond := .code yX0_allArrears cX0_allArrears 3 (some .int) :: ([.fieldLink RX0 75 "SeaLand$Board" "settled" "I"] ++ bs)
set_option maxHeartbeats 4000000 in
set_option maxRecDepth 100000 in
theorem x_allArrears (l : Launch) (dC : Nat → ClassId) (dI : Nat → Nat → Nat) (a : Nat → Nat) (k : Nat → ClassId)  (sz : Nat) : Met l yX0_allArrears w_x_allArrears ({ frames := 0, cells := 0, slots := 0, locals := 0 }) (va_Pc [.ref (a 30)] (fun U => U.heap.size = sz ∧ va_P (dC, dI) vwCl [(a 30, .inr (3, [.ref (a 31), .ref (a 32), .ref (a 33), .ref (a 34), .ref (a 35), .ref (a 36), .ref (a 37), .ref (a 38), .ref (a 50), .ref (a 62), .int (-1), .int 0, .long 0, .long 0, .int 0, .int 0, .int 0, .int 0]))] U.heap ∧ va_K (dC, dI) vwCl [] U ∧ va_D (fun _ => True) [(a 30, .inr (3, [.ref (a 31), .ref (a 32), .ref (a 33), .ref (a 34), .ref (a 35), .ref (a 36), .ref (a 37), .ref (a 38), .ref (a 50), .ref (a 62), .int (-1), .int 0, .long 0, .long 0, .int 0, .int 0, .int 0, .int 0]))] ∧ EV (va_A [(a 30, .inr (3, [.ref (a 31), .ref (a 32), .ref (a 33), .ref (a 34), .ref (a 35), .ref (a 36), .ref (a 37), .ref (a 38), .ref (a 50), .ref (a 62), .int (-1), .int 0, .long 0, .long 0, .int 0, .int 0, .int 0, .int 0]))] sz) U U.heap)) (va_Qi (fun (r : Int32) (u : Unit) => r = 0) (fun (_ : Unit) (t : State) => va_P (dC, dI) vwCl [(a 30, .inr (3, [.ref (a 31), .ref (a 32), .ref (a 33), .ref (a 34), .ref (a 35), .ref (a 36), .ref (a 37), .ref (a 38), .ref (a 50), .ref (a 62), .int (-1), .int 0, .long 0, .long 0, .int 0, .int 0, .int 0, .int 0]))] t.heap ∧ va_D (va_A [(a 30, .inr (3, [.ref (a 31), .ref (a 32), .ref (a 33), .ref (a 34), .ref (a 35), .ref (a 36), .ref (a 37), .ref (a 38), .ref (a 50), .ref (a 62), .int (-1), .int 0, .long 0, .long 0, .int 0, .int 0, .int 0, .int 0]))] sz) [(a 30, .inr (3, [.ref (a 31), .ref (a 32), .ref (a 33), .ref (a 34), .ref (a 35), .ref (a 36), .ref (a 37), .ref (a 38), .ref (a 50), .ref (a 62), .int (-1), .int 0, .long 0, .long 0, .int 0, .int 0, .int 0, .int 0]))]) (va_A [(a 30, .inr (3, [.ref (a 31), .ref (a 32), .ref (a 33), .ref (a 34), .ref (a 35), .ref (a 36), .ref (a 37), .ref (a 38), .ref (a 50), .ref (a 62), .int (-1), .int 0, .long 0, .long 0, .int 0, .int 0, .int 0, .int 0]))] sz)) 0 0 (va_A [(a 30, .inr (3, [.ref (a 31), .ref (a 32), .ref (a 33), .ref (a 34), .ref (a 35), .ref (a 36), .ref (a 37), .ref (a 38), .ref (a 50), .ref (a 62), .int (-1), .int 0, .long 0, .long 0, .int 0, .int 0, .int 0, .int 0]))] sz) := by
  refine Met.ofW (cc := cX0_allArrears) (maxL := 3) (ret := (some .int)) (by decide) rfl ?_
  intro p e s m args below meth c s₁ B hml hv
  obtain ⟨rfl, hsz, hP, hK, hD0, hE⟩ := hv
  have hx := B.exec
  have hb := B.bytes
  have hr := B.returns
  have hts := atoms_spec (ws := w_x_allArrears) B.pre
  have hown : s.vm.findClass RX0 = some m.cls := findClass_of_methodNamed B.named
  have hlocks := B.notSynchronized
  subst hsz
  have hD := hD0.self (sz := s.heap.size)
  generalize hAe : va_A [(a 30, .inr (3, [.ref (a 31), .ref (a 32), .ref (a 33), .ref (a 34), .ref (a 35), .ref (a 36), .ref (a 37), .ref (a 38), .ref (a 50), .ref (a 62), .int (-1), .int 0, .long 0, .long 0, .int 0, .int 0, .int 0, .int 0]))] s.heap.size = A at hD hE ⊢
  have hA : ∀ q : Nat, s.heap.size ≤ q → A q := fun q h => by rw [← hAe]; exact Or.inr h
  have hS : va_S A s.heap s.heap [] := va_S.rf
  have hP : va_P (dC, dI) vwCl [(a 30, .inr (3, [.ref (a 31), .ref (a 32), .ref (a 33), .ref (a 34), .ref (a 35), .ref (a 36), .ref (a 37), .ref (a 38), .ref (a 50), .ref (a 62), .int (-1), .int 0, .long 0, .long 0, .int 0, .int 0, .int 0, .int 0]))] s.heap := hP
  have hl := lv_entry ([.ref (a 30)]) (n := 3) (Nat.le_of_ble_eq_true rfl)
  rw [lg_entry_eq]
  generalize (lg_sl ([.ref (a 30)]) ++ List.replicate (3 - (lg_sl ([.ref (a 30)])).length) Slot.unset).toArray = ls at hl ⊢
  have hl : lv_has ls 3 [(0, .ref (a 30))] := hl
  refine lv_iconst (v := 0) hx hb dX0_allArrears_0 (by decide) ?_
  refine lv_istore_n (lv' := [(1, .int 0), (0, .ref (a 30))]) hx hb dX0_allArrears_1 rfl hl (by decide) rfl (fun ls hl => ?_)
  refine lv_iconst (v := 0) hx hb dX0_allArrears_2 (by decide) ?_
  refine lv_istore_n (lv' := [(2, .int 0), (1, .int 0), (0, .ref (a 30))]) hx hb dX0_allArrears_3 rfl hl (by decide) rfl (fun ls hl => ?_)
  refine lv_iload_n hx hb dX0_allArrears_4 rfl (lv_at hl 0 rfl) ?_
  refine lv_aload_n hx hb dX0_allArrears_5 rfl (lv_at hl 2 rfl) ?_
  refine va_get (D := (dC, dI)) (ci := 3) (v := .int 0) (C := RX0) (T := TX0) (N := 18) hx hb hts bF_X0 hown hK hP 0 rfl rfl 14 (by decide) (ht_at hts 0 rfl) (fun _ h9 => h9) rfl dX0_allArrears_6 ?_
  refine lv_icmp_ge (tgt := 30) hx hb dX0_allArrears_9 (by decide) (fun c1 => ?_) (fun c1 => absurd c1 (by decide))
  refine lv_iload_n hx hb dX0_allArrears_30 rfl (lv_at hl 1 rfl) ?_
  exact W.iret (v := 0) hx hb hr (fun t ht hW => ⟨⟨0, (), rfl, (by rfl), by rw [ht]; exact hP.sub (ws' := [(a 30, .inr (3, [.ref (a 31), .ref (a 32), .ref (a 33), .ref (a 34), .ref (a 35), .ref (a 36), .ref (a 37), .ref (a 38), .ref (a 50), .ref (a 62), .int (-1), .int 0, .long 0, .long 0, .int 0, .int 0, .int 0, .int 0]))]) [0] rfl, hD.sub (ws' := [(a 30, .inr (3, [.ref (a 31), .ref (a 32), .ref (a 33), .ref (a 34), .ref (a 35), .ref (a 36), .ref (a 37), .ref (a 38), .ref (a 50), .ref (a 62), .int (-1), .int 0, .long 0, .long 0, .int 0, .int 0, .int 0, .int 0]))]) [0] (by decide) rfl⟩, hS.F ht⟩) hS.2.2 dX0_allArrears_31
def w_x_tellStorm : List Cond := .code yX8_tellStorm cX8_tellStorm 4 (some .int) :: ([.fieldLink RX8 15 "SeaLand$Sky" "stormFrom" "[I", .fieldLink RX8 34 "SeaLand$Sky" "storms" "I", .fieldLink RX8 18 "SeaLand$Sky" "stormTo" "[I", .fieldLink RX8 21 "SeaLand$Sky" "stormMore" "[I"] ++ bs)
set_option maxHeartbeats 4000000 in
set_option maxRecDepth 100000 in
theorem x_tellStorm (l : Launch) (dC : Nat → ClassId) (dI : Nat → Nat → Nat) (a : Nat → Nat) (k : Nat → ClassId) (p0 p1 p2 : Int32) (sz : Nat) : Met l yX8_tellStorm w_x_tellStorm ({ frames := 0, cells := 0, slots := 0, locals := 0 }) (va_Pc [.ref (a 3), .int p0, .int p1, .int p2] (fun U => U.heap.size = sz ∧ va_P (dC, dI) vwCl [(a 3, .inr (11, [.ref (a 4), .ref (a 5), .ref (a 6), .ref (a 7), .ref (a 8), .ref (a 11), .int 0])), (a 5, .inl ((k 5), 20, .inl (fun _ => 0))), (a 6, .inl ((k 6), 20, .inl (fun _ => 0))), (a 7, .inl ((k 7), 20, .inl (fun _ => 0)))] U.heap ∧ va_K (dC, dI) vwCl [((k 5), .int), ((k 6), .int), ((k 7), .int)] U ∧ va_D (fun _ => True) [(a 3, .inr (11, [.ref (a 4), .ref (a 5), .ref (a 6), .ref (a 7), .ref (a 8), .ref (a 11), .int 0])), (a 5, .inl ((k 5), 20, .inl (fun _ => 0))), (a 6, .inl ((k 6), 20, .inl (fun _ => 0))), (a 7, .inl ((k 7), 20, .inl (fun _ => 0)))] ∧ EV (va_A [(a 3, .inr (11, [.ref (a 4), .ref (a 5), .ref (a 6), .ref (a 7), .ref (a 8), .ref (a 11), .int 0])), (a 5, .inl ((k 5), 20, .inl (fun _ => 0))), (a 6, .inl ((k 6), 20, .inl (fun _ => 0))), (a 7, .inl ((k 7), 20, .inl (fun _ => 0)))] sz) U U.heap)) (va_Qi (fun (r : Int32) (u : Unit) => r = 1) (fun (_ : Unit) (_ : State) => True) (va_A [(a 3, .inr (11, [.ref (a 4), .ref (a 5), .ref (a 6), .ref (a 7), .ref (a 8), .ref (a 11), .int 0])), (a 5, .inl ((k 5), 20, .inl (fun _ => 0))), (a 6, .inl ((k 6), 20, .inl (fun _ => 0))), (a 7, .inl ((k 7), 20, .inl (fun _ => 0)))] sz)) 0 0 (va_A [(a 3, .inr (11, [.ref (a 4), .ref (a 5), .ref (a 6), .ref (a 7), .ref (a 8), .ref (a 11), .int 0])), (a 5, .inl ((k 5), 20, .inl (fun _ => 0))), (a 6, .inl ((k 6), 20, .inl (fun _ => 0))), (a 7, .inl ((k 7), 20, .inl (fun _ => 0)))] sz) := by
  refine Met.ofW (cc := cX8_tellStorm) (maxL := 4) (ret := (some .int)) (by decide) rfl ?_
  intro p e s m args below meth c s₁ B hml hv
  obtain ⟨rfl, hsz, hP, hK, hD0, hE⟩ := hv
  have hx := B.exec
  have hb := B.bytes
  have hr := B.returns
  have hts := atoms_spec (ws := w_x_tellStorm) B.pre
  have hown : s.vm.findClass RX8 = some m.cls := findClass_of_methodNamed B.named
  have hlocks := B.notSynchronized
  subst hsz
  have hD := hD0.self (sz := s.heap.size)
  generalize hAe : va_A [(a 3, .inr (11, [.ref (a 4), .ref (a 5), .ref (a 6), .ref (a 7), .ref (a 8), .ref (a 11), .int 0])), (a 5, .inl ((k 5), 20, .inl (fun _ => 0))), (a 6, .inl ((k 6), 20, .inl (fun _ => 0))), (a 7, .inl ((k 7), 20, .inl (fun _ => 0)))] s.heap.size = A at hD hE ⊢
  have hA : ∀ q : Nat, s.heap.size ≤ q → A q := fun q h => by rw [← hAe]; exact Or.inr h
  have hS : va_S A s.heap s.heap [] := va_S.rf
  have hP : va_P (dC, dI) vwCl [(a 3, .inr (11, [.ref (a 4), .ref (a 5), .ref (a 6), .ref (a 7), .ref (a 8), .ref (a 11), .int 0])), (a 5, .inl ((k 5), 20, .inl (fun _ => 0))), (a 6, .inl ((k 6), 20, .inl (fun _ => 0))), (a 7, .inl ((k 7), 20, .inl (fun _ => 0)))] s.heap := hP
  have hl := lv_entry ([.ref (a 3), .int p0, .int p1, .int p2]) (n := 4) (Nat.le_of_ble_eq_true rfl)
  rw [lg_entry_eq]
  generalize (lg_sl ([.ref (a 3), .int p0, .int p1, .int p2]) ++ List.replicate (4 - (lg_sl ([.ref (a 3), .int p0, .int p1, .int p2])).length) Slot.unset).toArray = ls at hl ⊢
  have hl : lv_has ls 4 [(0, .ref (a 3)), (1, .int p0), (2, .int p1), (3, .int p2)] := hl
  refine lv_aload_n hx hb dX8_tellStorm_0 rfl (lv_at hl 0 rfl) ?_
  refine va_get (D := (dC, dI)) (ci := 11) (v := .ref (a 5)) (C := RX8) (T := TX8) (N := 7) hx hb hts bF_X8 hown hK hP 0 rfl rfl 1 (by decide) (ht_at hts 0 rfl) (fun _ h9 => h9) rfl dX8_tellStorm_1 ?_
  refine lv_aload_n hx hb dX8_tellStorm_4 rfl (lv_at hl 0 rfl) ?_
  refine va_get (D := (dC, dI)) (ci := 11) (v := .int 0) (C := RX8) (T := TX8) (N := 7) hx hb hts bF_X8 hown hK hP 0 rfl rfl 6 (by decide) (ht_at hts 1 rfl) (fun _ h9 => h9) rfl dX8_tellStorm_5 ?_
  refine lv_iload_n hx hb dX8_tellStorm_8 rfl (lv_at hl 1 rfl) ?_
  refine va_iast hx hb hK hP hD hS 1 0 rfl rfl (by unfold vp_in; decide) dX8_tellStorm_9 (fun H locs hP hD hS => ?_)
  have hP : va_P (dC, dI) vwCl [(a 3, .inr (11, [.ref (a 4), .ref (a 5), .ref (a 6), .ref (a 7), .ref (a 8), .ref (a 11), .int 0])), (a 5, .inl ((k 5), 20, .inl (upd (fun _ => 0) (0 : Int32).toNatClampNeg p0))), (a 6, .inl ((k 6), 20, .inl (fun _ => 0))), (a 7, .inl ((k 7), 20, .inl (fun _ => 0)))] H := hP
  have hD : va_D A [(a 3, .inr (11, [.ref (a 4), .ref (a 5), .ref (a 6), .ref (a 7), .ref (a 8), .ref (a 11), .int 0])), (a 5, .inl ((k 5), 20, .inl (upd (fun _ => 0) (0 : Int32).toNatClampNeg p0))), (a 6, .inl ((k 6), 20, .inl (fun _ => 0))), (a 7, .inl ((k 7), 20, .inl (fun _ => 0)))] := hD
  refine lv_aload_n hx hb dX8_tellStorm_10 rfl (lv_at hl 0 rfl) ?_
  refine va_get (D := (dC, dI)) (ci := 11) (v := .ref (a 6)) (C := RX8) (T := TX8) (N := 7) hx hb hts bF_X8 hown hK hP 0 rfl rfl 2 (by decide) (ht_at hts 2 rfl) (fun _ h9 => h9) rfl dX8_tellStorm_11 ?_
  refine lv_aload_n hx hb dX8_tellStorm_14 rfl (lv_at hl 0 rfl) ?_
  refine va_get (D := (dC, dI)) (ci := 11) (v := .int 0) (C := RX8) (T := TX8) (N := 7) hx hb hts bF_X8 hown hK hP 0 rfl rfl 6 (by decide) (ht_at hts 1 rfl) (fun _ h9 => h9) rfl dX8_tellStorm_15 ?_
  refine lv_iload_n hx hb dX8_tellStorm_18 rfl (lv_at hl 2 rfl) ?_
  refine va_iast hx hb hK hP hD hS 2 1 rfl rfl (by unfold vp_in; decide) dX8_tellStorm_19 (fun H locs hP hD hS => ?_)
  have hP : va_P (dC, dI) vwCl [(a 3, .inr (11, [.ref (a 4), .ref (a 5), .ref (a 6), .ref (a 7), .ref (a 8), .ref (a 11), .int 0])), (a 5, .inl ((k 5), 20, .inl (upd (fun _ => 0) (0 : Int32).toNatClampNeg p0))), (a 6, .inl ((k 6), 20, .inl (upd (fun _ => 0) (0 : Int32).toNatClampNeg p1))), (a 7, .inl ((k 7), 20, .inl (fun _ => 0)))] H := hP
  have hD : va_D A [(a 3, .inr (11, [.ref (a 4), .ref (a 5), .ref (a 6), .ref (a 7), .ref (a 8), .ref (a 11), .int 0])), (a 5, .inl ((k 5), 20, .inl (upd (fun _ => 0) (0 : Int32).toNatClampNeg p0))), (a 6, .inl ((k 6), 20, .inl (upd (fun _ => 0) (0 : Int32).toNatClampNeg p1))), (a 7, .inl ((k 7), 20, .inl (fun _ => 0)))] := hD
  refine lv_aload_n hx hb dX8_tellStorm_20 rfl (lv_at hl 0 rfl) ?_
  refine va_get (D := (dC, dI)) (ci := 11) (v := .ref (a 7)) (C := RX8) (T := TX8) (N := 7) hx hb hts bF_X8 hown hK hP 0 rfl rfl 3 (by decide) (ht_at hts 3 rfl) (fun _ h9 => h9) rfl dX8_tellStorm_21 ?_
  refine lv_aload_n hx hb dX8_tellStorm_24 rfl (lv_at hl 0 rfl) ?_
  refine va_get (D := (dC, dI)) (ci := 11) (v := .int 0) (C := RX8) (T := TX8) (N := 7) hx hb hts bF_X8 hown hK hP 0 rfl rfl 6 (by decide) (ht_at hts 1 rfl) (fun _ h9 => h9) rfl dX8_tellStorm_25 ?_
  refine lv_iload_n hx hb dX8_tellStorm_28 rfl (lv_at hl 3 rfl) ?_
  refine va_iast hx hb hK hP hD hS 3 2 rfl rfl (by unfold vp_in; decide) dX8_tellStorm_29 (fun H locs hP hD hS => ?_)
  have hP : va_P (dC, dI) vwCl [(a 3, .inr (11, [.ref (a 4), .ref (a 5), .ref (a 6), .ref (a 7), .ref (a 8), .ref (a 11), .int 0])), (a 5, .inl ((k 5), 20, .inl (upd (fun _ => 0) (0 : Int32).toNatClampNeg p0))), (a 6, .inl ((k 6), 20, .inl (upd (fun _ => 0) (0 : Int32).toNatClampNeg p1))), (a 7, .inl ((k 7), 20, .inl (upd (fun _ => 0) (0 : Int32).toNatClampNeg p2)))] H := hP
  have hD : va_D A [(a 3, .inr (11, [.ref (a 4), .ref (a 5), .ref (a 6), .ref (a 7), .ref (a 8), .ref (a 11), .int 0])), (a 5, .inl ((k 5), 20, .inl (upd (fun _ => 0) (0 : Int32).toNatClampNeg p0))), (a 6, .inl ((k 6), 20, .inl (upd (fun _ => 0) (0 : Int32).toNatClampNeg p1))), (a 7, .inl ((k 7), 20, .inl (upd (fun _ => 0) (0 : Int32).toNatClampNeg p2)))] := hD
  refine lv_aload_n hx hb dX8_tellStorm_30 rfl (lv_at hl 0 rfl) ?_
  refine lv_dup hx hb dX8_tellStorm_31 rfl ?_
  refine va_get (D := (dC, dI)) (ci := 11) (v := .int 0) (C := RX8) (T := TX8) (N := 7) hx hb hts bF_X8 hown hK hP 0 rfl rfl 6 (by decide) (ht_at hts 1 rfl) (fun _ h9 => h9) rfl dX8_tellStorm_32 ?_
  refine lv_iconst (v := 1) hx hb dX8_tellStorm_35 (by decide) ?_
  refine lv_iadd hx hb dX8_tellStorm_36 ?_
  refine lv_topi (fun x1 ex1 => ?_)
  obtain rfl : x1 = 1 := ex1.trans (by decide)
  refine va_put (D := (dC, dI)) (ci := 11) (v := .int 1) (ty := .int) (C := RX8) (T := TX8) (N := 7) hx hb hts bF_X8 tyX8 tyX8_ok nmX8 hown hK hP hD hS 0 rfl rfl 6 (by decide) (ht_at hts 1 rfl) (fun _ h9 => h9) rfl (by decide +kernel) rfl rfl (Nat.le_of_ble_eq_true rfl) dX8_tellStorm_37 (fun H locs hP hD hS => ?_)
  have hP : va_P (dC, dI) vwCl [(a 3, .inr (11, [.ref (a 4), .ref (a 5), .ref (a 6), .ref (a 7), .ref (a 8), .ref (a 11), .int 1])), (a 5, .inl ((k 5), 20, .inl (upd (fun _ => 0) (0 : Int32).toNatClampNeg p0))), (a 6, .inl ((k 6), 20, .inl (upd (fun _ => 0) (0 : Int32).toNatClampNeg p1))), (a 7, .inl ((k 7), 20, .inl (upd (fun _ => 0) (0 : Int32).toNatClampNeg p2)))] H := hP
  have hD : va_D A [(a 3, .inr (11, [.ref (a 4), .ref (a 5), .ref (a 6), .ref (a 7), .ref (a 8), .ref (a 11), .int 1])), (a 5, .inl ((k 5), 20, .inl (upd (fun _ => 0) (0 : Int32).toNatClampNeg p0))), (a 6, .inl ((k 6), 20, .inl (upd (fun _ => 0) (0 : Int32).toNatClampNeg p1))), (a 7, .inl ((k 7), 20, .inl (upd (fun _ => 0) (0 : Int32).toNatClampNeg p2)))] := hD
  refine lv_aload_n hx hb dX8_tellStorm_40 rfl (lv_at hl 0 rfl) ?_
  refine va_get (D := (dC, dI)) (ci := 11) (v := .int 1) (C := RX8) (T := TX8) (N := 7) hx hb hts bF_X8 hown hK hP 0 rfl rfl 6 (by decide) (ht_at hts 1 rfl) (fun _ h9 => h9) rfl dX8_tellStorm_41 ?_
  exact W.iret (v := 1) hx hb hr (fun t ht hW => ⟨⟨1, (), rfl, (by rfl), trivial⟩, hS.F ht⟩) hS.2.2 dX8_tellStorm_44
def w_x_tellW : List Cond := .code yX9_tell cX9_tell 4 (some .int) :: ([.fieldLink RX9 18 "SeaLand$Tellings" "told" "I", .fieldLink RX9 9 "SeaLand$Tellings" "hours" "[I", .fieldLink RX9 15 "SeaLand$Tellings" "numbers" "[I"] ++ bs)
set_option maxHeartbeats 4000000 in
set_option maxRecDepth 100000 in
theorem x_tellW (l : Launch) (dC : Nat → ClassId) (dI : Nat → Nat → Nat) (a : Nat → Nat) (k : Nat → ClassId) (p0 p1 : Int32) (sz : Nat) : Met l yX9_tell w_x_tellW ({ frames := 0, cells := 0, slots := 0, locals := 0 }) (va_Pc [.ref (a 8), .int p0, .int p1] (fun U => U.heap.size = sz ∧ va_P (dC, dI) vwCl [(a 8, .inr (12, [.ref (a 9), .ref (a 10), .int 0])), (a 9, .inl ((k 9), 60, .inl (fun _ => 0))), (a 10, .inl ((k 10), 60, .inl (fun _ => 0)))] U.heap ∧ va_K (dC, dI) vwCl [((k 9), .int), ((k 10), .int)] U ∧ va_D (fun _ => True) [(a 8, .inr (12, [.ref (a 9), .ref (a 10), .int 0])), (a 9, .inl ((k 9), 60, .inl (fun _ => 0))), (a 10, .inl ((k 10), 60, .inl (fun _ => 0)))] ∧ EV (va_A [(a 8, .inr (12, [.ref (a 9), .ref (a 10), .int 0])), (a 9, .inl ((k 9), 60, .inl (fun _ => 0))), (a 10, .inl ((k 10), 60, .inl (fun _ => 0)))] sz) U U.heap)) (va_Qi (fun (r : Int32) (u : Unit) => r = 1) (fun (_ : Unit) (_ : State) => True) (va_A [(a 8, .inr (12, [.ref (a 9), .ref (a 10), .int 0])), (a 9, .inl ((k 9), 60, .inl (fun _ => 0))), (a 10, .inl ((k 10), 60, .inl (fun _ => 0)))] sz)) 0 0 (va_A [(a 8, .inr (12, [.ref (a 9), .ref (a 10), .int 0])), (a 9, .inl ((k 9), 60, .inl (fun _ => 0))), (a 10, .inl ((k 10), 60, .inl (fun _ => 0)))] sz) := by
  refine Met.ofW (cc := cX9_tell) (maxL := 4) (ret := (some .int)) (by decide) rfl ?_
  intro p e s m args below meth c s₁ B hml hv
  obtain ⟨rfl, hsz, hP, hK, hD0, hE⟩ := hv
  have hx := B.exec
  have hb := B.bytes
  have hr := B.returns
  have hts := atoms_spec (ws := w_x_tellW) B.pre
  have hown : s.vm.findClass RX9 = some m.cls := findClass_of_methodNamed B.named
  have hlocks := B.notSynchronized
  subst hsz
  have hD := hD0.self (sz := s.heap.size)
  generalize hAe : va_A [(a 8, .inr (12, [.ref (a 9), .ref (a 10), .int 0])), (a 9, .inl ((k 9), 60, .inl (fun _ => 0))), (a 10, .inl ((k 10), 60, .inl (fun _ => 0)))] s.heap.size = A at hD hE ⊢
  have hA : ∀ q : Nat, s.heap.size ≤ q → A q := fun q h => by rw [← hAe]; exact Or.inr h
  have hS : va_S A s.heap s.heap [] := va_S.rf
  have hP : va_P (dC, dI) vwCl [(a 8, .inr (12, [.ref (a 9), .ref (a 10), .int 0])), (a 9, .inl ((k 9), 60, .inl (fun _ => 0))), (a 10, .inl ((k 10), 60, .inl (fun _ => 0)))] s.heap := hP
  have hl := lv_entry ([.ref (a 8), .int p0, .int p1]) (n := 4) (Nat.le_of_ble_eq_true rfl)
  rw [lg_entry_eq]
  generalize (lg_sl ([.ref (a 8), .int p0, .int p1]) ++ List.replicate (4 - (lg_sl ([.ref (a 8), .int p0, .int p1])).length) Slot.unset).toArray = ls at hl ⊢
  have hl : lv_has ls 4 [(0, .ref (a 8)), (1, .int p0), (2, .int p1)] := hl
  refine lv_iconst (v := 0) hx hb dX9_tell_0 (by decide) ?_
  refine lv_istore_n (lv' := [(3, .int 0), (0, .ref (a 8)), (1, .int p0), (2, .int p1)]) hx hb dX9_tell_1 rfl hl (by decide) rfl (fun ls hl => ?_)
  refine lv_iload_n hx hb dX9_tell_2 rfl (lv_at hl 0 rfl) ?_
  refine lv_aload_n hx hb dX9_tell_3 rfl (lv_at hl 1 rfl) ?_
  refine va_get (D := (dC, dI)) (ci := 12) (v := .int 0) (C := RX9) (T := TX9) (N := 3) hx hb hts bF_X9 hown hK hP 0 rfl rfl 2 (by decide) (ht_at hts 0 rfl) (fun _ h9 => h9) rfl dX9_tell_4 ?_
  refine lv_icmp_ge (tgt := 33) hx hb dX9_tell_7 (by decide) (fun c1 => ?_) (fun c1 => absurd c1 (by decide))
  refine lv_aload_n hx hb dX9_tell_33 rfl (lv_at hl 1 rfl) ?_
  refine va_get (D := (dC, dI)) (ci := 12) (v := .ref (a 9)) (C := RX9) (T := TX9) (N := 3) hx hb hts bF_X9 hown hK hP 0 rfl rfl 0 (by decide) (ht_at hts 1 rfl) (fun _ h9 => h9) rfl dX9_tell_34 ?_
  refine lv_aload_n hx hb dX9_tell_37 rfl (lv_at hl 1 rfl) ?_
  refine va_get (D := (dC, dI)) (ci := 12) (v := .int 0) (C := RX9) (T := TX9) (N := 3) hx hb hts bF_X9 hown hK hP 0 rfl rfl 2 (by decide) (ht_at hts 0 rfl) (fun _ h9 => h9) rfl dX9_tell_38 ?_
  refine lv_iload_n hx hb dX9_tell_41 rfl (lv_at hl 2 rfl) ?_
  refine va_iast hx hb hK hP hD hS 1 0 rfl rfl (by unfold vp_in; decide) dX9_tell_42 (fun H locs hP hD hS => ?_)
  have hP : va_P (dC, dI) vwCl [(a 8, .inr (12, [.ref (a 9), .ref (a 10), .int 0])), (a 9, .inl ((k 9), 60, .inl (upd (fun _ => 0) (0 : Int32).toNatClampNeg p0))), (a 10, .inl ((k 10), 60, .inl (fun _ => 0)))] H := hP
  have hD : va_D A [(a 8, .inr (12, [.ref (a 9), .ref (a 10), .int 0])), (a 9, .inl ((k 9), 60, .inl (upd (fun _ => 0) (0 : Int32).toNatClampNeg p0))), (a 10, .inl ((k 10), 60, .inl (fun _ => 0)))] := hD
  refine lv_aload_n hx hb dX9_tell_43 rfl (lv_at hl 1 rfl) ?_
  refine va_get (D := (dC, dI)) (ci := 12) (v := .ref (a 10)) (C := RX9) (T := TX9) (N := 3) hx hb hts bF_X9 hown hK hP 0 rfl rfl 1 (by decide) (ht_at hts 2 rfl) (fun _ h9 => h9) rfl dX9_tell_44 ?_
  refine lv_aload_n hx hb dX9_tell_47 rfl (lv_at hl 1 rfl) ?_
  refine va_get (D := (dC, dI)) (ci := 12) (v := .int 0) (C := RX9) (T := TX9) (N := 3) hx hb hts bF_X9 hown hK hP 0 rfl rfl 2 (by decide) (ht_at hts 0 rfl) (fun _ h9 => h9) rfl dX9_tell_48 ?_
  refine lv_iload_n hx hb dX9_tell_51 rfl (lv_at hl 3 rfl) ?_
  refine va_iast hx hb hK hP hD hS 2 1 rfl rfl (by unfold vp_in; decide) dX9_tell_52 (fun H locs hP hD hS => ?_)
  have hP : va_P (dC, dI) vwCl [(a 8, .inr (12, [.ref (a 9), .ref (a 10), .int 0])), (a 9, .inl ((k 9), 60, .inl (upd (fun _ => 0) (0 : Int32).toNatClampNeg p0))), (a 10, .inl ((k 10), 60, .inl (upd (fun _ => 0) (0 : Int32).toNatClampNeg p1)))] H := hP
  have hD : va_D A [(a 8, .inr (12, [.ref (a 9), .ref (a 10), .int 0])), (a 9, .inl ((k 9), 60, .inl (upd (fun _ => 0) (0 : Int32).toNatClampNeg p0))), (a 10, .inl ((k 10), 60, .inl (upd (fun _ => 0) (0 : Int32).toNatClampNeg p1)))] := hD
  refine lv_aload_n hx hb dX9_tell_53 rfl (lv_at hl 1 rfl) ?_
  refine lv_dup hx hb dX9_tell_54 rfl ?_
  refine va_get (D := (dC, dI)) (ci := 12) (v := .int 0) (C := RX9) (T := TX9) (N := 3) hx hb hts bF_X9 hown hK hP 0 rfl rfl 2 (by decide) (ht_at hts 0 rfl) (fun _ h9 => h9) rfl dX9_tell_55 ?_
  refine lv_iconst (v := 1) hx hb dX9_tell_58 (by decide) ?_
  refine lv_iadd hx hb dX9_tell_59 ?_
  refine lv_topi (fun x2 ex2 => ?_)
  obtain rfl : x2 = 1 := ex2.trans (by decide)
  refine va_put (D := (dC, dI)) (ci := 12) (v := .int 1) (ty := .int) (C := RX9) (T := TX9) (N := 3) hx hb hts bF_X9 tyX9 tyX9_ok nmX9 hown hK hP hD hS 0 rfl rfl 2 (by decide) (ht_at hts 0 rfl) (fun _ h9 => h9) rfl (by decide +kernel) rfl rfl (Nat.le_of_ble_eq_true rfl) dX9_tell_60 (fun H locs hP hD hS => ?_)
  have hP : va_P (dC, dI) vwCl [(a 8, .inr (12, [.ref (a 9), .ref (a 10), .int 1])), (a 9, .inl ((k 9), 60, .inl (upd (fun _ => 0) (0 : Int32).toNatClampNeg p0))), (a 10, .inl ((k 10), 60, .inl (upd (fun _ => 0) (0 : Int32).toNatClampNeg p1)))] H := hP
  have hD : va_D A [(a 8, .inr (12, [.ref (a 9), .ref (a 10), .int 1])), (a 9, .inl ((k 9), 60, .inl (upd (fun _ => 0) (0 : Int32).toNatClampNeg p0))), (a 10, .inl ((k 10), 60, .inl (upd (fun _ => 0) (0 : Int32).toNatClampNeg p1)))] := hD
  refine lv_aload_n hx hb dX9_tell_63 rfl (lv_at hl 1 rfl) ?_
  refine va_get (D := (dC, dI)) (ci := 12) (v := .int 1) (C := RX9) (T := TX9) (N := 3) hx hb hts bF_X9 hown hK hP 0 rfl rfl 2 (by decide) (ht_at hts 0 rfl) (fun _ h9 => h9) rfl dX9_tell_64 ?_
  exact W.iret (v := 1) hx hb hr (fun t ht hW => ⟨⟨1, (), rfl, (by rfl), trivial⟩, hS.F ht⟩) hS.2.2 dX9_tell_67
def w_x_tellR : List Cond := .code yX9_tell cX9_tell 4 (some .int) :: ([.fieldLink RX9 18 "SeaLand$Tellings" "told" "I", .fieldLink RX9 9 "SeaLand$Tellings" "hours" "[I", .fieldLink RX9 15 "SeaLand$Tellings" "numbers" "[I"] ++ bs)
set_option maxHeartbeats 4000000 in
set_option maxRecDepth 100000 in
theorem x_tellR (l : Launch) (dC : Nat → ClassId) (dI : Nat → Nat → Nat) (a : Nat → Nat) (k : Nat → ClassId) (p0 p1 : Int32) (sz : Nat) : Met l yX9_tell w_x_tellR ({ frames := 0, cells := 0, slots := 0, locals := 0 }) (va_Pc [.ref (a 11), .int p0, .int p1] (fun U => U.heap.size = sz ∧ va_P (dC, dI) vwCl [(a 11, .inr (12, [.ref (a 12), .ref (a 13), .int 0])), (a 12, .inl ((k 12), 60, .inl (fun _ => 0))), (a 13, .inl ((k 13), 60, .inl (fun _ => 0)))] U.heap ∧ va_K (dC, dI) vwCl [((k 12), .int), ((k 13), .int)] U ∧ va_D (fun _ => True) [(a 11, .inr (12, [.ref (a 12), .ref (a 13), .int 0])), (a 12, .inl ((k 12), 60, .inl (fun _ => 0))), (a 13, .inl ((k 13), 60, .inl (fun _ => 0)))] ∧ EV (va_A [(a 11, .inr (12, [.ref (a 12), .ref (a 13), .int 0])), (a 12, .inl ((k 12), 60, .inl (fun _ => 0))), (a 13, .inl ((k 13), 60, .inl (fun _ => 0)))] sz) U U.heap)) (va_Qi (fun (r : Int32) (u : Unit) => r = 1) (fun (_ : Unit) (_ : State) => True) (va_A [(a 11, .inr (12, [.ref (a 12), .ref (a 13), .int 0])), (a 12, .inl ((k 12), 60, .inl (fun _ => 0))), (a 13, .inl ((k 13), 60, .inl (fun _ => 0)))] sz)) 0 0 (va_A [(a 11, .inr (12, [.ref (a 12), .ref (a 13), .int 0])), (a 12, .inl ((k 12), 60, .inl (fun _ => 0))), (a 13, .inl ((k 13), 60, .inl (fun _ => 0)))] sz) := by
  refine Met.ofW (cc := cX9_tell) (maxL := 4) (ret := (some .int)) (by decide) rfl ?_
  intro p e s m args below meth c s₁ B hml hv
  obtain ⟨rfl, hsz, hP, hK, hD0, hE⟩ := hv
  have hx := B.exec
  have hb := B.bytes
  have hr := B.returns
  have hts := atoms_spec (ws := w_x_tellR) B.pre
  have hown : s.vm.findClass RX9 = some m.cls := findClass_of_methodNamed B.named
  have hlocks := B.notSynchronized
  subst hsz
  have hD := hD0.self (sz := s.heap.size)
  generalize hAe : va_A [(a 11, .inr (12, [.ref (a 12), .ref (a 13), .int 0])), (a 12, .inl ((k 12), 60, .inl (fun _ => 0))), (a 13, .inl ((k 13), 60, .inl (fun _ => 0)))] s.heap.size = A at hD hE ⊢
  have hA : ∀ q : Nat, s.heap.size ≤ q → A q := fun q h => by rw [← hAe]; exact Or.inr h
  have hS : va_S A s.heap s.heap [] := va_S.rf
  have hP : va_P (dC, dI) vwCl [(a 11, .inr (12, [.ref (a 12), .ref (a 13), .int 0])), (a 12, .inl ((k 12), 60, .inl (fun _ => 0))), (a 13, .inl ((k 13), 60, .inl (fun _ => 0)))] s.heap := hP
  have hl := lv_entry ([.ref (a 11), .int p0, .int p1]) (n := 4) (Nat.le_of_ble_eq_true rfl)
  rw [lg_entry_eq]
  generalize (lg_sl ([.ref (a 11), .int p0, .int p1]) ++ List.replicate (4 - (lg_sl ([.ref (a 11), .int p0, .int p1])).length) Slot.unset).toArray = ls at hl ⊢
  have hl : lv_has ls 4 [(0, .ref (a 11)), (1, .int p0), (2, .int p1)] := hl
  refine lv_iconst (v := 0) hx hb dX9_tell_0 (by decide) ?_
  refine lv_istore_n (lv' := [(3, .int 0), (0, .ref (a 11)), (1, .int p0), (2, .int p1)]) hx hb dX9_tell_1 rfl hl (by decide) rfl (fun ls hl => ?_)
  refine lv_iload_n hx hb dX9_tell_2 rfl (lv_at hl 0 rfl) ?_
  refine lv_aload_n hx hb dX9_tell_3 rfl (lv_at hl 1 rfl) ?_
  refine va_get (D := (dC, dI)) (ci := 12) (v := .int 0) (C := RX9) (T := TX9) (N := 3) hx hb hts bF_X9 hown hK hP 0 rfl rfl 2 (by decide) (ht_at hts 0 rfl) (fun _ h9 => h9) rfl dX9_tell_4 ?_
  refine lv_icmp_ge (tgt := 33) hx hb dX9_tell_7 (by decide) (fun c1 => ?_) (fun c1 => absurd c1 (by decide))
  refine lv_aload_n hx hb dX9_tell_33 rfl (lv_at hl 1 rfl) ?_
  refine va_get (D := (dC, dI)) (ci := 12) (v := .ref (a 12)) (C := RX9) (T := TX9) (N := 3) hx hb hts bF_X9 hown hK hP 0 rfl rfl 0 (by decide) (ht_at hts 1 rfl) (fun _ h9 => h9) rfl dX9_tell_34 ?_
  refine lv_aload_n hx hb dX9_tell_37 rfl (lv_at hl 1 rfl) ?_
  refine va_get (D := (dC, dI)) (ci := 12) (v := .int 0) (C := RX9) (T := TX9) (N := 3) hx hb hts bF_X9 hown hK hP 0 rfl rfl 2 (by decide) (ht_at hts 0 rfl) (fun _ h9 => h9) rfl dX9_tell_38 ?_
  refine lv_iload_n hx hb dX9_tell_41 rfl (lv_at hl 2 rfl) ?_
  refine va_iast hx hb hK hP hD hS 1 0 rfl rfl (by unfold vp_in; decide) dX9_tell_42 (fun H locs hP hD hS => ?_)
  have hP : va_P (dC, dI) vwCl [(a 11, .inr (12, [.ref (a 12), .ref (a 13), .int 0])), (a 12, .inl ((k 12), 60, .inl (upd (fun _ => 0) (0 : Int32).toNatClampNeg p0))), (a 13, .inl ((k 13), 60, .inl (fun _ => 0)))] H := hP
  have hD : va_D A [(a 11, .inr (12, [.ref (a 12), .ref (a 13), .int 0])), (a 12, .inl ((k 12), 60, .inl (upd (fun _ => 0) (0 : Int32).toNatClampNeg p0))), (a 13, .inl ((k 13), 60, .inl (fun _ => 0)))] := hD
  refine lv_aload_n hx hb dX9_tell_43 rfl (lv_at hl 1 rfl) ?_
  refine va_get (D := (dC, dI)) (ci := 12) (v := .ref (a 13)) (C := RX9) (T := TX9) (N := 3) hx hb hts bF_X9 hown hK hP 0 rfl rfl 1 (by decide) (ht_at hts 2 rfl) (fun _ h9 => h9) rfl dX9_tell_44 ?_
  refine lv_aload_n hx hb dX9_tell_47 rfl (lv_at hl 1 rfl) ?_
  refine va_get (D := (dC, dI)) (ci := 12) (v := .int 0) (C := RX9) (T := TX9) (N := 3) hx hb hts bF_X9 hown hK hP 0 rfl rfl 2 (by decide) (ht_at hts 0 rfl) (fun _ h9 => h9) rfl dX9_tell_48 ?_
  refine lv_iload_n hx hb dX9_tell_51 rfl (lv_at hl 3 rfl) ?_
  refine va_iast hx hb hK hP hD hS 2 1 rfl rfl (by unfold vp_in; decide) dX9_tell_52 (fun H locs hP hD hS => ?_)
  have hP : va_P (dC, dI) vwCl [(a 11, .inr (12, [.ref (a 12), .ref (a 13), .int 0])), (a 12, .inl ((k 12), 60, .inl (upd (fun _ => 0) (0 : Int32).toNatClampNeg p0))), (a 13, .inl ((k 13), 60, .inl (upd (fun _ => 0) (0 : Int32).toNatClampNeg p1)))] H := hP
  have hD : va_D A [(a 11, .inr (12, [.ref (a 12), .ref (a 13), .int 0])), (a 12, .inl ((k 12), 60, .inl (upd (fun _ => 0) (0 : Int32).toNatClampNeg p0))), (a 13, .inl ((k 13), 60, .inl (upd (fun _ => 0) (0 : Int32).toNatClampNeg p1)))] := hD
  refine lv_aload_n hx hb dX9_tell_53 rfl (lv_at hl 1 rfl) ?_
  refine lv_dup hx hb dX9_tell_54 rfl ?_
  refine va_get (D := (dC, dI)) (ci := 12) (v := .int 0) (C := RX9) (T := TX9) (N := 3) hx hb hts bF_X9 hown hK hP 0 rfl rfl 2 (by decide) (ht_at hts 0 rfl) (fun _ h9 => h9) rfl dX9_tell_55 ?_
  refine lv_iconst (v := 1) hx hb dX9_tell_58 (by decide) ?_
  refine lv_iadd hx hb dX9_tell_59 ?_
  refine lv_topi (fun x2 ex2 => ?_)
  obtain rfl : x2 = 1 := ex2.trans (by decide)
  refine va_put (D := (dC, dI)) (ci := 12) (v := .int 1) (ty := .int) (C := RX9) (T := TX9) (N := 3) hx hb hts bF_X9 tyX9 tyX9_ok nmX9 hown hK hP hD hS 0 rfl rfl 2 (by decide) (ht_at hts 0 rfl) (fun _ h9 => h9) rfl (by decide +kernel) rfl rfl (Nat.le_of_ble_eq_true rfl) dX9_tell_60 (fun H locs hP hD hS => ?_)
  have hP : va_P (dC, dI) vwCl [(a 11, .inr (12, [.ref (a 12), .ref (a 13), .int 1])), (a 12, .inl ((k 12), 60, .inl (upd (fun _ => 0) (0 : Int32).toNatClampNeg p0))), (a 13, .inl ((k 13), 60, .inl (upd (fun _ => 0) (0 : Int32).toNatClampNeg p1)))] H := hP
  have hD : va_D A [(a 11, .inr (12, [.ref (a 12), .ref (a 13), .int 1])), (a 12, .inl ((k 12), 60, .inl (upd (fun _ => 0) (0 : Int32).toNatClampNeg p0))), (a 13, .inl ((k 13), 60, .inl (upd (fun _ => 0) (0 : Int32).toNatClampNeg p1)))] := hD
  refine lv_aload_n hx hb dX9_tell_63 rfl (lv_at hl 1 rfl) ?_
  refine va_get (D := (dC, dI)) (ci := 12) (v := .int 1) (C := RX9) (T := TX9) (N := 3) hx hb hts bF_X9 hown hK hP 0 rfl rfl 2 (by decide) (ht_at hts 0 rfl) (fun _ h9 => h9) rfl dX9_tell_64 ?_
  exact W.iret (v := 1) hx hb hr (fun t ht hW => ⟨⟨1, (), rfl, (by rfl), trivial⟩, hS.F ht⟩) hS.2.2 dX9_tell_67
def w_x_addJob : List Cond := .code yX5_addJob cX5_addJob 5 (some .int) :: ([.fieldLink RX5 29 "SeaLand$Plans" "costs" "[I", .fieldLink RX5 154 "SeaLand$Plans" "jobs" "I", .fieldLink RX5 32 "SeaLand$Plans" "lasts" "[I", .fieldLink RX5 35 "SeaLand$Plans" "incomes" "[I", .fieldLink RX5 38 "SeaLand$Plans" "acres" "[I"] ++ bs)
set_option maxHeartbeats 4000000 in
set_option maxRecDepth 100000 in
theorem x_addJob (l : Launch) (dC : Nat → ClassId) (dI : Nat → Nat → Nat) (a : Nat → Nat) (k : Nat → ClassId) (p0 p1 p2 p3 : Int32) (sz : Nat) : Met l yX5_addJob w_x_addJob ({ frames := 0, cells := 0, slots := 0, locals := 0 }) (va_Pc [.ref (a 75), .int p0, .int p1, .int p2, .int p3] (fun U => U.heap.size = sz ∧ va_P (dC, dI) vwCl [(a 75, .inr (8, [.ref (a 76), .ref (a 77), .ref (a 78), .ref (a 79), .ref (a 80), .ref (a 81), .ref (a 82), .ref (a 83), .ref (a 84), .ref (a 85), .ref (a 86), .ref (a 87), .int 0, .int 0, .int 0, .int 0, .int 0])), (a 81, .inl ((k 81), 7, .inl (fun _ => 0))), (a 82, .inl ((k 82), 7, .inl (fun _ => 0))), (a 83, .inl ((k 83), 7, .inl (fun _ => 0))), (a 84, .inl ((k 84), 7, .inl (fun _ => 0)))] U.heap ∧ va_K (dC, dI) vwCl [((k 81), .int), ((k 82), .int), ((k 83), .int), ((k 84), .int)] U ∧ va_D (fun _ => True) [(a 75, .inr (8, [.ref (a 76), .ref (a 77), .ref (a 78), .ref (a 79), .ref (a 80), .ref (a 81), .ref (a 82), .ref (a 83), .ref (a 84), .ref (a 85), .ref (a 86), .ref (a 87), .int 0, .int 0, .int 0, .int 0, .int 0])), (a 81, .inl ((k 81), 7, .inl (fun _ => 0))), (a 82, .inl ((k 82), 7, .inl (fun _ => 0))), (a 83, .inl ((k 83), 7, .inl (fun _ => 0))), (a 84, .inl ((k 84), 7, .inl (fun _ => 0)))] ∧ EV (va_A [(a 75, .inr (8, [.ref (a 76), .ref (a 77), .ref (a 78), .ref (a 79), .ref (a 80), .ref (a 81), .ref (a 82), .ref (a 83), .ref (a 84), .ref (a 85), .ref (a 86), .ref (a 87), .int 0, .int 0, .int 0, .int 0, .int 0])), (a 81, .inl ((k 81), 7, .inl (fun _ => 0))), (a 82, .inl ((k 82), 7, .inl (fun _ => 0))), (a 83, .inl ((k 83), 7, .inl (fun _ => 0))), (a 84, .inl ((k 84), 7, .inl (fun _ => 0)))] sz) U U.heap)) (va_Qi (fun (r : Int32) (u : Unit) => r = 1) (fun (_ : Unit) (_ : State) => True) (va_A [(a 75, .inr (8, [.ref (a 76), .ref (a 77), .ref (a 78), .ref (a 79), .ref (a 80), .ref (a 81), .ref (a 82), .ref (a 83), .ref (a 84), .ref (a 85), .ref (a 86), .ref (a 87), .int 0, .int 0, .int 0, .int 0, .int 0])), (a 81, .inl ((k 81), 7, .inl (fun _ => 0))), (a 82, .inl ((k 82), 7, .inl (fun _ => 0))), (a 83, .inl ((k 83), 7, .inl (fun _ => 0))), (a 84, .inl ((k 84), 7, .inl (fun _ => 0)))] sz)) 0 0 (va_A [(a 75, .inr (8, [.ref (a 76), .ref (a 77), .ref (a 78), .ref (a 79), .ref (a 80), .ref (a 81), .ref (a 82), .ref (a 83), .ref (a 84), .ref (a 85), .ref (a 86), .ref (a 87), .int 0, .int 0, .int 0, .int 0, .int 0])), (a 81, .inl ((k 81), 7, .inl (fun _ => 0))), (a 82, .inl ((k 82), 7, .inl (fun _ => 0))), (a 83, .inl ((k 83), 7, .inl (fun _ => 0))), (a 84, .inl ((k 84), 7, .inl (fun _ => 0)))] sz) := by
  refine Met.ofW (cc := cX5_addJob) (maxL := 5) (ret := (some .int)) (by decide) rfl ?_
  intro p e s m args below meth c s₁ B hml hv
  obtain ⟨rfl, hsz, hP, hK, hD0, hE⟩ := hv
  have hx := B.exec
  have hb := B.bytes
  have hr := B.returns
  have hts := atoms_spec (ws := w_x_addJob) B.pre
  have hown : s.vm.findClass RX5 = some m.cls := findClass_of_methodNamed B.named
  have hlocks := B.notSynchronized
  subst hsz
  have hD := hD0.self (sz := s.heap.size)
  generalize hAe : va_A [(a 75, .inr (8, [.ref (a 76), .ref (a 77), .ref (a 78), .ref (a 79), .ref (a 80), .ref (a 81), .ref (a 82), .ref (a 83), .ref (a 84), .ref (a 85), .ref (a 86), .ref (a 87), .int 0, .int 0, .int 0, .int 0, .int 0])), (a 81, .inl ((k 81), 7, .inl (fun _ => 0))), (a 82, .inl ((k 82), 7, .inl (fun _ => 0))), (a 83, .inl ((k 83), 7, .inl (fun _ => 0))), (a 84, .inl ((k 84), 7, .inl (fun _ => 0)))] s.heap.size = A at hD hE ⊢
  have hA : ∀ q : Nat, s.heap.size ≤ q → A q := fun q h => by rw [← hAe]; exact Or.inr h
  have hS : va_S A s.heap s.heap [] := va_S.rf
  have hP : va_P (dC, dI) vwCl [(a 75, .inr (8, [.ref (a 76), .ref (a 77), .ref (a 78), .ref (a 79), .ref (a 80), .ref (a 81), .ref (a 82), .ref (a 83), .ref (a 84), .ref (a 85), .ref (a 86), .ref (a 87), .int 0, .int 0, .int 0, .int 0, .int 0])), (a 81, .inl ((k 81), 7, .inl (fun _ => 0))), (a 82, .inl ((k 82), 7, .inl (fun _ => 0))), (a 83, .inl ((k 83), 7, .inl (fun _ => 0))), (a 84, .inl ((k 84), 7, .inl (fun _ => 0)))] s.heap := hP
  have hl := lv_entry ([.ref (a 75), .int p0, .int p1, .int p2, .int p3]) (n := 5) (Nat.le_of_ble_eq_true rfl)
  rw [lg_entry_eq]
  generalize (lg_sl ([.ref (a 75), .int p0, .int p1, .int p2, .int p3]) ++ List.replicate (5 - (lg_sl ([.ref (a 75), .int p0, .int p1, .int p2, .int p3])).length) Slot.unset).toArray = ls at hl ⊢
  have hl : lv_has ls 5 [(0, .ref (a 75)), (1, .int p0), (2, .int p1), (3, .int p2), (4, .int p3)] := hl
  refine lv_aload_n hx hb dX5_addJob_0 rfl (lv_at hl 0 rfl) ?_
  refine va_get (D := (dC, dI)) (ci := 8) (v := .ref (a 81)) (C := RX5) (T := TX5) (N := 17) hx hb hts bF_X5 hown hK hP 0 rfl rfl 5 (by decide) (ht_at hts 0 rfl) (fun _ h9 => h9) rfl dX5_addJob_1 ?_
  refine lv_aload_n hx hb dX5_addJob_4 rfl (lv_at hl 0 rfl) ?_
  refine va_get (D := (dC, dI)) (ci := 8) (v := .int 0) (C := RX5) (T := TX5) (N := 17) hx hb hts bF_X5 hown hK hP 0 rfl rfl 15 (by decide) (ht_at hts 1 rfl) (fun _ h9 => h9) rfl dX5_addJob_5 ?_
  refine lv_iload_n hx hb dX5_addJob_8 rfl (lv_at hl 1 rfl) ?_
  refine va_iast hx hb hK hP hD hS 1 0 rfl rfl (by unfold vp_in; decide) dX5_addJob_9 (fun H locs hP hD hS => ?_)
  have hP : va_P (dC, dI) vwCl [(a 75, .inr (8, [.ref (a 76), .ref (a 77), .ref (a 78), .ref (a 79), .ref (a 80), .ref (a 81), .ref (a 82), .ref (a 83), .ref (a 84), .ref (a 85), .ref (a 86), .ref (a 87), .int 0, .int 0, .int 0, .int 0, .int 0])), (a 81, .inl ((k 81), 7, .inl (upd (fun _ => 0) (0 : Int32).toNatClampNeg p0))), (a 82, .inl ((k 82), 7, .inl (fun _ => 0))), (a 83, .inl ((k 83), 7, .inl (fun _ => 0))), (a 84, .inl ((k 84), 7, .inl (fun _ => 0)))] H := hP
  have hD : va_D A [(a 75, .inr (8, [.ref (a 76), .ref (a 77), .ref (a 78), .ref (a 79), .ref (a 80), .ref (a 81), .ref (a 82), .ref (a 83), .ref (a 84), .ref (a 85), .ref (a 86), .ref (a 87), .int 0, .int 0, .int 0, .int 0, .int 0])), (a 81, .inl ((k 81), 7, .inl (upd (fun _ => 0) (0 : Int32).toNatClampNeg p0))), (a 82, .inl ((k 82), 7, .inl (fun _ => 0))), (a 83, .inl ((k 83), 7, .inl (fun _ => 0))), (a 84, .inl ((k 84), 7, .inl (fun _ => 0)))] := hD
  refine lv_aload_n hx hb dX5_addJob_10 rfl (lv_at hl 0 rfl) ?_
  refine va_get (D := (dC, dI)) (ci := 8) (v := .ref (a 82)) (C := RX5) (T := TX5) (N := 17) hx hb hts bF_X5 hown hK hP 0 rfl rfl 6 (by decide) (ht_at hts 2 rfl) (fun _ h9 => h9) rfl dX5_addJob_11 ?_
  refine lv_aload_n hx hb dX5_addJob_14 rfl (lv_at hl 0 rfl) ?_
  refine va_get (D := (dC, dI)) (ci := 8) (v := .int 0) (C := RX5) (T := TX5) (N := 17) hx hb hts bF_X5 hown hK hP 0 rfl rfl 15 (by decide) (ht_at hts 1 rfl) (fun _ h9 => h9) rfl dX5_addJob_15 ?_
  refine lv_iload_n hx hb dX5_addJob_18 rfl (lv_at hl 2 rfl) ?_
  refine va_iast hx hb hK hP hD hS 2 1 rfl rfl (by unfold vp_in; decide) dX5_addJob_19 (fun H locs hP hD hS => ?_)
  have hP : va_P (dC, dI) vwCl [(a 75, .inr (8, [.ref (a 76), .ref (a 77), .ref (a 78), .ref (a 79), .ref (a 80), .ref (a 81), .ref (a 82), .ref (a 83), .ref (a 84), .ref (a 85), .ref (a 86), .ref (a 87), .int 0, .int 0, .int 0, .int 0, .int 0])), (a 81, .inl ((k 81), 7, .inl (upd (fun _ => 0) (0 : Int32).toNatClampNeg p0))), (a 82, .inl ((k 82), 7, .inl (upd (fun _ => 0) (0 : Int32).toNatClampNeg p1))), (a 83, .inl ((k 83), 7, .inl (fun _ => 0))), (a 84, .inl ((k 84), 7, .inl (fun _ => 0)))] H := hP
  have hD : va_D A [(a 75, .inr (8, [.ref (a 76), .ref (a 77), .ref (a 78), .ref (a 79), .ref (a 80), .ref (a 81), .ref (a 82), .ref (a 83), .ref (a 84), .ref (a 85), .ref (a 86), .ref (a 87), .int 0, .int 0, .int 0, .int 0, .int 0])), (a 81, .inl ((k 81), 7, .inl (upd (fun _ => 0) (0 : Int32).toNatClampNeg p0))), (a 82, .inl ((k 82), 7, .inl (upd (fun _ => 0) (0 : Int32).toNatClampNeg p1))), (a 83, .inl ((k 83), 7, .inl (fun _ => 0))), (a 84, .inl ((k 84), 7, .inl (fun _ => 0)))] := hD
  refine lv_aload_n hx hb dX5_addJob_20 rfl (lv_at hl 0 rfl) ?_
  refine va_get (D := (dC, dI)) (ci := 8) (v := .ref (a 83)) (C := RX5) (T := TX5) (N := 17) hx hb hts bF_X5 hown hK hP 0 rfl rfl 7 (by decide) (ht_at hts 3 rfl) (fun _ h9 => h9) rfl dX5_addJob_21 ?_
  refine lv_aload_n hx hb dX5_addJob_24 rfl (lv_at hl 0 rfl) ?_
  refine va_get (D := (dC, dI)) (ci := 8) (v := .int 0) (C := RX5) (T := TX5) (N := 17) hx hb hts bF_X5 hown hK hP 0 rfl rfl 15 (by decide) (ht_at hts 1 rfl) (fun _ h9 => h9) rfl dX5_addJob_25 ?_
  refine lv_iload_n hx hb dX5_addJob_28 rfl (lv_at hl 3 rfl) ?_
  refine va_iast hx hb hK hP hD hS 3 2 rfl rfl (by unfold vp_in; decide) dX5_addJob_29 (fun H locs hP hD hS => ?_)
  have hP : va_P (dC, dI) vwCl [(a 75, .inr (8, [.ref (a 76), .ref (a 77), .ref (a 78), .ref (a 79), .ref (a 80), .ref (a 81), .ref (a 82), .ref (a 83), .ref (a 84), .ref (a 85), .ref (a 86), .ref (a 87), .int 0, .int 0, .int 0, .int 0, .int 0])), (a 81, .inl ((k 81), 7, .inl (upd (fun _ => 0) (0 : Int32).toNatClampNeg p0))), (a 82, .inl ((k 82), 7, .inl (upd (fun _ => 0) (0 : Int32).toNatClampNeg p1))), (a 83, .inl ((k 83), 7, .inl (upd (fun _ => 0) (0 : Int32).toNatClampNeg p2))), (a 84, .inl ((k 84), 7, .inl (fun _ => 0)))] H := hP
  have hD : va_D A [(a 75, .inr (8, [.ref (a 76), .ref (a 77), .ref (a 78), .ref (a 79), .ref (a 80), .ref (a 81), .ref (a 82), .ref (a 83), .ref (a 84), .ref (a 85), .ref (a 86), .ref (a 87), .int 0, .int 0, .int 0, .int 0, .int 0])), (a 81, .inl ((k 81), 7, .inl (upd (fun _ => 0) (0 : Int32).toNatClampNeg p0))), (a 82, .inl ((k 82), 7, .inl (upd (fun _ => 0) (0 : Int32).toNatClampNeg p1))), (a 83, .inl ((k 83), 7, .inl (upd (fun _ => 0) (0 : Int32).toNatClampNeg p2))), (a 84, .inl ((k 84), 7, .inl (fun _ => 0)))] := hD
  refine lv_aload_n hx hb dX5_addJob_30 rfl (lv_at hl 0 rfl) ?_
  refine va_get (D := (dC, dI)) (ci := 8) (v := .ref (a 84)) (C := RX5) (T := TX5) (N := 17) hx hb hts bF_X5 hown hK hP 0 rfl rfl 8 (by decide) (ht_at hts 4 rfl) (fun _ h9 => h9) rfl dX5_addJob_31 ?_
  refine lv_aload_n hx hb dX5_addJob_34 rfl (lv_at hl 0 rfl) ?_
  refine va_get (D := (dC, dI)) (ci := 8) (v := .int 0) (C := RX5) (T := TX5) (N := 17) hx hb hts bF_X5 hown hK hP 0 rfl rfl 15 (by decide) (ht_at hts 1 rfl) (fun _ h9 => h9) rfl dX5_addJob_35 ?_
  refine lv_iload hx hb dX5_addJob_38 (lv_at hl 4 rfl) ?_
  refine va_iast hx hb hK hP hD hS 4 3 rfl rfl (by unfold vp_in; decide) dX5_addJob_40 (fun H locs hP hD hS => ?_)
  have hP : va_P (dC, dI) vwCl [(a 75, .inr (8, [.ref (a 76), .ref (a 77), .ref (a 78), .ref (a 79), .ref (a 80), .ref (a 81), .ref (a 82), .ref (a 83), .ref (a 84), .ref (a 85), .ref (a 86), .ref (a 87), .int 0, .int 0, .int 0, .int 0, .int 0])), (a 81, .inl ((k 81), 7, .inl (upd (fun _ => 0) (0 : Int32).toNatClampNeg p0))), (a 82, .inl ((k 82), 7, .inl (upd (fun _ => 0) (0 : Int32).toNatClampNeg p1))), (a 83, .inl ((k 83), 7, .inl (upd (fun _ => 0) (0 : Int32).toNatClampNeg p2))), (a 84, .inl ((k 84), 7, .inl (upd (fun _ => 0) (0 : Int32).toNatClampNeg p3)))] H := hP
  have hD : va_D A [(a 75, .inr (8, [.ref (a 76), .ref (a 77), .ref (a 78), .ref (a 79), .ref (a 80), .ref (a 81), .ref (a 82), .ref (a 83), .ref (a 84), .ref (a 85), .ref (a 86), .ref (a 87), .int 0, .int 0, .int 0, .int 0, .int 0])), (a 81, .inl ((k 81), 7, .inl (upd (fun _ => 0) (0 : Int32).toNatClampNeg p0))), (a 82, .inl ((k 82), 7, .inl (upd (fun _ => 0) (0 : Int32).toNatClampNeg p1))), (a 83, .inl ((k 83), 7, .inl (upd (fun _ => 0) (0 : Int32).toNatClampNeg p2))), (a 84, .inl ((k 84), 7, .inl (upd (fun _ => 0) (0 : Int32).toNatClampNeg p3)))] := hD
  refine lv_aload_n hx hb dX5_addJob_41 rfl (lv_at hl 0 rfl) ?_
  refine lv_dup hx hb dX5_addJob_42 rfl ?_
  refine va_get (D := (dC, dI)) (ci := 8) (v := .int 0) (C := RX5) (T := TX5) (N := 17) hx hb hts bF_X5 hown hK hP 0 rfl rfl 15 (by decide) (ht_at hts 1 rfl) (fun _ h9 => h9) rfl dX5_addJob_43 ?_
  refine lv_iconst (v := 1) hx hb dX5_addJob_46 (by decide) ?_
  refine lv_iadd hx hb dX5_addJob_47 ?_
  refine lv_topi (fun x1 ex1 => ?_)
  obtain rfl : x1 = 1 := ex1.trans (by decide)
  refine va_put (D := (dC, dI)) (ci := 8) (v := .int 1) (ty := .int) (C := RX5) (T := TX5) (N := 17) hx hb hts bF_X5 tyX5 tyX5_ok nmX5 hown hK hP hD hS 0 rfl rfl 15 (by decide) (ht_at hts 1 rfl) (fun _ h9 => h9) rfl (by decide +kernel) rfl rfl (Nat.le_of_ble_eq_true rfl) dX5_addJob_48 (fun H locs hP hD hS => ?_)
  have hP : va_P (dC, dI) vwCl [(a 75, .inr (8, [.ref (a 76), .ref (a 77), .ref (a 78), .ref (a 79), .ref (a 80), .ref (a 81), .ref (a 82), .ref (a 83), .ref (a 84), .ref (a 85), .ref (a 86), .ref (a 87), .int 0, .int 0, .int 0, .int 1, .int 0])), (a 81, .inl ((k 81), 7, .inl (upd (fun _ => 0) (0 : Int32).toNatClampNeg p0))), (a 82, .inl ((k 82), 7, .inl (upd (fun _ => 0) (0 : Int32).toNatClampNeg p1))), (a 83, .inl ((k 83), 7, .inl (upd (fun _ => 0) (0 : Int32).toNatClampNeg p2))), (a 84, .inl ((k 84), 7, .inl (upd (fun _ => 0) (0 : Int32).toNatClampNeg p3)))] H := hP
  have hD : va_D A [(a 75, .inr (8, [.ref (a 76), .ref (a 77), .ref (a 78), .ref (a 79), .ref (a 80), .ref (a 81), .ref (a 82), .ref (a 83), .ref (a 84), .ref (a 85), .ref (a 86), .ref (a 87), .int 0, .int 0, .int 0, .int 1, .int 0])), (a 81, .inl ((k 81), 7, .inl (upd (fun _ => 0) (0 : Int32).toNatClampNeg p0))), (a 82, .inl ((k 82), 7, .inl (upd (fun _ => 0) (0 : Int32).toNatClampNeg p1))), (a 83, .inl ((k 83), 7, .inl (upd (fun _ => 0) (0 : Int32).toNatClampNeg p2))), (a 84, .inl ((k 84), 7, .inl (upd (fun _ => 0) (0 : Int32).toNatClampNeg p3)))] := hD
  refine lv_aload_n hx hb dX5_addJob_51 rfl (lv_at hl 0 rfl) ?_
  refine va_get (D := (dC, dI)) (ci := 8) (v := .int 1) (C := RX5) (T := TX5) (N := 17) hx hb hts bF_X5 hown hK hP 0 rfl rfl 15 (by decide) (ht_at hts 1 rfl) (fun _ h9 => h9) rfl dX5_addJob_52 ?_
  exact W.iret (v := 1) hx hb hr (fun t ht hW => ⟨⟨1, (), rfl, (by rfl), trivial⟩, hS.F ht⟩) hS.2.2 dX5_addJob_55
