def w_m_isAt : List Cond := .code yX12_isAt cX12_isAt 3 (some .boolean) :: ([.fieldLink RX12 335 "SeaLandModel" "point" "I", .fieldLink RX12 338 "SeaLandModel" "end" "I"] ++ bs)
set_option maxHeartbeats 4000000 in
set_option maxRecDepth 100000 in
theorem m_isAt (l : Launch) (dC : Nat → ClassId) (dI : Nat → Nat → Nat) (h0 : Nat) (q : Nat → Nat) (cm : Nat → ClassId) (a b : Int32) (sz : Nat) : Met l yX12_isAt w_m_isAt ({ frames := 0, cells := 0, slots := 0, locals := 0 }) (va_Pc [.ref h0, .int a, .int b] (fun U => U.heap.size = sz ∧ va_P (dC, dI) vwCl [(h0, .inr (15, mF q 0))] U.heap ∧ va_K (dC, dI) vwCl [] U ∧ va_D (fun _ => True) [(h0, .inr (15, mF q 0))])) (va_Qi (fun (r : Int32) (u : Unit) => r = 0) (fun (_ : Unit) (t : State) => va_P (dC, dI) vwCl [(h0, .inr (15, mF q 0))] t.heap ∧ va_D (va_A [(h0, .inr (15, mF q 0))] sz) [(h0, .inr (15, mF q 0))]) (va_A [(h0, .inr (15, mF q 0))] sz)) 0 0 (va_A [(h0, .inr (15, mF q 0))] sz) := by
  refine Met.ofW (cc := cX12_isAt) (maxL := 3) (ret := (some .boolean)) (by decide) rfl ?_
  intro p e s m args below meth c s₁ B hml hv
  obtain ⟨rfl, hsz, hP, hK, hD0⟩ := hv
  have hx := B.exec
  have hb := B.bytes
  have hr := B.returns
  have hts := atoms_spec (ws := w_m_isAt) B.pre
  have hown : s.vm.findClass RX12 = some m.cls := findClass_of_methodNamed B.named
  have hlocks := B.notSynchronized
  subst hsz
  have hD := hD0.self (sz := s.heap.size)
  generalize hAe : va_A [(h0, .inr (15, mF q 0))] s.heap.size = A at hD ⊢
  have hA : ∀ q : Nat, s.heap.size ≤ q → A q := fun q h => by rw [← hAe]; exact Or.inr h
  have hS : va_S A s.heap s.heap [] := va_S.rf
  have hP : va_P (dC, dI) vwCl [(h0, .inr (15, mF q 0))] s.heap := hP
  have hl := lv_entry ([.ref h0, .int a, .int b]) (n := 3) (Nat.le_of_ble_eq_true rfl)
  rw [lg_entry_eq]
  generalize (lg_sl ([.ref h0, .int a, .int b]) ++ List.replicate (3 - (lg_sl ([.ref h0, .int a, .int b])).length) Slot.unset).toArray = ls at hl ⊢
  have hl : lv_has ls 3 [(0, .ref h0), (1, .int a), (2, .int b)] := hl
  refine lv_aload_n hx hb dX12_isAt_0 rfl (lv_at hl 0 rfl) ?_
  refine va_get (D := (dC, dI)) (ci := 15) (v := .int 0) (C := RX12) (T := TX12) (N := 78) hx hb hts bF_X12 hown hK hP 0 rfl rfl 12 (by decide) (ht_at hts 0 rfl) (fun _ h9 => h9) rfl dX12_isAt_1 ?_
  refine lv_aload_n hx hb dX12_isAt_4 rfl (lv_at hl 0 rfl) ?_
  refine va_get (D := (dC, dI)) (ci := 15) (v := .int 0) (C := RX12) (T := TX12) (N := 78) hx hb hts bF_X12 hown hK hP 0 rfl rfl 13 (by decide) (ht_at hts 1 rfl) (fun _ h9 => h9) rfl dX12_isAt_5 ?_
  refine lv_icmp_ge (tgt := 41) hx hb dX12_isAt_8 (by decide) (fun c1 => ?_) (fun c1 => absurd c1 (by decide))
  refine lv_iconst (v := 0) hx hb dX12_isAt_41 (by decide) ?_
  exact W.zret (v := 0) hx hb hr (by decide) (fun t ht hW => ⟨⟨0, (), rfl, (by rfl), by rw [ht]; exact hP.sub (ws' := [(h0, .inr (15, mF q 0))]) [0] rfl, hD.sub (ws' := [(h0, .inr (15, mF q 0))]) [0] (by decide) rfl⟩, hS.F ht⟩) hS.2.2 dX12_isAt_42
def w_m_blanks : List Cond := .code yX12_blanks cX12_blanks 1 none :: ([.code yX12_isAt cX12_isAt 3 (some .boolean), .fieldLink RX12 335 "SeaLandModel" "point" "I", .fieldLink RX12 338 "SeaLandModel" "end" "I", .methodLink RX12 341 yX12_isAt, .instanceMethod yX12_isAt, .selects RX12 yX12_isAt yX12_isAt, .initialized RX12, .fieldLink RX12 345 "SeaLandModel" "begin" "I"] ++ bs)
set_option maxHeartbeats 4000000 in
set_option maxRecDepth 100000 in
theorem m_blanks (l : Launch) (dC : Nat → ClassId) (dI : Nat → Nat → Nat) (h0 : Nat) (q : Nat → Nat) (cm : Nat → ClassId)  (sz : Nat) : Met l yX12_blanks w_m_blanks ({ frames := 1, cells := 0, slots := 0, locals := 22 }) (va_Pc [.ref h0] (fun U => U.heap.size = sz ∧ va_P (dC, dI) vwCl [(h0, .inr (15, mF q 0))] U.heap ∧ va_K (dC, dI) vwCl [] U ∧ va_D (fun _ => True) [(h0, .inr (15, mF q 0))])) (va_Qv (fun (u : Unit) => True) (fun (_ : Unit) (t : State) => va_P (dC, dI) vwCl [(h0, .inr (15, mF q 0))] t.heap ∧ va_D (va_A [(h0, .inr (15, mF q 0))] sz) [(h0, .inr (15, mF q 0))]) (va_A [(h0, .inr (15, mF q 0))] sz)) 0 0 (va_A [(h0, .inr (15, mF q 0))] sz) := by
  refine Met.ofW (cc := cX12_blanks) (maxL := 1) (ret := none) (by decide) rfl ?_
  intro p e s m args below meth c s₁ B hml hv
  obtain ⟨rfl, hsz, hP, hK, hD0⟩ := hv
  have hx := B.exec
  have hb := B.bytes
  have hr := B.returns
  have hts := atoms_spec (ws := w_m_blanks) B.pre
  have hown : s.vm.findClass RX12 = some m.cls := findClass_of_methodNamed B.named
  have hlocks := B.notSynchronized
  subst hsz
  have hD := hD0.self (sz := s.heap.size)
  generalize hAe : va_A [(h0, .inr (15, mF q 0))] s.heap.size = A at hD ⊢
  have hA : ∀ q : Nat, s.heap.size ≤ q → A q := fun q h => by rw [← hAe]; exact Or.inr h
  have hS : va_S A s.heap s.heap [] := va_S.rf
  have hP : va_P (dC, dI) vwCl [(h0, .inr (15, mF q 0))] s.heap := hP
  have hl := lv_entry ([.ref h0]) (n := 1) (Nat.le_of_ble_eq_true rfl)
  rw [lg_entry_eq]
  generalize (lg_sl ([.ref h0]) ++ List.replicate (1 - (lg_sl ([.ref h0])).length) Slot.unset).toArray = ls at hl ⊢
  have hl : lv_has ls 1 [(0, .ref h0)] := hl
  refine lv_aload_n hx hb dX12_blanks_0 rfl (lv_at hl 0 rfl) ?_
  refine lv_bipush (v := 32) hx hb dX12_blanks_1 (by decide) ?_
  refine lv_bipush (v := 32) hx hb dX12_blanks_3 (by decide) ?_
  have hPc := hP.sub (ws' := [(h0, .inr (15, mF q 0))]) [0] rfl
  have hDc := hD.sub (ws' := [(h0, .inr (15, mF q 0))]) [0] (by decide) rfl
  have hKc := hK.sub (tys' := []) [] rfl
  have hFc := va_free (wc := [(h0, .inr (15, mF q 0))]) hD hS hA [0] rfl
  refine va_calli (va_runV (As := [.int 32, .int 32]) (rest := []) ⟨hx, hb, hml, hown, hts⟩ (m_isAt l dC dI h0 q cm 32 32 s.heap.size ) (cwV 2 hts (goodIn_app (goodIn_r _ [4, 5, 6, 7] (by decide +kernel) (by decide +kernel)) (goodIn_ca (goodIn_r _ [1, 2, 3] (by decide +kernel) (by decide +kernel)) (bs_in _ _))) rfl rfl rfl (by decide +kernel) ⟨(Nat.le_of_ble_eq_true rfl), (Nat.le_of_ble_eq_true rfl)⟩) ⟨fun a U g mk q => by obtain ⟨q0, q1, qP, qK, qD⟩ := q; exact ⟨q0, q1, qP, va_K.moved (u := U) (U := U.calling g mk a) (Vm.Alike.refl U.vm) qK, qD⟩, va_recv hKc hPc (ci := 15) (q0 := 0) rfl rfl, fun U hU hW => ⟨rfl, by rw [hU], by rw [hU]; exact hPc, va_K.moved hW.alike hKc, hDc.weaken (fun _ _ _ _ => trivial)⟩⟩ rfl rfl hl.1 rfl (lv_room (Nat.le_of_ble_eq_true rfl)) dX12_blanks_5 ⟨(Nat.le_of_ble_eq_true rfl), (Nat.le_of_ble_eq_true rfl)⟩) hS (fun q _ h => hFc q h) hFc (fun r2 u t H1 locs ht hvm hw3 hB hz1 hk1 hS => ?_)
  obtain ⟨hP1, hD1⟩ := hB
  rw [ht] at hP1
  obtain ⟨hP, hD⟩ := va_join (wr := []) (w1 := [(h0, .inr (15, mF q 0))]) hP hD [0] [] rfl rfl (by decide) (by decide) hk1 hFc hP1 hD1
  generalize H1 = H at hP hS ⊢
  have hP : va_P (dC, dI) vwCl [(h0, .inr (15, mF q 0))] H := hP
  have hD : va_D A [(h0, .inr (15, mF q 0))] := hD
  try dsimp only at hw3
  obtain rfl : 0 = r2 := (hw3).symm
  refine lv_if_eq (tgt := 24) hx hb dX12_blanks_8 (by decide) (fun c4 => ?_) (fun c4 => absurd c4 (by decide))
  refine lv_aload_n hx hb dX12_blanks_24 rfl (lv_at hl 0 rfl) ?_
  refine lv_aload_n hx hb dX12_blanks_25 rfl (lv_at hl 0 rfl) ?_
  refine va_get (D := (dC, dI)) (ci := 15) (v := .int 0) (C := RX12) (T := TX12) (N := 78) hx hb hts bF_X12 hown hK hP 0 rfl rfl 12 (by decide) (ht_at hts 1 rfl) (fun _ h9 => h9) rfl dX12_blanks_26 ?_
  refine va_put (D := (dC, dI)) (ci := 15) (v := .int 0) (ty := .int) (C := RX12) (T := TX12) (N := 78) hx hb hts bF_X12 tyX12 tyX12_ok nmX12 hown hK hP hD hS 0 rfl rfl 14 (by decide) (ht_at hts 7 rfl) (fun _ h9 => h9) rfl (by decide +kernel) rfl rfl (Nat.le_of_ble_eq_true rfl) dX12_blanks_29 (fun H locs hP hD hS => ?_)
  have hP : va_P (dC, dI) vwCl [(h0, .inr (15, mF q 0))] H := hP
  have hD : va_D A [(h0, .inr (15, mF q 0))] := hD
  exact W.vret hx hb hr (fun t ht hW => ⟨⟨(), rfl, (by trivial), by rw [ht]; exact hP.sub (ws' := [(h0, .inr (15, mF q 0))]) [0] rfl, hD.sub (ws' := [(h0, .inr (15, mF q 0))]) [0] (by decide) rfl⟩, hS.F ht⟩) hS.2.2 dX12_blanks_32
def w_m_readLaw : List Cond := .code yX12_readLaw cX12_readLaw 2 (some .int) :: ([.fieldLink RX12 332 "SeaLandModel" "taped" "I", .fieldLink RX12 338 "SeaLandModel" "end" "I", .fieldLink RX12 335 "SeaLandModel" "point" "I", .fieldLink RX12 367 "SeaLandModel" "steps" "I", .code yX12_blanks cX12_blanks 1 none, .code yX12_isAt cX12_isAt 3 (some .boolean), .methodLink RX12 341 yX12_isAt, .instanceMethod yX12_isAt, .selects RX12 yX12_isAt yX12_isAt, .initialized RX12, .fieldLink RX12 345 "SeaLandModel" "begin" "I", .methodLink RX12 348 yX12_blanks, .instanceMethod yX12_blanks, .selects RX12 yX12_blanks yX12_blanks] ++ bs)
set_option maxHeartbeats 4000000 in
set_option maxRecDepth 100000 in
theorem m_readLaw (l : Launch) (dC : Nat → ClassId) (dI : Nat → Nat → Nat) (h0 : Nat) (q : Nat → Nat) (cm : Nat → ClassId)  (sz : Nat) : Met l yX12_readLaw w_m_readLaw ({ frames := 2, cells := 0, slots := 0, locals := 42 }) (va_Pc [.ref h0] (fun U => U.heap.size = sz ∧ va_P (dC, dI) vwCl [(h0, .inr (15, mF q 0))] U.heap ∧ va_K (dC, dI) vwCl [] U ∧ va_D (fun _ => True) [(h0, .inr (15, mF q 0))])) (va_Qi (fun (r : Int32) (u : Unit) => r = 0) (fun (_ : Unit) (t : State) => va_P (dC, dI) vwCl [(h0, .inr (15, mF q 0))] t.heap ∧ va_D (va_A [(h0, .inr (15, mF q 0))] sz) [(h0, .inr (15, mF q 0))]) (va_A [(h0, .inr (15, mF q 0))] sz)) 0 0 (va_A [(h0, .inr (15, mF q 0))] sz) := by
  refine Met.ofW (cc := cX12_readLaw) (maxL := 2) (ret := (some .int)) (by decide) rfl ?_
  intro p e s m args below meth c s₁ B hml hv
  obtain ⟨rfl, hsz, hP, hK, hD0⟩ := hv
  have hx := B.exec
  have hb := B.bytes
  have hr := B.returns
  have hts := atoms_spec (ws := w_m_readLaw) B.pre
  have hown : s.vm.findClass RX12 = some m.cls := findClass_of_methodNamed B.named
  have hlocks := B.notSynchronized
  subst hsz
  have hD := hD0.self (sz := s.heap.size)
  generalize hAe : va_A [(h0, .inr (15, mF q 0))] s.heap.size = A at hD ⊢
  have hA : ∀ q : Nat, s.heap.size ≤ q → A q := fun q h => by rw [← hAe]; exact Or.inr h
  have hS : va_S A s.heap s.heap [] := va_S.rf
  have hP : va_P (dC, dI) vwCl [(h0, .inr (15, mF q 0))] s.heap := hP
  have hl := lv_entry ([.ref h0]) (n := 2) (Nat.le_of_ble_eq_true rfl)
  rw [lg_entry_eq]
  generalize (lg_sl ([.ref h0]) ++ List.replicate (2 - (lg_sl ([.ref h0])).length) Slot.unset).toArray = ls at hl ⊢
  have hl : lv_has ls 2 [(0, .ref h0)] := hl
  refine lv_aload_n hx hb dX12_readLaw_0 rfl (lv_at hl 0 rfl) ?_
  refine lv_aload_n hx hb dX12_readLaw_1 rfl (lv_at hl 0 rfl) ?_
  refine va_get (D := (dC, dI)) (ci := 15) (v := .int 0) (C := RX12) (T := TX12) (N := 78) hx hb hts bF_X12 hown hK hP 0 rfl rfl 11 (by decide) (ht_at hts 0 rfl) (fun _ h9 => h9) rfl dX12_readLaw_2 ?_
  refine va_put (D := (dC, dI)) (ci := 15) (v := .int 0) (ty := .int) (C := RX12) (T := TX12) (N := 78) hx hb hts bF_X12 tyX12 tyX12_ok nmX12 hown hK hP hD hS 0 rfl rfl 13 (by decide) (ht_at hts 1 rfl) (fun _ h9 => h9) rfl (by decide +kernel) rfl rfl (Nat.le_of_ble_eq_true rfl) dX12_readLaw_5 (fun H locs hP hD hS => ?_)
  have hP : va_P (dC, dI) vwCl [(h0, .inr (15, mF q 0))] H := hP
  have hD : va_D A [(h0, .inr (15, mF q 0))] := hD
  refine lv_aload_n hx hb dX12_readLaw_8 rfl (lv_at hl 0 rfl) ?_
  refine lv_iconst (v := 0) hx hb dX12_readLaw_9 (by decide) ?_
  refine va_put (D := (dC, dI)) (ci := 15) (v := .int 0) (ty := .int) (C := RX12) (T := TX12) (N := 78) hx hb hts bF_X12 tyX12 tyX12_ok nmX12 hown hK hP hD hS 0 rfl rfl 11 (by decide) (ht_at hts 0 rfl) (fun _ h9 => h9) rfl (by decide +kernel) rfl rfl (Nat.le_of_ble_eq_true rfl) dX12_readLaw_10 (fun H locs hP hD hS => ?_)
  have hP : va_P (dC, dI) vwCl [(h0, .inr (15, mF q 0))] H := hP
  have hD : va_D A [(h0, .inr (15, mF q 0))] := hD
  refine lv_aload_n hx hb dX12_readLaw_13 rfl (lv_at hl 0 rfl) ?_
  refine lv_iconst (v := 0) hx hb dX12_readLaw_14 (by decide) ?_
  refine va_put (D := (dC, dI)) (ci := 15) (v := .int 0) (ty := .int) (C := RX12) (T := TX12) (N := 78) hx hb hts bF_X12 tyX12 tyX12_ok nmX12 hown hK hP hD hS 0 rfl rfl 12 (by decide) (ht_at hts 2 rfl) (fun _ h9 => h9) rfl (by decide +kernel) rfl rfl (Nat.le_of_ble_eq_true rfl) dX12_readLaw_15 (fun H locs hP hD hS => ?_)
  have hP : va_P (dC, dI) vwCl [(h0, .inr (15, mF q 0))] H := hP
  have hD : va_D A [(h0, .inr (15, mF q 0))] := hD
  refine lv_aload_n hx hb dX12_readLaw_18 rfl (lv_at hl 0 rfl) ?_
  refine lv_iconst (v := 0) hx hb dX12_readLaw_19 (by decide) ?_
  refine va_put (D := (dC, dI)) (ci := 15) (v := .int 0) (ty := .int) (C := RX12) (T := TX12) (N := 78) hx hb hts bF_X12 tyX12 tyX12_ok nmX12 hown hK hP hD hS 0 rfl rfl 28 (by decide) (ht_at hts 3 rfl) (fun _ h9 => h9) rfl (by decide +kernel) rfl rfl (Nat.le_of_ble_eq_true rfl) dX12_readLaw_20 (fun H locs hP hD hS => ?_)
  have hP : va_P (dC, dI) vwCl [(h0, .inr (15, mF q 0))] H := hP
  have hD : va_D A [(h0, .inr (15, mF q 0))] := hD
  refine lv_aload_n hx hb dX12_readLaw_23 rfl (lv_at hl 0 rfl) ?_
  have hPc := hP.sub (ws' := [(h0, .inr (15, mF q 0))]) [0] rfl
  have hDc := hD.sub (ws' := [(h0, .inr (15, mF q 0))]) [0] (by decide) rfl
  have hKc := hK.sub (tys' := []) [] rfl
  have hFc := va_free (wc := [(h0, .inr (15, mF q 0))]) hD hS hA [0] rfl
  refine va_callv (va_runV (As := []) (rest := []) ⟨hx, hb, hml, hown, hts⟩ (m_blanks l dC dI h0 q cm H.size ) (cwV 0 hts (goodIn_app (goodIn_r _ [12, 13, 14, 10] (by decide +kernel) (by decide +kernel)) (goodIn_ca (goodIn_r _ [5, 6, 3, 2, 7, 8, 9, 10, 11] (by decide +kernel) (by decide +kernel)) (bs_in _ _))) rfl rfl rfl (by decide +kernel) ⟨(Nat.le_of_ble_eq_true rfl), (Nat.le_of_ble_eq_true rfl)⟩) ⟨fun a U g mk q => by obtain ⟨q0, q1, qP, qK, qD⟩ := q; exact ⟨q0, q1, qP, va_K.moved (u := U) (U := U.calling g mk a) (Vm.Alike.refl U.vm) qK, qD⟩, va_recv hKc hPc (ci := 15) (q0 := 0) rfl rfl, fun U hU hW => ⟨rfl, by rw [hU], by rw [hU]; exact hPc, va_K.moved hW.alike hKc, hDc.weaken (fun _ _ _ _ => trivial)⟩⟩ rfl rfl hl.1 rfl (lv_room (Nat.le_of_ble_eq_true rfl)) dX12_readLaw_24 ⟨(Nat.le_of_ble_eq_true rfl), (Nat.le_of_ble_eq_true rfl)⟩) hS (fun q _ h => hFc q h) hFc (fun u t H1 locs ht hvm hw3 hB hz1 hk1 hS => ?_)
  obtain ⟨hP1, hD1⟩ := hB
  rw [ht] at hP1
  obtain ⟨hP, hD⟩ := va_join (wr := []) (w1 := [(h0, .inr (15, mF q 0))]) hP hD [0] [] rfl rfl (by decide) (by decide) hk1 hFc hP1 hD1
  generalize H1 = H at hP hS ⊢
  have hP : va_P (dC, dI) vwCl [(h0, .inr (15, mF q 0))] H := hP
  have hD : va_D A [(h0, .inr (15, mF q 0))] := hD
  try dsimp only at hw3
  refine lv_aload_n hx hb dX12_readLaw_27 rfl (lv_at hl 0 rfl) ?_
  refine va_get (D := (dC, dI)) (ci := 15) (v := .int 0) (C := RX12) (T := TX12) (N := 78) hx hb hts bF_X12 hown hK hP 0 rfl rfl 12 (by decide) (ht_at hts 2 rfl) (fun _ h9 => h9) rfl dX12_readLaw_28 ?_
  refine lv_aload_n hx hb dX12_readLaw_31 rfl (lv_at hl 0 rfl) ?_
  refine va_get (D := (dC, dI)) (ci := 15) (v := .int 0) (C := RX12) (T := TX12) (N := 78) hx hb hts bF_X12 hown hK hP 0 rfl rfl 13 (by decide) (ht_at hts 1 rfl) (fun _ h9 => h9) rfl dX12_readLaw_32 ?_
  refine lv_icmp_ne (tgt := 40) hx hb dX12_readLaw_35 (by decide) (fun c4 => absurd c4 (by decide)) (fun c4 => ?_)
  refine lv_iconst (v := 0) hx hb dX12_readLaw_38 (by decide) ?_
  exact W.iret (v := 0) hx hb hr (fun t ht hW => ⟨⟨0, (), rfl, (by rfl), by rw [ht]; exact hP.sub (ws' := [(h0, .inr (15, mF q 0))]) [0] rfl, hD.sub (ws' := [(h0, .inr (15, mF q 0))]) [0] (by decide) rfl⟩, hS.F ht⟩) hS.2.2 dX12_readLaw_39
def w_m_copies0 : List Cond := .code yX12_copies cX12_copies 4 none :: ([.fieldLink RX12 42 "SeaLandModel" "lines" "[I", .fieldLink RX12 66 "SeaLandModel" "step" "[I", .fieldLink RX12 69 "SeaLandModel" "than" "[I", .fieldLink RX12 45 "SeaLandModel" "sort" "[I", .fieldLink RX12 48 "SeaLandModel" "told" "[I", .fieldLink RX12 51 "SeaLandModel" "winter" "[I", .fieldLink RX12 54 "SeaLandModel" "from" "[I", .fieldLink RX12 57 "SeaLandModel" "to" "[I", .fieldLink RX12 60 "SeaLandModel" "begins" "[I", .fieldLink RX12 63 "SeaLandModel" "ends" "[I"] ++ bs)
set_option maxHeartbeats 4000000 in
set_option maxRecDepth 100000 in
theorem m_copies0 (l : Launch) (dC : Nat → ClassId) (dI : Nat → Nat → Nat) (h0 : Nat) (q : Nat → Nat) (cm : Nat → ClassId) (fl : Nat → Int32) (sz : Nat) : Met l yX12_copies w_m_copies0 ({ frames := 0, cells := 0, slots := 0, locals := 0 }) (va_Pc [.ref h0, .int 2, .int 0] (fun U => U.heap.size = sz ∧ va_P (dC, dI) vwCl [(h0, .inr (15, mF q 0)), (q 18, .inl ((cm 18), 3, .inl fl)), (q 19, .inl ((cm 19), 60, .inl (fun _ => 0))), (q 20, .inl ((cm 20), 60, .inl (fun _ => 0))), (q 21, .inl ((cm 21), 60, .inl (fun _ => 0))), (q 22, .inl ((cm 22), 60, .inl (fun _ => 0))), (q 23, .inl ((cm 23), 60, .inl (fun _ => 0))), (q 24, .inl ((cm 24), 60, .inl (fun _ => 0))), (q 25, .inl ((cm 25), 60, .inl (fun _ => 0))), (q 26, .inl ((cm 26), 1200, .inl (fun _ => 0))), (q 27, .inl ((cm 27), 1200, .inl (fun _ => 0)))] U.heap ∧ va_K (dC, dI) vwCl [((cm 18), .int), ((cm 19), .int), ((cm 20), .int), ((cm 21), .int), ((cm 22), .int), ((cm 23), .int), ((cm 24), .int), ((cm 25), .int), ((cm 26), .int), ((cm 27), .int)] U ∧ va_D (fun _ => True) [(h0, .inr (15, mF q 0)), (q 18, .inl ((cm 18), 3, .inl fl)), (q 19, .inl ((cm 19), 60, .inl (fun _ => 0))), (q 20, .inl ((cm 20), 60, .inl (fun _ => 0))), (q 21, .inl ((cm 21), 60, .inl (fun _ => 0))), (q 22, .inl ((cm 22), 60, .inl (fun _ => 0))), (q 23, .inl ((cm 23), 60, .inl (fun _ => 0))), (q 24, .inl ((cm 24), 60, .inl (fun _ => 0))), (q 25, .inl ((cm 25), 60, .inl (fun _ => 0))), (q 26, .inl ((cm 26), 1200, .inl (fun _ => 0))), (q 27, .inl ((cm 27), 1200, .inl (fun _ => 0)))])) (va_Qv (fun (u : Unit) => True) (fun (_ : Unit) (t : State) => va_P (dC, dI) vwCl [(h0, .inr (15, mF q 0))] t.heap ∧ va_D (va_A [(h0, .inr (15, mF q 0)), (q 18, .inl ((cm 18), 3, .inl fl)), (q 19, .inl ((cm 19), 60, .inl (fun _ => 0))), (q 20, .inl ((cm 20), 60, .inl (fun _ => 0))), (q 21, .inl ((cm 21), 60, .inl (fun _ => 0))), (q 22, .inl ((cm 22), 60, .inl (fun _ => 0))), (q 23, .inl ((cm 23), 60, .inl (fun _ => 0))), (q 24, .inl ((cm 24), 60, .inl (fun _ => 0))), (q 25, .inl ((cm 25), 60, .inl (fun _ => 0))), (q 26, .inl ((cm 26), 1200, .inl (fun _ => 0))), (q 27, .inl ((cm 27), 1200, .inl (fun _ => 0)))] sz) [(h0, .inr (15, mF q 0))]) (va_A [(h0, .inr (15, mF q 0)), (q 18, .inl ((cm 18), 3, .inl fl)), (q 19, .inl ((cm 19), 60, .inl (fun _ => 0))), (q 20, .inl ((cm 20), 60, .inl (fun _ => 0))), (q 21, .inl ((cm 21), 60, .inl (fun _ => 0))), (q 22, .inl ((cm 22), 60, .inl (fun _ => 0))), (q 23, .inl ((cm 23), 60, .inl (fun _ => 0))), (q 24, .inl ((cm 24), 60, .inl (fun _ => 0))), (q 25, .inl ((cm 25), 60, .inl (fun _ => 0))), (q 26, .inl ((cm 26), 1200, .inl (fun _ => 0))), (q 27, .inl ((cm 27), 1200, .inl (fun _ => 0)))] sz)) 0 0 (va_A [(h0, .inr (15, mF q 0)), (q 18, .inl ((cm 18), 3, .inl fl)), (q 19, .inl ((cm 19), 60, .inl (fun _ => 0))), (q 20, .inl ((cm 20), 60, .inl (fun _ => 0))), (q 21, .inl ((cm 21), 60, .inl (fun _ => 0))), (q 22, .inl ((cm 22), 60, .inl (fun _ => 0))), (q 23, .inl ((cm 23), 60, .inl (fun _ => 0))), (q 24, .inl ((cm 24), 60, .inl (fun _ => 0))), (q 25, .inl ((cm 25), 60, .inl (fun _ => 0))), (q 26, .inl ((cm 26), 1200, .inl (fun _ => 0))), (q 27, .inl ((cm 27), 1200, .inl (fun _ => 0)))] sz) := by
  refine Met.ofW (cc := cX12_copies) (maxL := 4) (ret := none) (by decide) rfl ?_
  intro p e s m args below meth c s₁ B hml hv
  obtain ⟨rfl, hsz, hP, hK, hD0⟩ := hv
  have hx := B.exec
  have hb := B.bytes
  have hr := B.returns
  have hts := atoms_spec (ws := w_m_copies0) B.pre
  have hown : s.vm.findClass RX12 = some m.cls := findClass_of_methodNamed B.named
  have hlocks := B.notSynchronized
  subst hsz
  have hD := hD0.self (sz := s.heap.size)
  generalize hAe : va_A [(h0, .inr (15, mF q 0)), (q 18, .inl ((cm 18), 3, .inl fl)), (q 19, .inl ((cm 19), 60, .inl (fun _ => 0))), (q 20, .inl ((cm 20), 60, .inl (fun _ => 0))), (q 21, .inl ((cm 21), 60, .inl (fun _ => 0))), (q 22, .inl ((cm 22), 60, .inl (fun _ => 0))), (q 23, .inl ((cm 23), 60, .inl (fun _ => 0))), (q 24, .inl ((cm 24), 60, .inl (fun _ => 0))), (q 25, .inl ((cm 25), 60, .inl (fun _ => 0))), (q 26, .inl ((cm 26), 1200, .inl (fun _ => 0))), (q 27, .inl ((cm 27), 1200, .inl (fun _ => 0)))] s.heap.size = A at hD ⊢
  have hA : ∀ q : Nat, s.heap.size ≤ q → A q := fun q h => by rw [← hAe]; exact Or.inr h
  have hS : va_S A s.heap s.heap [] := va_S.rf
  have hP : va_P (dC, dI) vwCl [(h0, .inr (15, mF q 0)), (q 18, .inl ((cm 18), 3, .inl fl)), (q 19, .inl ((cm 19), 60, .inl (fun _ => 0))), (q 20, .inl ((cm 20), 60, .inl (fun _ => 0))), (q 21, .inl ((cm 21), 60, .inl (fun _ => 0))), (q 22, .inl ((cm 22), 60, .inl (fun _ => 0))), (q 23, .inl ((cm 23), 60, .inl (fun _ => 0))), (q 24, .inl ((cm 24), 60, .inl (fun _ => 0))), (q 25, .inl ((cm 25), 60, .inl (fun _ => 0))), (q 26, .inl ((cm 26), 1200, .inl (fun _ => 0))), (q 27, .inl ((cm 27), 1200, .inl (fun _ => 0)))] s.heap := hP
  have hl := lv_entry ([.ref h0, .int 2, .int 0]) (n := 4) (Nat.le_of_ble_eq_true rfl)
  rw [lg_entry_eq]
  generalize (lg_sl ([.ref h0, .int 2, .int 0]) ++ List.replicate (4 - (lg_sl ([.ref h0, .int 2, .int 0])).length) Slot.unset).toArray = ls at hl ⊢
  have hl : lv_has ls 4 [(0, .ref h0), (1, .int 2), (2, .int 0)] := hl
  refine lv_aload_n hx hb dX12_copies_0 rfl (lv_at hl 0 rfl) ?_
  refine va_get (D := (dC, dI)) (ci := 15) (v := .ref (q 18)) (C := RX12) (T := TX12) (N := 78) hx hb hts bF_X12 hown hK hP 0 rfl rfl 18 (by decide) (ht_at hts 0 rfl) (fun _ h9 => h9) rfl dX12_copies_1 ?_
  refine lv_iload_n hx hb dX12_copies_4 rfl (lv_at hl 2 rfl) ?_
  refine lv_aload_n hx hb dX12_copies_5 rfl (lv_at hl 0 rfl) ?_
  refine va_get (D := (dC, dI)) (ci := 15) (v := .ref (q 18)) (C := RX12) (T := TX12) (N := 78) hx hb hts bF_X12 hown hK hP 0 rfl rfl 18 (by decide) (ht_at hts 0 rfl) (fun _ h9 => h9) rfl dX12_copies_6 ?_
  refine lv_iload_n hx hb dX12_copies_9 rfl (lv_at hl 1 rfl) ?_
  refine va_iald hx hb hK hP 1 0 rfl rfl (by unfold vp_in; decide) dX12_copies_10 ?_
  refine lv_topi (fun x1 ex1 => ?_)
  refine va_iast hx hb hK hP hD hS 1 0 rfl rfl (by unfold vp_in; decide) dX12_copies_11 (fun H locs hP hD hS => ?_)
  have hP : va_P (dC, dI) vwCl [(h0, .inr (15, mF q 0)), (q 18, .inl ((cm 18), 3, .inl (upd fl (0 : Int32).toNatClampNeg x1))), (q 19, .inl ((cm 19), 60, .inl (fun _ => 0))), (q 20, .inl ((cm 20), 60, .inl (fun _ => 0))), (q 21, .inl ((cm 21), 60, .inl (fun _ => 0))), (q 22, .inl ((cm 22), 60, .inl (fun _ => 0))), (q 23, .inl ((cm 23), 60, .inl (fun _ => 0))), (q 24, .inl ((cm 24), 60, .inl (fun _ => 0))), (q 25, .inl ((cm 25), 60, .inl (fun _ => 0))), (q 26, .inl ((cm 26), 1200, .inl (fun _ => 0))), (q 27, .inl ((cm 27), 1200, .inl (fun _ => 0)))] H := hP
  have hD : va_D A [(h0, .inr (15, mF q 0)), (q 18, .inl ((cm 18), 3, .inl (upd fl (0 : Int32).toNatClampNeg x1))), (q 19, .inl ((cm 19), 60, .inl (fun _ => 0))), (q 20, .inl ((cm 20), 60, .inl (fun _ => 0))), (q 21, .inl ((cm 21), 60, .inl (fun _ => 0))), (q 22, .inl ((cm 22), 60, .inl (fun _ => 0))), (q 23, .inl ((cm 23), 60, .inl (fun _ => 0))), (q 24, .inl ((cm 24), 60, .inl (fun _ => 0))), (q 25, .inl ((cm 25), 60, .inl (fun _ => 0))), (q 26, .inl ((cm 26), 1200, .inl (fun _ => 0))), (q 27, .inl ((cm 27), 1200, .inl (fun _ => 0)))] := hD
  refine lv_iconst (v := 0) hx hb dX12_copies_12 (by decide) ?_
  refine lv_istore_n (lv' := [(3, .int 0), (0, .ref h0), (1, .int 2), (2, .int 0)]) hx hb dX12_copies_13 rfl hl (by decide) rfl (fun ls hl => ?_)
  have key2 : ∀ (n2 i : Nat), i + n2 = 20 → ∀ (gl g0 g1 g2 g3 g4 g5 g6 : Nat → Int32), ∀ (H : Heap) (locs : List Loc), va_P (dC, dI) vwCl [(h0, .inr (15, mF q 0)), (q 18, .inl ((cm 18), 3, .inl gl)), (q 19, .inl ((cm 19), 60, .inl g0)), (q 20, .inl ((cm 20), 60, .inl g1)), (q 21, .inl ((cm 21), 60, .inl g2)), (q 22, .inl ((cm 22), 60, .inl g3)), (q 23, .inl ((cm 23), 60, .inl g4)), (q 24, .inl ((cm 24), 60, .inl g5)), (q 25, .inl ((cm 25), 60, .inl g6)), (q 26, .inl ((cm 26), 1200, .inl (fun _ => 0))), (q 27, .inl ((cm 27), 1200, .inl (fun _ => 0)))] H → va_D A [(h0, .inr (15, mF q 0)), (q 18, .inl ((cm 18), 3, .inl gl)), (q 19, .inl ((cm 19), 60, .inl g0)), (q 20, .inl ((cm 20), 60, .inl g1)), (q 21, .inl ((cm 21), 60, .inl g2)), (q 22, .inl ((cm 22), 60, .inl g3)), (q 23, .inl ((cm 23), 60, .inl g4)), (q 24, .inl ((cm 24), 60, .inl g5)), (q 25, .inl ((cm 25), 60, .inl g6)), (q 26, .inl ((cm 26), 1200, .inl (fun _ => 0))), (q 27, .inl ((cm 27), 1200, .inl (fun _ => 0)))] → va_S A s.heap H locs → ∀ ls : Array Slot, lv_has ls 4 [(3, .int (nI i)), (0, .ref h0), (1, .int 2), (2, .int 0)] → W p l e (headSpec w_m_copies0 ({ frames := 0, cells := 0, slots := 0, locals := 0 })).room s m #[.ref h0, .int 2, .int 0] below meth c H locs 0 0 (MQ below (va_Qv (fun (u : Unit) => True) (fun (_ : Unit) (t : State) => va_P (dC, dI) vwCl [(h0, .inr (15, mF q 0))] t.heap ∧ va_D A [(h0, .inr (15, mF q 0))]) A) #[.ref h0, .int 2, .int 0] s 0 0 A) (F0 m 14 ls []) := by
    intro n2
    induction n2 with
    | zero =>
      intro i hn2 gl g0 g1 g2 g3 g4 g5 g6 H locs hP hD hS ls hl
      obtain rfl : 20 = i := by omega
      refine lv_iload_n hx hb dX12_copies_14 rfl (lv_at hl 0 rfl) ?_
      refine lv_bipush (v := 20) hx hb dX12_copies_15 (by decide) ?_
      refine lv_icmp_ge (tgt := 180) hx hb dX12_copies_17 (by decide) (fun c3 => ?_) (fun c3 => absurd c3 (by decide))
      refine lv_iconst (v := 0) hx hb dX12_copies_180 (by decide) ?_
      refine lv_istore_n (lv' := [(3, .int 0), (0, .ref h0), (1, .int 2), (2, .int 0)]) hx hb dX12_copies_181 rfl hl (by decide) rfl (fun ls hl => ?_)
      have key4 : ∀ (n4 i : Nat), i + n4 = 400 → ∀ (k0 k1 : Nat → Int32), ∀ (H : Heap) (locs : List Loc), va_P (dC, dI) vwCl [(h0, .inr (15, mF q 0)), (q 18, .inl ((cm 18), 3, .inl gl)), (q 19, .inl ((cm 19), 60, .inl g0)), (q 20, .inl ((cm 20), 60, .inl g1)), (q 21, .inl ((cm 21), 60, .inl g2)), (q 22, .inl ((cm 22), 60, .inl g3)), (q 23, .inl ((cm 23), 60, .inl g4)), (q 24, .inl ((cm 24), 60, .inl g5)), (q 25, .inl ((cm 25), 60, .inl g6)), (q 26, .inl ((cm 26), 1200, .inl k0)), (q 27, .inl ((cm 27), 1200, .inl k1))] H → va_D A [(h0, .inr (15, mF q 0)), (q 18, .inl ((cm 18), 3, .inl gl)), (q 19, .inl ((cm 19), 60, .inl g0)), (q 20, .inl ((cm 20), 60, .inl g1)), (q 21, .inl ((cm 21), 60, .inl g2)), (q 22, .inl ((cm 22), 60, .inl g3)), (q 23, .inl ((cm 23), 60, .inl g4)), (q 24, .inl ((cm 24), 60, .inl g5)), (q 25, .inl ((cm 25), 60, .inl g6)), (q 26, .inl ((cm 26), 1200, .inl k0)), (q 27, .inl ((cm 27), 1200, .inl k1))] → va_S A s.heap H locs → ∀ ls : Array Slot, lv_has ls 4 [(3, .int (nI i)), (0, .ref h0), (1, .int 2), (2, .int 0)] → W p l e (headSpec w_m_copies0 ({ frames := 0, cells := 0, slots := 0, locals := 0 })).room s m #[.ref h0, .int 2, .int 0] below meth c H locs 0 0 (MQ below (va_Qv (fun (u : Unit) => True) (fun (_ : Unit) (t : State) => va_P (dC, dI) vwCl [(h0, .inr (15, mF q 0))] t.heap ∧ va_D A [(h0, .inr (15, mF q 0))]) A) #[.ref h0, .int 2, .int 0] s 0 0 A) (F0 m 182 ls []) := by
        intro n4
        induction n4 with
        | zero =>
          intro i hn4 k0 k1 H locs hP hD hS ls hl
          obtain rfl : 400 = i := by omega
          refine lv_iload_n hx hb dX12_copies_182 rfl (lv_at hl 0 rfl) ?_
          refine lv_sipush (v := 400) hx hb dX12_copies_183 (by decide) ?_
          refine lv_icmp_ge (tgt := 243) hx hb dX12_copies_186 (by decide) (fun c5 => ?_) (fun c5 => absurd c5 (by decide))
          exact W.vret hx hb hr (fun t ht hW => ⟨⟨(), rfl, (by trivial), by rw [ht]; exact hP.sub (ws' := [(h0, .inr (15, mF q 0))]) [0] rfl, hD.sub (ws' := [(h0, .inr (15, mF q 0))]) [0] (by decide) rfl⟩, hS.F ht⟩) hS.2.2 dX12_copies_243
        | succ n4 ih4 =>
          intro i hn4 k0 k1 H locs hP hD hS ls hl
          have hlt6 : i < 400 := by omega
          refine lv_iload_n hx hb dX12_copies_182 rfl (lv_at hl 0 rfl) ?_
          refine lv_sipush (v := 400) hx hb dX12_copies_183 (by decide) ?_
          refine lv_icmp_ge (tgt := 243) hx hb dX12_copies_186 (by decide) (fun c7 => absurd c7 (nI_ge (b := 400) hlt6 (by decide))) (fun c7 => ?_)
          refine lv_aload_n hx hb dX12_copies_189 rfl (lv_at hl 1 rfl) ?_
          refine va_get (D := (dC, dI)) (ci := 15) (v := .ref (q 26)) (C := RX12) (T := TX12) (N := 78) hx hb hts bF_X12 hown hK hP 0 rfl rfl 26 (by decide) (ht_at hts 1 rfl) (fun _ h9 => h9) rfl dX12_copies_190 ?_
          refine lv_sipush (v := 400) hx hb dX12_copies_193 (by decide) ?_
          refine lv_iload_n hx hb dX12_copies_196 rfl (lv_at hl 3 rfl) ?_
          refine lv_imul hx hb dX12_copies_197 ?_
          refine lv_topi (fun x8 ex8 => ?_)
          obtain rfl : x8 = 0 := ex8.trans (by decide)
          refine lv_iload_n hx hb dX12_copies_198 rfl (lv_at hl 0 rfl) ?_
          refine lv_iadd hx hb dX12_copies_199 ?_
          refine lv_topi (fun x9 ex9 => ?_)
          refine lv_aload_n hx hb dX12_copies_200 rfl (lv_at hl 1 rfl) ?_
          refine va_get (D := (dC, dI)) (ci := 15) (v := .ref (q 26)) (C := RX12) (T := TX12) (N := 78) hx hb hts bF_X12 hown hK hP 0 rfl rfl 26 (by decide) (ht_at hts 1 rfl) (fun _ h9 => h9) rfl dX12_copies_201 ?_
          refine lv_sipush (v := 400) hx hb dX12_copies_204 (by decide) ?_
          refine lv_iload_n hx hb dX12_copies_207 rfl (lv_at hl 2 rfl) ?_
          refine lv_imul hx hb dX12_copies_208 ?_
          refine lv_topi (fun x10 ex10 => ?_)
          obtain rfl : x10 = 800 := ex10.trans (by decide)
          refine lv_iload_n hx hb dX12_copies_209 rfl (lv_at hl 0 rfl) ?_
          refine lv_iadd hx hb dX12_copies_210 ?_
          refine lv_topi (fun x11 ex11 => ?_)
          refine va_iald hx hb hK hP 9 8 rfl rfl (by rw [ex11]; exact vin_ni (c := 800) (by omega) (by decide)) dX12_copies_211 ?_
          refine lv_topi (fun x12 ex12 => ?_)
          refine va_iast hx hb hK hP hD hS 9 8 rfl rfl (by rw [ex9]; exact vin_ni (c := 0) (by omega) (by decide)) dX12_copies_212 (fun H locs hP hD hS => ?_)
          have hP : va_P (dC, dI) vwCl [(h0, .inr (15, mF q 0)), (q 18, .inl ((cm 18), 3, .inl gl)), (q 19, .inl ((cm 19), 60, .inl g0)), (q 20, .inl ((cm 20), 60, .inl g1)), (q 21, .inl ((cm 21), 60, .inl g2)), (q 22, .inl ((cm 22), 60, .inl g3)), (q 23, .inl ((cm 23), 60, .inl g4)), (q 24, .inl ((cm 24), 60, .inl g5)), (q 25, .inl ((cm 25), 60, .inl g6)), (q 26, .inl ((cm 26), 1200, .inl (upd k0 x9.toNatClampNeg x12))), (q 27, .inl ((cm 27), 1200, .inl k1))] H := hP
          have hD : va_D A [(h0, .inr (15, mF q 0)), (q 18, .inl ((cm 18), 3, .inl gl)), (q 19, .inl ((cm 19), 60, .inl g0)), (q 20, .inl ((cm 20), 60, .inl g1)), (q 21, .inl ((cm 21), 60, .inl g2)), (q 22, .inl ((cm 22), 60, .inl g3)), (q 23, .inl ((cm 23), 60, .inl g4)), (q 24, .inl ((cm 24), 60, .inl g5)), (q 25, .inl ((cm 25), 60, .inl g6)), (q 26, .inl ((cm 26), 1200, .inl (upd k0 x9.toNatClampNeg x12))), (q 27, .inl ((cm 27), 1200, .inl k1))] := hD
          refine lv_aload_n hx hb dX12_copies_213 rfl (lv_at hl 1 rfl) ?_
          refine va_get (D := (dC, dI)) (ci := 15) (v := .ref (q 27)) (C := RX12) (T := TX12) (N := 78) hx hb hts bF_X12 hown hK hP 0 rfl rfl 27 (by decide) (ht_at hts 2 rfl) (fun _ h9 => h9) rfl dX12_copies_214 ?_
          refine lv_sipush (v := 400) hx hb dX12_copies_217 (by decide) ?_
          refine lv_iload_n hx hb dX12_copies_220 rfl (lv_at hl 3 rfl) ?_
          refine lv_imul hx hb dX12_copies_221 ?_
          refine lv_topi (fun x13 ex13 => ?_)
          obtain rfl : x13 = 0 := ex13.trans (by decide)
          refine lv_iload_n hx hb dX12_copies_222 rfl (lv_at hl 0 rfl) ?_
          refine lv_iadd hx hb dX12_copies_223 ?_
          refine lv_topi (fun x14 ex14 => ?_)
          refine lv_aload_n hx hb dX12_copies_224 rfl (lv_at hl 1 rfl) ?_
          refine va_get (D := (dC, dI)) (ci := 15) (v := .ref (q 27)) (C := RX12) (T := TX12) (N := 78) hx hb hts bF_X12 hown hK hP 0 rfl rfl 27 (by decide) (ht_at hts 2 rfl) (fun _ h9 => h9) rfl dX12_copies_225 ?_
          refine lv_sipush (v := 400) hx hb dX12_copies_228 (by decide) ?_
          refine lv_iload_n hx hb dX12_copies_231 rfl (lv_at hl 2 rfl) ?_
          refine lv_imul hx hb dX12_copies_232 ?_
          refine lv_topi (fun x15 ex15 => ?_)
          obtain rfl : x15 = 800 := ex15.trans (by decide)
          refine lv_iload_n hx hb dX12_copies_233 rfl (lv_at hl 0 rfl) ?_
          refine lv_iadd hx hb dX12_copies_234 ?_
          refine lv_topi (fun x16 ex16 => ?_)
          refine va_iald hx hb hK hP 10 9 rfl rfl (by rw [ex16]; exact vin_ni (c := 800) (by omega) (by decide)) dX12_copies_235 ?_
          refine lv_topi (fun x17 ex17 => ?_)
          refine va_iast hx hb hK hP hD hS 10 9 rfl rfl (by rw [ex14]; exact vin_ni (c := 0) (by omega) (by decide)) dX12_copies_236 (fun H locs hP hD hS => ?_)
          have hP : va_P (dC, dI) vwCl [(h0, .inr (15, mF q 0)), (q 18, .inl ((cm 18), 3, .inl gl)), (q 19, .inl ((cm 19), 60, .inl g0)), (q 20, .inl ((cm 20), 60, .inl g1)), (q 21, .inl ((cm 21), 60, .inl g2)), (q 22, .inl ((cm 22), 60, .inl g3)), (q 23, .inl ((cm 23), 60, .inl g4)), (q 24, .inl ((cm 24), 60, .inl g5)), (q 25, .inl ((cm 25), 60, .inl g6)), (q 26, .inl ((cm 26), 1200, .inl (upd k0 x9.toNatClampNeg x12))), (q 27, .inl ((cm 27), 1200, .inl (upd k1 x14.toNatClampNeg x17)))] H := hP
          have hD : va_D A [(h0, .inr (15, mF q 0)), (q 18, .inl ((cm 18), 3, .inl gl)), (q 19, .inl ((cm 19), 60, .inl g0)), (q 20, .inl ((cm 20), 60, .inl g1)), (q 21, .inl ((cm 21), 60, .inl g2)), (q 22, .inl ((cm 22), 60, .inl g3)), (q 23, .inl ((cm 23), 60, .inl g4)), (q 24, .inl ((cm 24), 60, .inl g5)), (q 25, .inl ((cm 25), 60, .inl g6)), (q 26, .inl ((cm 26), 1200, .inl (upd k0 x9.toNatClampNeg x12))), (q 27, .inl ((cm 27), 1200, .inl (upd k1 x14.toNatClampNeg x17)))] := hD
          obtain ⟨x18, ex18⟩ : ∃ y : Int32, y = (nI i) + 1 := ⟨_, rfl⟩
          refine lv_iinc (v := x18) (lv' := [(3, .int x18), (0, .ref h0), (1, .int 2), (2, .int 0)]) hx hb dX12_copies_237 hl (k := 0) rfl (by rw [ex18]; rfl) (by decide) rfl (fun ls hl => ?_)
          refine lv_goto (tgt := 182) hx hb dX12_copies_240 (by decide) ?_
          obtain rfl : x18 = nI (i + 1) := ex18.trans (nI_1 i)
          exact ih4 (i + 1) (by omega) (upd k0 x9.toNatClampNeg x12) (upd k1 x14.toNatClampNeg x17) _ _ (hP.sub [0, 1, 2, 3, 4, 5, 6, 7, 8, 9, 10] rfl) (hD.sub [0, 1, 2, 3, 4, 5, 6, 7, 8, 9, 10] (by decide) rfl) hS ls (lv_sub hl [0, 1, 2, 3] rfl)
      exact key4 400 0 (by decide) (fun _ => 0) (fun _ => 0) _ _ (hP.sub [0, 1, 2, 3, 4, 5, 6, 7, 8, 9, 10] rfl) (hD.sub [0, 1, 2, 3, 4, 5, 6, 7, 8, 9, 10] (by decide) rfl) hS ls (lv_sub hl [0, 1, 2, 3] rfl)
    | succ n2 ih2 =>
      intro i hn2 gl g0 g1 g2 g3 g4 g5 g6 H locs hP hD hS ls hl
      have hlt19 : i < 20 := by omega
      refine lv_iload_n hx hb dX12_copies_14 rfl (lv_at hl 0 rfl) ?_
      refine lv_bipush (v := 20) hx hb dX12_copies_15 (by decide) ?_
      refine lv_icmp_ge (tgt := 180) hx hb dX12_copies_17 (by decide) (fun c20 => absurd c20 (nI_ge (b := 20) hlt19 (by decide))) (fun c20 => ?_)
      refine lv_aload_n hx hb dX12_copies_20 rfl (lv_at hl 1 rfl) ?_
      refine va_get (D := (dC, dI)) (ci := 15) (v := .ref (q 19)) (C := RX12) (T := TX12) (N := 78) hx hb hts bF_X12 hown hK hP 0 rfl rfl 19 (by decide) (ht_at hts 3 rfl) (fun _ h9 => h9) rfl dX12_copies_21 ?_
      refine lv_bipush (v := 20) hx hb dX12_copies_24 (by decide) ?_
      refine lv_iload_n hx hb dX12_copies_26 rfl (lv_at hl 3 rfl) ?_
      refine lv_imul hx hb dX12_copies_27 ?_
      refine lv_topi (fun x21 ex21 => ?_)
      obtain rfl : x21 = 0 := ex21.trans (by decide)
      refine lv_iload_n hx hb dX12_copies_28 rfl (lv_at hl 0 rfl) ?_
      refine lv_iadd hx hb dX12_copies_29 ?_
      refine lv_topi (fun x22 ex22 => ?_)
      refine lv_aload_n hx hb dX12_copies_30 rfl (lv_at hl 1 rfl) ?_
      refine va_get (D := (dC, dI)) (ci := 15) (v := .ref (q 19)) (C := RX12) (T := TX12) (N := 78) hx hb hts bF_X12 hown hK hP 0 rfl rfl 19 (by decide) (ht_at hts 3 rfl) (fun _ h9 => h9) rfl dX12_copies_31 ?_
      refine lv_bipush (v := 20) hx hb dX12_copies_34 (by decide) ?_
      refine lv_iload_n hx hb dX12_copies_36 rfl (lv_at hl 2 rfl) ?_
      refine lv_imul hx hb dX12_copies_37 ?_
      refine lv_topi (fun x23 ex23 => ?_)
      obtain rfl : x23 = 40 := ex23.trans (by decide)
      refine lv_iload_n hx hb dX12_copies_38 rfl (lv_at hl 0 rfl) ?_
      refine lv_iadd hx hb dX12_copies_39 ?_
      refine lv_topi (fun x24 ex24 => ?_)
      refine va_iald hx hb hK hP 2 1 rfl rfl (by rw [ex24]; exact vin_ni (c := 40) (by omega) (by decide)) dX12_copies_40 ?_
      refine lv_topi (fun x25 ex25 => ?_)
      refine va_iast hx hb hK hP hD hS 2 1 rfl rfl (by rw [ex22]; exact vin_ni (c := 0) (by omega) (by decide)) dX12_copies_41 (fun H locs hP hD hS => ?_)
      have hP : va_P (dC, dI) vwCl [(h0, .inr (15, mF q 0)), (q 18, .inl ((cm 18), 3, .inl gl)), (q 19, .inl ((cm 19), 60, .inl (upd g0 x22.toNatClampNeg x25))), (q 20, .inl ((cm 20), 60, .inl g1)), (q 21, .inl ((cm 21), 60, .inl g2)), (q 22, .inl ((cm 22), 60, .inl g3)), (q 23, .inl ((cm 23), 60, .inl g4)), (q 24, .inl ((cm 24), 60, .inl g5)), (q 25, .inl ((cm 25), 60, .inl g6)), (q 26, .inl ((cm 26), 1200, .inl (fun _ => 0))), (q 27, .inl ((cm 27), 1200, .inl (fun _ => 0)))] H := hP
      have hD : va_D A [(h0, .inr (15, mF q 0)), (q 18, .inl ((cm 18), 3, .inl gl)), (q 19, .inl ((cm 19), 60, .inl (upd g0 x22.toNatClampNeg x25))), (q 20, .inl ((cm 20), 60, .inl g1)), (q 21, .inl ((cm 21), 60, .inl g2)), (q 22, .inl ((cm 22), 60, .inl g3)), (q 23, .inl ((cm 23), 60, .inl g4)), (q 24, .inl ((cm 24), 60, .inl g5)), (q 25, .inl ((cm 25), 60, .inl g6)), (q 26, .inl ((cm 26), 1200, .inl (fun _ => 0))), (q 27, .inl ((cm 27), 1200, .inl (fun _ => 0)))] := hD
      refine lv_aload_n hx hb dX12_copies_42 rfl (lv_at hl 1 rfl) ?_
      refine va_get (D := (dC, dI)) (ci := 15) (v := .ref (q 20)) (C := RX12) (T := TX12) (N := 78) hx hb hts bF_X12 hown hK hP 0 rfl rfl 20 (by decide) (ht_at hts 4 rfl) (fun _ h9 => h9) rfl dX12_copies_43 ?_
      refine lv_bipush (v := 20) hx hb dX12_copies_46 (by decide) ?_
      refine lv_iload_n hx hb dX12_copies_48 rfl (lv_at hl 3 rfl) ?_
      refine lv_imul hx hb dX12_copies_49 ?_
      refine lv_topi (fun x26 ex26 => ?_)
      obtain rfl : x26 = 0 := ex26.trans (by decide)
      refine lv_iload_n hx hb dX12_copies_50 rfl (lv_at hl 0 rfl) ?_
      refine lv_iadd hx hb dX12_copies_51 ?_
      refine lv_topi (fun x27 ex27 => ?_)
      refine lv_aload_n hx hb dX12_copies_52 rfl (lv_at hl 1 rfl) ?_
      refine va_get (D := (dC, dI)) (ci := 15) (v := .ref (q 20)) (C := RX12) (T := TX12) (N := 78) hx hb hts bF_X12 hown hK hP 0 rfl rfl 20 (by decide) (ht_at hts 4 rfl) (fun _ h9 => h9) rfl dX12_copies_53 ?_
      refine lv_bipush (v := 20) hx hb dX12_copies_56 (by decide) ?_
      refine lv_iload_n hx hb dX12_copies_58 rfl (lv_at hl 2 rfl) ?_
      refine lv_imul hx hb dX12_copies_59 ?_
      refine lv_topi (fun x28 ex28 => ?_)
      obtain rfl : x28 = 40 := ex28.trans (by decide)
      refine lv_iload_n hx hb dX12_copies_60 rfl (lv_at hl 0 rfl) ?_
      refine lv_iadd hx hb dX12_copies_61 ?_
      refine lv_topi (fun x29 ex29 => ?_)
      refine va_iald hx hb hK hP 3 2 rfl rfl (by rw [ex29]; exact vin_ni (c := 40) (by omega) (by decide)) dX12_copies_62 ?_
      refine lv_topi (fun x30 ex30 => ?_)
      refine va_iast hx hb hK hP hD hS 3 2 rfl rfl (by rw [ex27]; exact vin_ni (c := 0) (by omega) (by decide)) dX12_copies_63 (fun H locs hP hD hS => ?_)
      have hP : va_P (dC, dI) vwCl [(h0, .inr (15, mF q 0)), (q 18, .inl ((cm 18), 3, .inl gl)), (q 19, .inl ((cm 19), 60, .inl (upd g0 x22.toNatClampNeg x25))), (q 20, .inl ((cm 20), 60, .inl (upd g1 x27.toNatClampNeg x30))), (q 21, .inl ((cm 21), 60, .inl g2)), (q 22, .inl ((cm 22), 60, .inl g3)), (q 23, .inl ((cm 23), 60, .inl g4)), (q 24, .inl ((cm 24), 60, .inl g5)), (q 25, .inl ((cm 25), 60, .inl g6)), (q 26, .inl ((cm 26), 1200, .inl (fun _ => 0))), (q 27, .inl ((cm 27), 1200, .inl (fun _ => 0)))] H := hP
      have hD : va_D A [(h0, .inr (15, mF q 0)), (q 18, .inl ((cm 18), 3, .inl gl)), (q 19, .inl ((cm 19), 60, .inl (upd g0 x22.toNatClampNeg x25))), (q 20, .inl ((cm 20), 60, .inl (upd g1 x27.toNatClampNeg x30))), (q 21, .inl ((cm 21), 60, .inl g2)), (q 22, .inl ((cm 22), 60, .inl g3)), (q 23, .inl ((cm 23), 60, .inl g4)), (q 24, .inl ((cm 24), 60, .inl g5)), (q 25, .inl ((cm 25), 60, .inl g6)), (q 26, .inl ((cm 26), 1200, .inl (fun _ => 0))), (q 27, .inl ((cm 27), 1200, .inl (fun _ => 0)))] := hD
      refine lv_aload_n hx hb dX12_copies_64 rfl (lv_at hl 1 rfl) ?_
      refine va_get (D := (dC, dI)) (ci := 15) (v := .ref (q 21)) (C := RX12) (T := TX12) (N := 78) hx hb hts bF_X12 hown hK hP 0 rfl rfl 21 (by decide) (ht_at hts 5 rfl) (fun _ h9 => h9) rfl dX12_copies_65 ?_
      refine lv_bipush (v := 20) hx hb dX12_copies_68 (by decide) ?_
      refine lv_iload_n hx hb dX12_copies_70 rfl (lv_at hl 3 rfl) ?_
      refine lv_imul hx hb dX12_copies_71 ?_
      refine lv_topi (fun x31 ex31 => ?_)
      obtain rfl : x31 = 0 := ex31.trans (by decide)
      refine lv_iload_n hx hb dX12_copies_72 rfl (lv_at hl 0 rfl) ?_
      refine lv_iadd hx hb dX12_copies_73 ?_
      refine lv_topi (fun x32 ex32 => ?_)
      refine lv_aload_n hx hb dX12_copies_74 rfl (lv_at hl 1 rfl) ?_
      refine va_get (D := (dC, dI)) (ci := 15) (v := .ref (q 21)) (C := RX12) (T := TX12) (N := 78) hx hb hts bF_X12 hown hK hP 0 rfl rfl 21 (by decide) (ht_at hts 5 rfl) (fun _ h9 => h9) rfl dX12_copies_75 ?_
      refine lv_bipush (v := 20) hx hb dX12_copies_78 (by decide) ?_
      refine lv_iload_n hx hb dX12_copies_80 rfl (lv_at hl 2 rfl) ?_
      refine lv_imul hx hb dX12_copies_81 ?_
      refine lv_topi (fun x33 ex33 => ?_)
      obtain rfl : x33 = 40 := ex33.trans (by decide)
      refine lv_iload_n hx hb dX12_copies_82 rfl (lv_at hl 0 rfl) ?_
      refine lv_iadd hx hb dX12_copies_83 ?_
      refine lv_topi (fun x34 ex34 => ?_)
      refine va_iald hx hb hK hP 4 3 rfl rfl (by rw [ex34]; exact vin_ni (c := 40) (by omega) (by decide)) dX12_copies_84 ?_
      refine lv_topi (fun x35 ex35 => ?_)
      refine va_iast hx hb hK hP hD hS 4 3 rfl rfl (by rw [ex32]; exact vin_ni (c := 0) (by omega) (by decide)) dX12_copies_85 (fun H locs hP hD hS => ?_)
      have hP : va_P (dC, dI) vwCl [(h0, .inr (15, mF q 0)), (q 18, .inl ((cm 18), 3, .inl gl)), (q 19, .inl ((cm 19), 60, .inl (upd g0 x22.toNatClampNeg x25))), (q 20, .inl ((cm 20), 60, .inl (upd g1 x27.toNatClampNeg x30))), (q 21, .inl ((cm 21), 60, .inl (upd g2 x32.toNatClampNeg x35))), (q 22, .inl ((cm 22), 60, .inl g3)), (q 23, .inl ((cm 23), 60, .inl g4)), (q 24, .inl ((cm 24), 60, .inl g5)), (q 25, .inl ((cm 25), 60, .inl g6)), (q 26, .inl ((cm 26), 1200, .inl (fun _ => 0))), (q 27, .inl ((cm 27), 1200, .inl (fun _ => 0)))] H := hP
      have hD : va_D A [(h0, .inr (15, mF q 0)), (q 18, .inl ((cm 18), 3, .inl gl)), (q 19, .inl ((cm 19), 60, .inl (upd g0 x22.toNatClampNeg x25))), (q 20, .inl ((cm 20), 60, .inl (upd g1 x27.toNatClampNeg x30))), (q 21, .inl ((cm 21), 60, .inl (upd g2 x32.toNatClampNeg x35))), (q 22, .inl ((cm 22), 60, .inl g3)), (q 23, .inl ((cm 23), 60, .inl g4)), (q 24, .inl ((cm 24), 60, .inl g5)), (q 25, .inl ((cm 25), 60, .inl g6)), (q 26, .inl ((cm 26), 1200, .inl (fun _ => 0))), (q 27, .inl ((cm 27), 1200, .inl (fun _ => 0)))] := hD
      refine lv_aload_n hx hb dX12_copies_86 rfl (lv_at hl 1 rfl) ?_
      refine va_get (D := (dC, dI)) (ci := 15) (v := .ref (q 22)) (C := RX12) (T := TX12) (N := 78) hx hb hts bF_X12 hown hK hP 0 rfl rfl 22 (by decide) (ht_at hts 6 rfl) (fun _ h9 => h9) rfl dX12_copies_87 ?_
      refine lv_bipush (v := 20) hx hb dX12_copies_90 (by decide) ?_
      refine lv_iload_n hx hb dX12_copies_92 rfl (lv_at hl 3 rfl) ?_
      refine lv_imul hx hb dX12_copies_93 ?_
      refine lv_topi (fun x36 ex36 => ?_)
      obtain rfl : x36 = 0 := ex36.trans (by decide)
      refine lv_iload_n hx hb dX12_copies_94 rfl (lv_at hl 0 rfl) ?_
      refine lv_iadd hx hb dX12_copies_95 ?_
      refine lv_topi (fun x37 ex37 => ?_)
      refine lv_aload_n hx hb dX12_copies_96 rfl (lv_at hl 1 rfl) ?_
      refine va_get (D := (dC, dI)) (ci := 15) (v := .ref (q 22)) (C := RX12) (T := TX12) (N := 78) hx hb hts bF_X12 hown hK hP 0 rfl rfl 22 (by decide) (ht_at hts 6 rfl) (fun _ h9 => h9) rfl dX12_copies_97 ?_
      refine lv_bipush (v := 20) hx hb dX12_copies_100 (by decide) ?_
      refine lv_iload_n hx hb dX12_copies_102 rfl (lv_at hl 2 rfl) ?_
      refine lv_imul hx hb dX12_copies_103 ?_
      refine lv_topi (fun x38 ex38 => ?_)
      obtain rfl : x38 = 40 := ex38.trans (by decide)
      refine lv_iload_n hx hb dX12_copies_104 rfl (lv_at hl 0 rfl) ?_
      refine lv_iadd hx hb dX12_copies_105 ?_
      refine lv_topi (fun x39 ex39 => ?_)
      refine va_iald hx hb hK hP 5 4 rfl rfl (by rw [ex39]; exact vin_ni (c := 40) (by omega) (by decide)) dX12_copies_106 ?_
      refine lv_topi (fun x40 ex40 => ?_)
      refine va_iast hx hb hK hP hD hS 5 4 rfl rfl (by rw [ex37]; exact vin_ni (c := 0) (by omega) (by decide)) dX12_copies_107 (fun H locs hP hD hS => ?_)
      have hP : va_P (dC, dI) vwCl [(h0, .inr (15, mF q 0)), (q 18, .inl ((cm 18), 3, .inl gl)), (q 19, .inl ((cm 19), 60, .inl (upd g0 x22.toNatClampNeg x25))), (q 20, .inl ((cm 20), 60, .inl (upd g1 x27.toNatClampNeg x30))), (q 21, .inl ((cm 21), 60, .inl (upd g2 x32.toNatClampNeg x35))), (q 22, .inl ((cm 22), 60, .inl (upd g3 x37.toNatClampNeg x40))), (q 23, .inl ((cm 23), 60, .inl g4)), (q 24, .inl ((cm 24), 60, .inl g5)), (q 25, .inl ((cm 25), 60, .inl g6)), (q 26, .inl ((cm 26), 1200, .inl (fun _ => 0))), (q 27, .inl ((cm 27), 1200, .inl (fun _ => 0)))] H := hP
      have hD : va_D A [(h0, .inr (15, mF q 0)), (q 18, .inl ((cm 18), 3, .inl gl)), (q 19, .inl ((cm 19), 60, .inl (upd g0 x22.toNatClampNeg x25))), (q 20, .inl ((cm 20), 60, .inl (upd g1 x27.toNatClampNeg x30))), (q 21, .inl ((cm 21), 60, .inl (upd g2 x32.toNatClampNeg x35))), (q 22, .inl ((cm 22), 60, .inl (upd g3 x37.toNatClampNeg x40))), (q 23, .inl ((cm 23), 60, .inl g4)), (q 24, .inl ((cm 24), 60, .inl g5)), (q 25, .inl ((cm 25), 60, .inl g6)), (q 26, .inl ((cm 26), 1200, .inl (fun _ => 0))), (q 27, .inl ((cm 27), 1200, .inl (fun _ => 0)))] := hD
      refine lv_aload_n hx hb dX12_copies_108 rfl (lv_at hl 1 rfl) ?_
      refine va_get (D := (dC, dI)) (ci := 15) (v := .ref (q 23)) (C := RX12) (T := TX12) (N := 78) hx hb hts bF_X12 hown hK hP 0 rfl rfl 23 (by decide) (ht_at hts 7 rfl) (fun _ h9 => h9) rfl dX12_copies_109 ?_
      refine lv_bipush (v := 20) hx hb dX12_copies_112 (by decide) ?_
      refine lv_iload_n hx hb dX12_copies_114 rfl (lv_at hl 3 rfl) ?_
      refine lv_imul hx hb dX12_copies_115 ?_
      refine lv_topi (fun x41 ex41 => ?_)
      obtain rfl : x41 = 0 := ex41.trans (by decide)
      refine lv_iload_n hx hb dX12_copies_116 rfl (lv_at hl 0 rfl) ?_
      refine lv_iadd hx hb dX12_copies_117 ?_
      refine lv_topi (fun x42 ex42 => ?_)
      refine lv_aload_n hx hb dX12_copies_118 rfl (lv_at hl 1 rfl) ?_
      refine va_get (D := (dC, dI)) (ci := 15) (v := .ref (q 23)) (C := RX12) (T := TX12) (N := 78) hx hb hts bF_X12 hown hK hP 0 rfl rfl 23 (by decide) (ht_at hts 7 rfl) (fun _ h9 => h9) rfl dX12_copies_119 ?_
      refine lv_bipush (v := 20) hx hb dX12_copies_122 (by decide) ?_
      refine lv_iload_n hx hb dX12_copies_124 rfl (lv_at hl 2 rfl) ?_
      refine lv_imul hx hb dX12_copies_125 ?_
      refine lv_topi (fun x43 ex43 => ?_)
      obtain rfl : x43 = 40 := ex43.trans (by decide)
      refine lv_iload_n hx hb dX12_copies_126 rfl (lv_at hl 0 rfl) ?_
      refine lv_iadd hx hb dX12_copies_127 ?_
      refine lv_topi (fun x44 ex44 => ?_)
      refine va_iald hx hb hK hP 6 5 rfl rfl (by rw [ex44]; exact vin_ni (c := 40) (by omega) (by decide)) dX12_copies_128 ?_
      refine lv_topi (fun x45 ex45 => ?_)
      refine va_iast hx hb hK hP hD hS 6 5 rfl rfl (by rw [ex42]; exact vin_ni (c := 0) (by omega) (by decide)) dX12_copies_129 (fun H locs hP hD hS => ?_)
      have hP : va_P (dC, dI) vwCl [(h0, .inr (15, mF q 0)), (q 18, .inl ((cm 18), 3, .inl gl)), (q 19, .inl ((cm 19), 60, .inl (upd g0 x22.toNatClampNeg x25))), (q 20, .inl ((cm 20), 60, .inl (upd g1 x27.toNatClampNeg x30))), (q 21, .inl ((cm 21), 60, .inl (upd g2 x32.toNatClampNeg x35))), (q 22, .inl ((cm 22), 60, .inl (upd g3 x37.toNatClampNeg x40))), (q 23, .inl ((cm 23), 60, .inl (upd g4 x42.toNatClampNeg x45))), (q 24, .inl ((cm 24), 60, .inl g5)), (q 25, .inl ((cm 25), 60, .inl g6)), (q 26, .inl ((cm 26), 1200, .inl (fun _ => 0))), (q 27, .inl ((cm 27), 1200, .inl (fun _ => 0)))] H := hP
      have hD : va_D A [(h0, .inr (15, mF q 0)), (q 18, .inl ((cm 18), 3, .inl gl)), (q 19, .inl ((cm 19), 60, .inl (upd g0 x22.toNatClampNeg x25))), (q 20, .inl ((cm 20), 60, .inl (upd g1 x27.toNatClampNeg x30))), (q 21, .inl ((cm 21), 60, .inl (upd g2 x32.toNatClampNeg x35))), (q 22, .inl ((cm 22), 60, .inl (upd g3 x37.toNatClampNeg x40))), (q 23, .inl ((cm 23), 60, .inl (upd g4 x42.toNatClampNeg x45))), (q 24, .inl ((cm 24), 60, .inl g5)), (q 25, .inl ((cm 25), 60, .inl g6)), (q 26, .inl ((cm 26), 1200, .inl (fun _ => 0))), (q 27, .inl ((cm 27), 1200, .inl (fun _ => 0)))] := hD
      refine lv_aload_n hx hb dX12_copies_130 rfl (lv_at hl 1 rfl) ?_
      refine va_get (D := (dC, dI)) (ci := 15) (v := .ref (q 24)) (C := RX12) (T := TX12) (N := 78) hx hb hts bF_X12 hown hK hP 0 rfl rfl 24 (by decide) (ht_at hts 8 rfl) (fun _ h9 => h9) rfl dX12_copies_131 ?_
      refine lv_bipush (v := 20) hx hb dX12_copies_134 (by decide) ?_
      refine lv_iload_n hx hb dX12_copies_136 rfl (lv_at hl 3 rfl) ?_
      refine lv_imul hx hb dX12_copies_137 ?_
      refine lv_topi (fun x46 ex46 => ?_)
      obtain rfl : x46 = 0 := ex46.trans (by decide)
      refine lv_iload_n hx hb dX12_copies_138 rfl (lv_at hl 0 rfl) ?_
      refine lv_iadd hx hb dX12_copies_139 ?_
      refine lv_topi (fun x47 ex47 => ?_)
      refine lv_aload_n hx hb dX12_copies_140 rfl (lv_at hl 1 rfl) ?_
      refine va_get (D := (dC, dI)) (ci := 15) (v := .ref (q 24)) (C := RX12) (T := TX12) (N := 78) hx hb hts bF_X12 hown hK hP 0 rfl rfl 24 (by decide) (ht_at hts 8 rfl) (fun _ h9 => h9) rfl dX12_copies_141 ?_
      refine lv_bipush (v := 20) hx hb dX12_copies_144 (by decide) ?_
      refine lv_iload_n hx hb dX12_copies_146 rfl (lv_at hl 2 rfl) ?_
      refine lv_imul hx hb dX12_copies_147 ?_
      refine lv_topi (fun x48 ex48 => ?_)
      obtain rfl : x48 = 40 := ex48.trans (by decide)
      refine lv_iload_n hx hb dX12_copies_148 rfl (lv_at hl 0 rfl) ?_
      refine lv_iadd hx hb dX12_copies_149 ?_
      refine lv_topi (fun x49 ex49 => ?_)
      refine va_iald hx hb hK hP 7 6 rfl rfl (by rw [ex49]; exact vin_ni (c := 40) (by omega) (by decide)) dX12_copies_150 ?_
      refine lv_topi (fun x50 ex50 => ?_)
      refine va_iast hx hb hK hP hD hS 7 6 rfl rfl (by rw [ex47]; exact vin_ni (c := 0) (by omega) (by decide)) dX12_copies_151 (fun H locs hP hD hS => ?_)
      have hP : va_P (dC, dI) vwCl [(h0, .inr (15, mF q 0)), (q 18, .inl ((cm 18), 3, .inl gl)), (q 19, .inl ((cm 19), 60, .inl (upd g0 x22.toNatClampNeg x25))), (q 20, .inl ((cm 20), 60, .inl (upd g1 x27.toNatClampNeg x30))), (q 21, .inl ((cm 21), 60, .inl (upd g2 x32.toNatClampNeg x35))), (q 22, .inl ((cm 22), 60, .inl (upd g3 x37.toNatClampNeg x40))), (q 23, .inl ((cm 23), 60, .inl (upd g4 x42.toNatClampNeg x45))), (q 24, .inl ((cm 24), 60, .inl (upd g5 x47.toNatClampNeg x50))), (q 25, .inl ((cm 25), 60, .inl g6)), (q 26, .inl ((cm 26), 1200, .inl (fun _ => 0))), (q 27, .inl ((cm 27), 1200, .inl (fun _ => 0)))] H := hP
      have hD : va_D A [(h0, .inr (15, mF q 0)), (q 18, .inl ((cm 18), 3, .inl gl)), (q 19, .inl ((cm 19), 60, .inl (upd g0 x22.toNatClampNeg x25))), (q 20, .inl ((cm 20), 60, .inl (upd g1 x27.toNatClampNeg x30))), (q 21, .inl ((cm 21), 60, .inl (upd g2 x32.toNatClampNeg x35))), (q 22, .inl ((cm 22), 60, .inl (upd g3 x37.toNatClampNeg x40))), (q 23, .inl ((cm 23), 60, .inl (upd g4 x42.toNatClampNeg x45))), (q 24, .inl ((cm 24), 60, .inl (upd g5 x47.toNatClampNeg x50))), (q 25, .inl ((cm 25), 60, .inl g6)), (q 26, .inl ((cm 26), 1200, .inl (fun _ => 0))), (q 27, .inl ((cm 27), 1200, .inl (fun _ => 0)))] := hD
      refine lv_aload_n hx hb dX12_copies_152 rfl (lv_at hl 1 rfl) ?_
      refine va_get (D := (dC, dI)) (ci := 15) (v := .ref (q 25)) (C := RX12) (T := TX12) (N := 78) hx hb hts bF_X12 hown hK hP 0 rfl rfl 25 (by decide) (ht_at hts 9 rfl) (fun _ h9 => h9) rfl dX12_copies_153 ?_
      refine lv_bipush (v := 20) hx hb dX12_copies_156 (by decide) ?_
      refine lv_iload_n hx hb dX12_copies_158 rfl (lv_at hl 3 rfl) ?_
      refine lv_imul hx hb dX12_copies_159 ?_
      refine lv_topi (fun x51 ex51 => ?_)
      obtain rfl : x51 = 0 := ex51.trans (by decide)
      refine lv_iload_n hx hb dX12_copies_160 rfl (lv_at hl 0 rfl) ?_
      refine lv_iadd hx hb dX12_copies_161 ?_
      refine lv_topi (fun x52 ex52 => ?_)
      refine lv_aload_n hx hb dX12_copies_162 rfl (lv_at hl 1 rfl) ?_
      refine va_get (D := (dC, dI)) (ci := 15) (v := .ref (q 25)) (C := RX12) (T := TX12) (N := 78) hx hb hts bF_X12 hown hK hP 0 rfl rfl 25 (by decide) (ht_at hts 9 rfl) (fun _ h9 => h9) rfl dX12_copies_163 ?_
      refine lv_bipush (v := 20) hx hb dX12_copies_166 (by decide) ?_
      refine lv_iload_n hx hb dX12_copies_168 rfl (lv_at hl 2 rfl) ?_
      refine lv_imul hx hb dX12_copies_169 ?_
      refine lv_topi (fun x53 ex53 => ?_)
      obtain rfl : x53 = 40 := ex53.trans (by decide)
      refine lv_iload_n hx hb dX12_copies_170 rfl (lv_at hl 0 rfl) ?_
      refine lv_iadd hx hb dX12_copies_171 ?_
      refine lv_topi (fun x54 ex54 => ?_)
      refine va_iald hx hb hK hP 8 7 rfl rfl (by rw [ex54]; exact vin_ni (c := 40) (by omega) (by decide)) dX12_copies_172 ?_
      refine lv_topi (fun x55 ex55 => ?_)
      refine va_iast hx hb hK hP hD hS 8 7 rfl rfl (by rw [ex52]; exact vin_ni (c := 0) (by omega) (by decide)) dX12_copies_173 (fun H locs hP hD hS => ?_)
      have hP : va_P (dC, dI) vwCl [(h0, .inr (15, mF q 0)), (q 18, .inl ((cm 18), 3, .inl gl)), (q 19, .inl ((cm 19), 60, .inl (upd g0 x22.toNatClampNeg x25))), (q 20, .inl ((cm 20), 60, .inl (upd g1 x27.toNatClampNeg x30))), (q 21, .inl ((cm 21), 60, .inl (upd g2 x32.toNatClampNeg x35))), (q 22, .inl ((cm 22), 60, .inl (upd g3 x37.toNatClampNeg x40))), (q 23, .inl ((cm 23), 60, .inl (upd g4 x42.toNatClampNeg x45))), (q 24, .inl ((cm 24), 60, .inl (upd g5 x47.toNatClampNeg x50))), (q 25, .inl ((cm 25), 60, .inl (upd g6 x52.toNatClampNeg x55))), (q 26, .inl ((cm 26), 1200, .inl (fun _ => 0))), (q 27, .inl ((cm 27), 1200, .inl (fun _ => 0)))] H := hP
      have hD : va_D A [(h0, .inr (15, mF q 0)), (q 18, .inl ((cm 18), 3, .inl gl)), (q 19, .inl ((cm 19), 60, .inl (upd g0 x22.toNatClampNeg x25))), (q 20, .inl ((cm 20), 60, .inl (upd g1 x27.toNatClampNeg x30))), (q 21, .inl ((cm 21), 60, .inl (upd g2 x32.toNatClampNeg x35))), (q 22, .inl ((cm 22), 60, .inl (upd g3 x37.toNatClampNeg x40))), (q 23, .inl ((cm 23), 60, .inl (upd g4 x42.toNatClampNeg x45))), (q 24, .inl ((cm 24), 60, .inl (upd g5 x47.toNatClampNeg x50))), (q 25, .inl ((cm 25), 60, .inl (upd g6 x52.toNatClampNeg x55))), (q 26, .inl ((cm 26), 1200, .inl (fun _ => 0))), (q 27, .inl ((cm 27), 1200, .inl (fun _ => 0)))] := hD
      obtain ⟨x56, ex56⟩ : ∃ y : Int32, y = (nI i) + 1 := ⟨_, rfl⟩
      refine lv_iinc (v := x56) (lv' := [(3, .int x56), (0, .ref h0), (1, .int 2), (2, .int 0)]) hx hb dX12_copies_174 hl (k := 0) rfl (by rw [ex56]; rfl) (by decide) rfl (fun ls hl => ?_)
      refine lv_goto (tgt := 14) hx hb dX12_copies_177 (by decide) ?_
      obtain rfl : x56 = nI (i + 1) := ex56.trans (nI_1 i)
      exact ih2 (i + 1) (by omega) gl (upd g0 x22.toNatClampNeg x25) (upd g1 x27.toNatClampNeg x30) (upd g2 x32.toNatClampNeg x35) (upd g3 x37.toNatClampNeg x40) (upd g4 x42.toNatClampNeg x45) (upd g5 x47.toNatClampNeg x50) (upd g6 x52.toNatClampNeg x55) _ _ (hP.sub [0, 1, 2, 3, 4, 5, 6, 7, 8, 9, 10] rfl) (hD.sub [0, 1, 2, 3, 4, 5, 6, 7, 8, 9, 10] (by decide) rfl) hS ls (lv_sub hl [0, 1, 2, 3] rfl)
  exact key2 20 0 (by decide) (upd fl (0 : Int32).toNatClampNeg x1) (fun _ => 0) (fun _ => 0) (fun _ => 0) (fun _ => 0) (fun _ => 0) (fun _ => 0) (fun _ => 0) _ _ (hP.sub [0, 1, 2, 3, 4, 5, 6, 7, 8, 9, 10] rfl) (hD.sub [0, 1, 2, 3, 4, 5, 6, 7, 8, 9, 10] (by decide) rfl) hS ls (lv_sub hl [0, 1, 2, 3] rfl)
def w_m_copies1 : List Cond := .code yX12_copies cX12_copies 4 none :: ([.fieldLink RX12 42 "SeaLandModel" "lines" "[I", .fieldLink RX12 66 "SeaLandModel" "step" "[I", .fieldLink RX12 69 "SeaLandModel" "than" "[I", .fieldLink RX12 45 "SeaLandModel" "sort" "[I", .fieldLink RX12 48 "SeaLandModel" "told" "[I", .fieldLink RX12 51 "SeaLandModel" "winter" "[I", .fieldLink RX12 54 "SeaLandModel" "from" "[I", .fieldLink RX12 57 "SeaLandModel" "to" "[I", .fieldLink RX12 60 "SeaLandModel" "begins" "[I", .fieldLink RX12 63 "SeaLandModel" "ends" "[I"] ++ bs)
set_option maxHeartbeats 4000000 in
set_option maxRecDepth 100000 in
theorem m_copies1 (l : Launch) (dC : Nat → ClassId) (dI : Nat → Nat → Nat) (h0 : Nat) (q : Nat → Nat) (cm : Nat → ClassId) (fl : Nat → Int32) (sz : Nat) : Met l yX12_copies w_m_copies1 ({ frames := 0, cells := 0, slots := 0, locals := 0 }) (va_Pc [.ref h0, .int 2, .int 1] (fun U => U.heap.size = sz ∧ va_P (dC, dI) vwCl [(h0, .inr (15, mF q 0)), (q 18, .inl ((cm 18), 3, .inl fl)), (q 19, .inl ((cm 19), 60, .inl (fun _ => 0))), (q 20, .inl ((cm 20), 60, .inl (fun _ => 0))), (q 21, .inl ((cm 21), 60, .inl (fun _ => 0))), (q 22, .inl ((cm 22), 60, .inl (fun _ => 0))), (q 23, .inl ((cm 23), 60, .inl (fun _ => 0))), (q 24, .inl ((cm 24), 60, .inl (fun _ => 0))), (q 25, .inl ((cm 25), 60, .inl (fun _ => 0))), (q 26, .inl ((cm 26), 1200, .inl (fun _ => 0))), (q 27, .inl ((cm 27), 1200, .inl (fun _ => 0)))] U.heap ∧ va_K (dC, dI) vwCl [((cm 18), .int), ((cm 19), .int), ((cm 20), .int), ((cm 21), .int), ((cm 22), .int), ((cm 23), .int), ((cm 24), .int), ((cm 25), .int), ((cm 26), .int), ((cm 27), .int)] U ∧ va_D (fun _ => True) [(h0, .inr (15, mF q 0)), (q 18, .inl ((cm 18), 3, .inl fl)), (q 19, .inl ((cm 19), 60, .inl (fun _ => 0))), (q 20, .inl ((cm 20), 60, .inl (fun _ => 0))), (q 21, .inl ((cm 21), 60, .inl (fun _ => 0))), (q 22, .inl ((cm 22), 60, .inl (fun _ => 0))), (q 23, .inl ((cm 23), 60, .inl (fun _ => 0))), (q 24, .inl ((cm 24), 60, .inl (fun _ => 0))), (q 25, .inl ((cm 25), 60, .inl (fun _ => 0))), (q 26, .inl ((cm 26), 1200, .inl (fun _ => 0))), (q 27, .inl ((cm 27), 1200, .inl (fun _ => 0)))])) (va_Qv (fun (u : Unit) => True) (fun (_ : Unit) (t : State) => va_P (dC, dI) vwCl [(h0, .inr (15, mF q 0))] t.heap ∧ va_D (va_A [(h0, .inr (15, mF q 0)), (q 18, .inl ((cm 18), 3, .inl fl)), (q 19, .inl ((cm 19), 60, .inl (fun _ => 0))), (q 20, .inl ((cm 20), 60, .inl (fun _ => 0))), (q 21, .inl ((cm 21), 60, .inl (fun _ => 0))), (q 22, .inl ((cm 22), 60, .inl (fun _ => 0))), (q 23, .inl ((cm 23), 60, .inl (fun _ => 0))), (q 24, .inl ((cm 24), 60, .inl (fun _ => 0))), (q 25, .inl ((cm 25), 60, .inl (fun _ => 0))), (q 26, .inl ((cm 26), 1200, .inl (fun _ => 0))), (q 27, .inl ((cm 27), 1200, .inl (fun _ => 0)))] sz) [(h0, .inr (15, mF q 0))]) (va_A [(h0, .inr (15, mF q 0)), (q 18, .inl ((cm 18), 3, .inl fl)), (q 19, .inl ((cm 19), 60, .inl (fun _ => 0))), (q 20, .inl ((cm 20), 60, .inl (fun _ => 0))), (q 21, .inl ((cm 21), 60, .inl (fun _ => 0))), (q 22, .inl ((cm 22), 60, .inl (fun _ => 0))), (q 23, .inl ((cm 23), 60, .inl (fun _ => 0))), (q 24, .inl ((cm 24), 60, .inl (fun _ => 0))), (q 25, .inl ((cm 25), 60, .inl (fun _ => 0))), (q 26, .inl ((cm 26), 1200, .inl (fun _ => 0))), (q 27, .inl ((cm 27), 1200, .inl (fun _ => 0)))] sz)) 0 0 (va_A [(h0, .inr (15, mF q 0)), (q 18, .inl ((cm 18), 3, .inl fl)), (q 19, .inl ((cm 19), 60, .inl (fun _ => 0))), (q 20, .inl ((cm 20), 60, .inl (fun _ => 0))), (q 21, .inl ((cm 21), 60, .inl (fun _ => 0))), (q 22, .inl ((cm 22), 60, .inl (fun _ => 0))), (q 23, .inl ((cm 23), 60, .inl (fun _ => 0))), (q 24, .inl ((cm 24), 60, .inl (fun _ => 0))), (q 25, .inl ((cm 25), 60, .inl (fun _ => 0))), (q 26, .inl ((cm 26), 1200, .inl (fun _ => 0))), (q 27, .inl ((cm 27), 1200, .inl (fun _ => 0)))] sz) := by
  refine Met.ofW (cc := cX12_copies) (maxL := 4) (ret := none) (by decide) rfl ?_
  intro p e s m args below meth c s₁ B hml hv
  obtain ⟨rfl, hsz, hP, hK, hD0⟩ := hv
  have hx := B.exec
  have hb := B.bytes
  have hr := B.returns
  have hts := atoms_spec (ws := w_m_copies1) B.pre
  have hown : s.vm.findClass RX12 = some m.cls := findClass_of_methodNamed B.named
  have hlocks := B.notSynchronized
  subst hsz
  have hD := hD0.self (sz := s.heap.size)
  generalize hAe : va_A [(h0, .inr (15, mF q 0)), (q 18, .inl ((cm 18), 3, .inl fl)), (q 19, .inl ((cm 19), 60, .inl (fun _ => 0))), (q 20, .inl ((cm 20), 60, .inl (fun _ => 0))), (q 21, .inl ((cm 21), 60, .inl (fun _ => 0))), (q 22, .inl ((cm 22), 60, .inl (fun _ => 0))), (q 23, .inl ((cm 23), 60, .inl (fun _ => 0))), (q 24, .inl ((cm 24), 60, .inl (fun _ => 0))), (q 25, .inl ((cm 25), 60, .inl (fun _ => 0))), (q 26, .inl ((cm 26), 1200, .inl (fun _ => 0))), (q 27, .inl ((cm 27), 1200, .inl (fun _ => 0)))] s.heap.size = A at hD ⊢
  have hA : ∀ q : Nat, s.heap.size ≤ q → A q := fun q h => by rw [← hAe]; exact Or.inr h
  have hS : va_S A s.heap s.heap [] := va_S.rf
  have hP : va_P (dC, dI) vwCl [(h0, .inr (15, mF q 0)), (q 18, .inl ((cm 18), 3, .inl fl)), (q 19, .inl ((cm 19), 60, .inl (fun _ => 0))), (q 20, .inl ((cm 20), 60, .inl (fun _ => 0))), (q 21, .inl ((cm 21), 60, .inl (fun _ => 0))), (q 22, .inl ((cm 22), 60, .inl (fun _ => 0))), (q 23, .inl ((cm 23), 60, .inl (fun _ => 0))), (q 24, .inl ((cm 24), 60, .inl (fun _ => 0))), (q 25, .inl ((cm 25), 60, .inl (fun _ => 0))), (q 26, .inl ((cm 26), 1200, .inl (fun _ => 0))), (q 27, .inl ((cm 27), 1200, .inl (fun _ => 0)))] s.heap := hP
  have hl := lv_entry ([.ref h0, .int 2, .int 1]) (n := 4) (Nat.le_of_ble_eq_true rfl)
  rw [lg_entry_eq]
  generalize (lg_sl ([.ref h0, .int 2, .int 1]) ++ List.replicate (4 - (lg_sl ([.ref h0, .int 2, .int 1])).length) Slot.unset).toArray = ls at hl ⊢
  have hl : lv_has ls 4 [(0, .ref h0), (1, .int 2), (2, .int 1)] := hl
  refine lv_aload_n hx hb dX12_copies_0 rfl (lv_at hl 0 rfl) ?_
  refine va_get (D := (dC, dI)) (ci := 15) (v := .ref (q 18)) (C := RX12) (T := TX12) (N := 78) hx hb hts bF_X12 hown hK hP 0 rfl rfl 18 (by decide) (ht_at hts 0 rfl) (fun _ h9 => h9) rfl dX12_copies_1 ?_
  refine lv_iload_n hx hb dX12_copies_4 rfl (lv_at hl 2 rfl) ?_
  refine lv_aload_n hx hb dX12_copies_5 rfl (lv_at hl 0 rfl) ?_
  refine va_get (D := (dC, dI)) (ci := 15) (v := .ref (q 18)) (C := RX12) (T := TX12) (N := 78) hx hb hts bF_X12 hown hK hP 0 rfl rfl 18 (by decide) (ht_at hts 0 rfl) (fun _ h9 => h9) rfl dX12_copies_6 ?_
  refine lv_iload_n hx hb dX12_copies_9 rfl (lv_at hl 1 rfl) ?_
  refine va_iald hx hb hK hP 1 0 rfl rfl (by unfold vp_in; decide) dX12_copies_10 ?_
  refine lv_topi (fun x1 ex1 => ?_)
  refine va_iast hx hb hK hP hD hS 1 0 rfl rfl (by unfold vp_in; decide) dX12_copies_11 (fun H locs hP hD hS => ?_)
  have hP : va_P (dC, dI) vwCl [(h0, .inr (15, mF q 0)), (q 18, .inl ((cm 18), 3, .inl (upd fl (1 : Int32).toNatClampNeg x1))), (q 19, .inl ((cm 19), 60, .inl (fun _ => 0))), (q 20, .inl ((cm 20), 60, .inl (fun _ => 0))), (q 21, .inl ((cm 21), 60, .inl (fun _ => 0))), (q 22, .inl ((cm 22), 60, .inl (fun _ => 0))), (q 23, .inl ((cm 23), 60, .inl (fun _ => 0))), (q 24, .inl ((cm 24), 60, .inl (fun _ => 0))), (q 25, .inl ((cm 25), 60, .inl (fun _ => 0))), (q 26, .inl ((cm 26), 1200, .inl (fun _ => 0))), (q 27, .inl ((cm 27), 1200, .inl (fun _ => 0)))] H := hP
  have hD : va_D A [(h0, .inr (15, mF q 0)), (q 18, .inl ((cm 18), 3, .inl (upd fl (1 : Int32).toNatClampNeg x1))), (q 19, .inl ((cm 19), 60, .inl (fun _ => 0))), (q 20, .inl ((cm 20), 60, .inl (fun _ => 0))), (q 21, .inl ((cm 21), 60, .inl (fun _ => 0))), (q 22, .inl ((cm 22), 60, .inl (fun _ => 0))), (q 23, .inl ((cm 23), 60, .inl (fun _ => 0))), (q 24, .inl ((cm 24), 60, .inl (fun _ => 0))), (q 25, .inl ((cm 25), 60, .inl (fun _ => 0))), (q 26, .inl ((cm 26), 1200, .inl (fun _ => 0))), (q 27, .inl ((cm 27), 1200, .inl (fun _ => 0)))] := hD
  refine lv_iconst (v := 0) hx hb dX12_copies_12 (by decide) ?_
  refine lv_istore_n (lv' := [(3, .int 0), (0, .ref h0), (1, .int 2), (2, .int 1)]) hx hb dX12_copies_13 rfl hl (by decide) rfl (fun ls hl => ?_)
  have key2 : ∀ (n2 i : Nat), i + n2 = 20 → ∀ (gl g0 g1 g2 g3 g4 g5 g6 : Nat → Int32), ∀ (H : Heap) (locs : List Loc), va_P (dC, dI) vwCl [(h0, .inr (15, mF q 0)), (q 18, .inl ((cm 18), 3, .inl gl)), (q 19, .inl ((cm 19), 60, .inl g0)), (q 20, .inl ((cm 20), 60, .inl g1)), (q 21, .inl ((cm 21), 60, .inl g2)), (q 22, .inl ((cm 22), 60, .inl g3)), (q 23, .inl ((cm 23), 60, .inl g4)), (q 24, .inl ((cm 24), 60, .inl g5)), (q 25, .inl ((cm 25), 60, .inl g6)), (q 26, .inl ((cm 26), 1200, .inl (fun _ => 0))), (q 27, .inl ((cm 27), 1200, .inl (fun _ => 0)))] H → va_D A [(h0, .inr (15, mF q 0)), (q 18, .inl ((cm 18), 3, .inl gl)), (q 19, .inl ((cm 19), 60, .inl g0)), (q 20, .inl ((cm 20), 60, .inl g1)), (q 21, .inl ((cm 21), 60, .inl g2)), (q 22, .inl ((cm 22), 60, .inl g3)), (q 23, .inl ((cm 23), 60, .inl g4)), (q 24, .inl ((cm 24), 60, .inl g5)), (q 25, .inl ((cm 25), 60, .inl g6)), (q 26, .inl ((cm 26), 1200, .inl (fun _ => 0))), (q 27, .inl ((cm 27), 1200, .inl (fun _ => 0)))] → va_S A s.heap H locs → ∀ ls : Array Slot, lv_has ls 4 [(3, .int (nI i)), (0, .ref h0), (1, .int 2), (2, .int 1)] → W p l e (headSpec w_m_copies1 ({ frames := 0, cells := 0, slots := 0, locals := 0 })).room s m #[.ref h0, .int 2, .int 1] below meth c H locs 0 0 (MQ below (va_Qv (fun (u : Unit) => True) (fun (_ : Unit) (t : State) => va_P (dC, dI) vwCl [(h0, .inr (15, mF q 0))] t.heap ∧ va_D A [(h0, .inr (15, mF q 0))]) A) #[.ref h0, .int 2, .int 1] s 0 0 A) (F0 m 14 ls []) := by
    intro n2
    induction n2 with
    | zero =>
      intro i hn2 gl g0 g1 g2 g3 g4 g5 g6 H locs hP hD hS ls hl
      obtain rfl : 20 = i := by omega
      refine lv_iload_n hx hb dX12_copies_14 rfl (lv_at hl 0 rfl) ?_
      refine lv_bipush (v := 20) hx hb dX12_copies_15 (by decide) ?_
      refine lv_icmp_ge (tgt := 180) hx hb dX12_copies_17 (by decide) (fun c3 => ?_) (fun c3 => absurd c3 (by decide))
      refine lv_iconst (v := 0) hx hb dX12_copies_180 (by decide) ?_
      refine lv_istore_n (lv' := [(3, .int 0), (0, .ref h0), (1, .int 2), (2, .int 1)]) hx hb dX12_copies_181 rfl hl (by decide) rfl (fun ls hl => ?_)
      have key4 : ∀ (n4 i : Nat), i + n4 = 400 → ∀ (k0 k1 : Nat → Int32), ∀ (H : Heap) (locs : List Loc), va_P (dC, dI) vwCl [(h0, .inr (15, mF q 0)), (q 18, .inl ((cm 18), 3, .inl gl)), (q 19, .inl ((cm 19), 60, .inl g0)), (q 20, .inl ((cm 20), 60, .inl g1)), (q 21, .inl ((cm 21), 60, .inl g2)), (q 22, .inl ((cm 22), 60, .inl g3)), (q 23, .inl ((cm 23), 60, .inl g4)), (q 24, .inl ((cm 24), 60, .inl g5)), (q 25, .inl ((cm 25), 60, .inl g6)), (q 26, .inl ((cm 26), 1200, .inl k0)), (q 27, .inl ((cm 27), 1200, .inl k1))] H → va_D A [(h0, .inr (15, mF q 0)), (q 18, .inl ((cm 18), 3, .inl gl)), (q 19, .inl ((cm 19), 60, .inl g0)), (q 20, .inl ((cm 20), 60, .inl g1)), (q 21, .inl ((cm 21), 60, .inl g2)), (q 22, .inl ((cm 22), 60, .inl g3)), (q 23, .inl ((cm 23), 60, .inl g4)), (q 24, .inl ((cm 24), 60, .inl g5)), (q 25, .inl ((cm 25), 60, .inl g6)), (q 26, .inl ((cm 26), 1200, .inl k0)), (q 27, .inl ((cm 27), 1200, .inl k1))] → va_S A s.heap H locs → ∀ ls : Array Slot, lv_has ls 4 [(3, .int (nI i)), (0, .ref h0), (1, .int 2), (2, .int 1)] → W p l e (headSpec w_m_copies1 ({ frames := 0, cells := 0, slots := 0, locals := 0 })).room s m #[.ref h0, .int 2, .int 1] below meth c H locs 0 0 (MQ below (va_Qv (fun (u : Unit) => True) (fun (_ : Unit) (t : State) => va_P (dC, dI) vwCl [(h0, .inr (15, mF q 0))] t.heap ∧ va_D A [(h0, .inr (15, mF q 0))]) A) #[.ref h0, .int 2, .int 1] s 0 0 A) (F0 m 182 ls []) := by
        intro n4
        induction n4 with
        | zero =>
          intro i hn4 k0 k1 H locs hP hD hS ls hl
          obtain rfl : 400 = i := by omega
          refine lv_iload_n hx hb dX12_copies_182 rfl (lv_at hl 0 rfl) ?_
          refine lv_sipush (v := 400) hx hb dX12_copies_183 (by decide) ?_
          refine lv_icmp_ge (tgt := 243) hx hb dX12_copies_186 (by decide) (fun c5 => ?_) (fun c5 => absurd c5 (by decide))
          exact W.vret hx hb hr (fun t ht hW => ⟨⟨(), rfl, (by trivial), by rw [ht]; exact hP.sub (ws' := [(h0, .inr (15, mF q 0))]) [0] rfl, hD.sub (ws' := [(h0, .inr (15, mF q 0))]) [0] (by decide) rfl⟩, hS.F ht⟩) hS.2.2 dX12_copies_243
        | succ n4 ih4 =>
          intro i hn4 k0 k1 H locs hP hD hS ls hl
          have hlt6 : i < 400 := by omega
          refine lv_iload_n hx hb dX12_copies_182 rfl (lv_at hl 0 rfl) ?_
          refine lv_sipush (v := 400) hx hb dX12_copies_183 (by decide) ?_
          refine lv_icmp_ge (tgt := 243) hx hb dX12_copies_186 (by decide) (fun c7 => absurd c7 (nI_ge (b := 400) hlt6 (by decide))) (fun c7 => ?_)
          refine lv_aload_n hx hb dX12_copies_189 rfl (lv_at hl 1 rfl) ?_
          refine va_get (D := (dC, dI)) (ci := 15) (v := .ref (q 26)) (C := RX12) (T := TX12) (N := 78) hx hb hts bF_X12 hown hK hP 0 rfl rfl 26 (by decide) (ht_at hts 1 rfl) (fun _ h9 => h9) rfl dX12_copies_190 ?_
          refine lv_sipush (v := 400) hx hb dX12_copies_193 (by decide) ?_
          refine lv_iload_n hx hb dX12_copies_196 rfl (lv_at hl 3 rfl) ?_
          refine lv_imul hx hb dX12_copies_197 ?_
          refine lv_topi (fun x8 ex8 => ?_)
          obtain rfl : x8 = 400 := ex8.trans (by decide)
          refine lv_iload_n hx hb dX12_copies_198 rfl (lv_at hl 0 rfl) ?_
          refine lv_iadd hx hb dX12_copies_199 ?_
          refine lv_topi (fun x9 ex9 => ?_)
          refine lv_aload_n hx hb dX12_copies_200 rfl (lv_at hl 1 rfl) ?_
          refine va_get (D := (dC, dI)) (ci := 15) (v := .ref (q 26)) (C := RX12) (T := TX12) (N := 78) hx hb hts bF_X12 hown hK hP 0 rfl rfl 26 (by decide) (ht_at hts 1 rfl) (fun _ h9 => h9) rfl dX12_copies_201 ?_
          refine lv_sipush (v := 400) hx hb dX12_copies_204 (by decide) ?_
          refine lv_iload_n hx hb dX12_copies_207 rfl (lv_at hl 2 rfl) ?_
          refine lv_imul hx hb dX12_copies_208 ?_
          refine lv_topi (fun x10 ex10 => ?_)
          obtain rfl : x10 = 800 := ex10.trans (by decide)
          refine lv_iload_n hx hb dX12_copies_209 rfl (lv_at hl 0 rfl) ?_
          refine lv_iadd hx hb dX12_copies_210 ?_
          refine lv_topi (fun x11 ex11 => ?_)
          refine va_iald hx hb hK hP 9 8 rfl rfl (by rw [ex11]; exact vin_ni (c := 800) (by omega) (by decide)) dX12_copies_211 ?_
          refine lv_topi (fun x12 ex12 => ?_)
          refine va_iast hx hb hK hP hD hS 9 8 rfl rfl (by rw [ex9]; exact vin_ni (c := 400) (by omega) (by decide)) dX12_copies_212 (fun H locs hP hD hS => ?_)
          have hP : va_P (dC, dI) vwCl [(h0, .inr (15, mF q 0)), (q 18, .inl ((cm 18), 3, .inl gl)), (q 19, .inl ((cm 19), 60, .inl g0)), (q 20, .inl ((cm 20), 60, .inl g1)), (q 21, .inl ((cm 21), 60, .inl g2)), (q 22, .inl ((cm 22), 60, .inl g3)), (q 23, .inl ((cm 23), 60, .inl g4)), (q 24, .inl ((cm 24), 60, .inl g5)), (q 25, .inl ((cm 25), 60, .inl g6)), (q 26, .inl ((cm 26), 1200, .inl (upd k0 x9.toNatClampNeg x12))), (q 27, .inl ((cm 27), 1200, .inl k1))] H := hP
          have hD : va_D A [(h0, .inr (15, mF q 0)), (q 18, .inl ((cm 18), 3, .inl gl)), (q 19, .inl ((cm 19), 60, .inl g0)), (q 20, .inl ((cm 20), 60, .inl g1)), (q 21, .inl ((cm 21), 60, .inl g2)), (q 22, .inl ((cm 22), 60, .inl g3)), (q 23, .inl ((cm 23), 60, .inl g4)), (q 24, .inl ((cm 24), 60, .inl g5)), (q 25, .inl ((cm 25), 60, .inl g6)), (q 26, .inl ((cm 26), 1200, .inl (upd k0 x9.toNatClampNeg x12))), (q 27, .inl ((cm 27), 1200, .inl k1))] := hD
          refine lv_aload_n hx hb dX12_copies_213 rfl (lv_at hl 1 rfl) ?_
          refine va_get (D := (dC, dI)) (ci := 15) (v := .ref (q 27)) (C := RX12) (T := TX12) (N := 78) hx hb hts bF_X12 hown hK hP 0 rfl rfl 27 (by decide) (ht_at hts 2 rfl) (fun _ h9 => h9) rfl dX12_copies_214 ?_
          refine lv_sipush (v := 400) hx hb dX12_copies_217 (by decide) ?_
          refine lv_iload_n hx hb dX12_copies_220 rfl (lv_at hl 3 rfl) ?_
          refine lv_imul hx hb dX12_copies_221 ?_
          refine lv_topi (fun x13 ex13 => ?_)
          obtain rfl : x13 = 400 := ex13.trans (by decide)
          refine lv_iload_n hx hb dX12_copies_222 rfl (lv_at hl 0 rfl) ?_
          refine lv_iadd hx hb dX12_copies_223 ?_
          refine lv_topi (fun x14 ex14 => ?_)
          refine lv_aload_n hx hb dX12_copies_224 rfl (lv_at hl 1 rfl) ?_
          refine va_get (D := (dC, dI)) (ci := 15) (v := .ref (q 27)) (C := RX12) (T := TX12) (N := 78) hx hb hts bF_X12 hown hK hP 0 rfl rfl 27 (by decide) (ht_at hts 2 rfl) (fun _ h9 => h9) rfl dX12_copies_225 ?_
          refine lv_sipush (v := 400) hx hb dX12_copies_228 (by decide) ?_
          refine lv_iload_n hx hb dX12_copies_231 rfl (lv_at hl 2 rfl) ?_
          refine lv_imul hx hb dX12_copies_232 ?_
          refine lv_topi (fun x15 ex15 => ?_)
          obtain rfl : x15 = 800 := ex15.trans (by decide)
          refine lv_iload_n hx hb dX12_copies_233 rfl (lv_at hl 0 rfl) ?_
          refine lv_iadd hx hb dX12_copies_234 ?_
          refine lv_topi (fun x16 ex16 => ?_)
          refine va_iald hx hb hK hP 10 9 rfl rfl (by rw [ex16]; exact vin_ni (c := 800) (by omega) (by decide)) dX12_copies_235 ?_
          refine lv_topi (fun x17 ex17 => ?_)
          refine va_iast hx hb hK hP hD hS 10 9 rfl rfl (by rw [ex14]; exact vin_ni (c := 400) (by omega) (by decide)) dX12_copies_236 (fun H locs hP hD hS => ?_)
          have hP : va_P (dC, dI) vwCl [(h0, .inr (15, mF q 0)), (q 18, .inl ((cm 18), 3, .inl gl)), (q 19, .inl ((cm 19), 60, .inl g0)), (q 20, .inl ((cm 20), 60, .inl g1)), (q 21, .inl ((cm 21), 60, .inl g2)), (q 22, .inl ((cm 22), 60, .inl g3)), (q 23, .inl ((cm 23), 60, .inl g4)), (q 24, .inl ((cm 24), 60, .inl g5)), (q 25, .inl ((cm 25), 60, .inl g6)), (q 26, .inl ((cm 26), 1200, .inl (upd k0 x9.toNatClampNeg x12))), (q 27, .inl ((cm 27), 1200, .inl (upd k1 x14.toNatClampNeg x17)))] H := hP
          have hD : va_D A [(h0, .inr (15, mF q 0)), (q 18, .inl ((cm 18), 3, .inl gl)), (q 19, .inl ((cm 19), 60, .inl g0)), (q 20, .inl ((cm 20), 60, .inl g1)), (q 21, .inl ((cm 21), 60, .inl g2)), (q 22, .inl ((cm 22), 60, .inl g3)), (q 23, .inl ((cm 23), 60, .inl g4)), (q 24, .inl ((cm 24), 60, .inl g5)), (q 25, .inl ((cm 25), 60, .inl g6)), (q 26, .inl ((cm 26), 1200, .inl (upd k0 x9.toNatClampNeg x12))), (q 27, .inl ((cm 27), 1200, .inl (upd k1 x14.toNatClampNeg x17)))] := hD
          obtain ⟨x18, ex18⟩ : ∃ y : Int32, y = (nI i) + 1 := ⟨_, rfl⟩
          refine lv_iinc (v := x18) (lv' := [(3, .int x18), (0, .ref h0), (1, .int 2), (2, .int 1)]) hx hb dX12_copies_237 hl (k := 0) rfl (by rw [ex18]; rfl) (by decide) rfl (fun ls hl => ?_)
          refine lv_goto (tgt := 182) hx hb dX12_copies_240 (by decide) ?_
          obtain rfl : x18 = nI (i + 1) := ex18.trans (nI_1 i)
          exact ih4 (i + 1) (by omega) (upd k0 x9.toNatClampNeg x12) (upd k1 x14.toNatClampNeg x17) _ _ (hP.sub [0, 1, 2, 3, 4, 5, 6, 7, 8, 9, 10] rfl) (hD.sub [0, 1, 2, 3, 4, 5, 6, 7, 8, 9, 10] (by decide) rfl) hS ls (lv_sub hl [0, 1, 2, 3] rfl)
      exact key4 400 0 (by decide) (fun _ => 0) (fun _ => 0) _ _ (hP.sub [0, 1, 2, 3, 4, 5, 6, 7, 8, 9, 10] rfl) (hD.sub [0, 1, 2, 3, 4, 5, 6, 7, 8, 9, 10] (by decide) rfl) hS ls (lv_sub hl [0, 1, 2, 3] rfl)
    | succ n2 ih2 =>
      intro i hn2 gl g0 g1 g2 g3 g4 g5 g6 H locs hP hD hS ls hl
      have hlt19 : i < 20 := by omega
      refine lv_iload_n hx hb dX12_copies_14 rfl (lv_at hl 0 rfl) ?_
      refine lv_bipush (v := 20) hx hb dX12_copies_15 (by decide) ?_
      refine lv_icmp_ge (tgt := 180) hx hb dX12_copies_17 (by decide) (fun c20 => absurd c20 (nI_ge (b := 20) hlt19 (by decide))) (fun c20 => ?_)
      refine lv_aload_n hx hb dX12_copies_20 rfl (lv_at hl 1 rfl) ?_
      refine va_get (D := (dC, dI)) (ci := 15) (v := .ref (q 19)) (C := RX12) (T := TX12) (N := 78) hx hb hts bF_X12 hown hK hP 0 rfl rfl 19 (by decide) (ht_at hts 3 rfl) (fun _ h9 => h9) rfl dX12_copies_21 ?_
      refine lv_bipush (v := 20) hx hb dX12_copies_24 (by decide) ?_
      refine lv_iload_n hx hb dX12_copies_26 rfl (lv_at hl 3 rfl) ?_
      refine lv_imul hx hb dX12_copies_27 ?_
      refine lv_topi (fun x21 ex21 => ?_)
      obtain rfl : x21 = 20 := ex21.trans (by decide)
      refine lv_iload_n hx hb dX12_copies_28 rfl (lv_at hl 0 rfl) ?_
      refine lv_iadd hx hb dX12_copies_29 ?_
      refine lv_topi (fun x22 ex22 => ?_)
      refine lv_aload_n hx hb dX12_copies_30 rfl (lv_at hl 1 rfl) ?_
      refine va_get (D := (dC, dI)) (ci := 15) (v := .ref (q 19)) (C := RX12) (T := TX12) (N := 78) hx hb hts bF_X12 hown hK hP 0 rfl rfl 19 (by decide) (ht_at hts 3 rfl) (fun _ h9 => h9) rfl dX12_copies_31 ?_
      refine lv_bipush (v := 20) hx hb dX12_copies_34 (by decide) ?_
      refine lv_iload_n hx hb dX12_copies_36 rfl (lv_at hl 2 rfl) ?_
      refine lv_imul hx hb dX12_copies_37 ?_
      refine lv_topi (fun x23 ex23 => ?_)
      obtain rfl : x23 = 40 := ex23.trans (by decide)
      refine lv_iload_n hx hb dX12_copies_38 rfl (lv_at hl 0 rfl) ?_
      refine lv_iadd hx hb dX12_copies_39 ?_
      refine lv_topi (fun x24 ex24 => ?_)
      refine va_iald hx hb hK hP 2 1 rfl rfl (by rw [ex24]; exact vin_ni (c := 40) (by omega) (by decide)) dX12_copies_40 ?_
      refine lv_topi (fun x25 ex25 => ?_)
      refine va_iast hx hb hK hP hD hS 2 1 rfl rfl (by rw [ex22]; exact vin_ni (c := 20) (by omega) (by decide)) dX12_copies_41 (fun H locs hP hD hS => ?_)
      have hP : va_P (dC, dI) vwCl [(h0, .inr (15, mF q 0)), (q 18, .inl ((cm 18), 3, .inl gl)), (q 19, .inl ((cm 19), 60, .inl (upd g0 x22.toNatClampNeg x25))), (q 20, .inl ((cm 20), 60, .inl g1)), (q 21, .inl ((cm 21), 60, .inl g2)), (q 22, .inl ((cm 22), 60, .inl g3)), (q 23, .inl ((cm 23), 60, .inl g4)), (q 24, .inl ((cm 24), 60, .inl g5)), (q 25, .inl ((cm 25), 60, .inl g6)), (q 26, .inl ((cm 26), 1200, .inl (fun _ => 0))), (q 27, .inl ((cm 27), 1200, .inl (fun _ => 0)))] H := hP
      have hD : va_D A [(h0, .inr (15, mF q 0)), (q 18, .inl ((cm 18), 3, .inl gl)), (q 19, .inl ((cm 19), 60, .inl (upd g0 x22.toNatClampNeg x25))), (q 20, .inl ((cm 20), 60, .inl g1)), (q 21, .inl ((cm 21), 60, .inl g2)), (q 22, .inl ((cm 22), 60, .inl g3)), (q 23, .inl ((cm 23), 60, .inl g4)), (q 24, .inl ((cm 24), 60, .inl g5)), (q 25, .inl ((cm 25), 60, .inl g6)), (q 26, .inl ((cm 26), 1200, .inl (fun _ => 0))), (q 27, .inl ((cm 27), 1200, .inl (fun _ => 0)))] := hD
      refine lv_aload_n hx hb dX12_copies_42 rfl (lv_at hl 1 rfl) ?_
      refine va_get (D := (dC, dI)) (ci := 15) (v := .ref (q 20)) (C := RX12) (T := TX12) (N := 78) hx hb hts bF_X12 hown hK hP 0 rfl rfl 20 (by decide) (ht_at hts 4 rfl) (fun _ h9 => h9) rfl dX12_copies_43 ?_
      refine lv_bipush (v := 20) hx hb dX12_copies_46 (by decide) ?_
      refine lv_iload_n hx hb dX12_copies_48 rfl (lv_at hl 3 rfl) ?_
      refine lv_imul hx hb dX12_copies_49 ?_
      refine lv_topi (fun x26 ex26 => ?_)
      obtain rfl : x26 = 20 := ex26.trans (by decide)
      refine lv_iload_n hx hb dX12_copies_50 rfl (lv_at hl 0 rfl) ?_
      refine lv_iadd hx hb dX12_copies_51 ?_
      refine lv_topi (fun x27 ex27 => ?_)
      refine lv_aload_n hx hb dX12_copies_52 rfl (lv_at hl 1 rfl) ?_
      refine va_get (D := (dC, dI)) (ci := 15) (v := .ref (q 20)) (C := RX12) (T := TX12) (N := 78) hx hb hts bF_X12 hown hK hP 0 rfl rfl 20 (by decide) (ht_at hts 4 rfl) (fun _ h9 => h9) rfl dX12_copies_53 ?_
      refine lv_bipush (v := 20) hx hb dX12_copies_56 (by decide) ?_
      refine lv_iload_n hx hb dX12_copies_58 rfl (lv_at hl 2 rfl) ?_
      refine lv_imul hx hb dX12_copies_59 ?_
      refine lv_topi (fun x28 ex28 => ?_)
      obtain rfl : x28 = 40 := ex28.trans (by decide)
      refine lv_iload_n hx hb dX12_copies_60 rfl (lv_at hl 0 rfl) ?_
      refine lv_iadd hx hb dX12_copies_61 ?_
      refine lv_topi (fun x29 ex29 => ?_)
      refine va_iald hx hb hK hP 3 2 rfl rfl (by rw [ex29]; exact vin_ni (c := 40) (by omega) (by decide)) dX12_copies_62 ?_
      refine lv_topi (fun x30 ex30 => ?_)
      refine va_iast hx hb hK hP hD hS 3 2 rfl rfl (by rw [ex27]; exact vin_ni (c := 20) (by omega) (by decide)) dX12_copies_63 (fun H locs hP hD hS => ?_)
      have hP : va_P (dC, dI) vwCl [(h0, .inr (15, mF q 0)), (q 18, .inl ((cm 18), 3, .inl gl)), (q 19, .inl ((cm 19), 60, .inl (upd g0 x22.toNatClampNeg x25))), (q 20, .inl ((cm 20), 60, .inl (upd g1 x27.toNatClampNeg x30))), (q 21, .inl ((cm 21), 60, .inl g2)), (q 22, .inl ((cm 22), 60, .inl g3)), (q 23, .inl ((cm 23), 60, .inl g4)), (q 24, .inl ((cm 24), 60, .inl g5)), (q 25, .inl ((cm 25), 60, .inl g6)), (q 26, .inl ((cm 26), 1200, .inl (fun _ => 0))), (q 27, .inl ((cm 27), 1200, .inl (fun _ => 0)))] H := hP
      have hD : va_D A [(h0, .inr (15, mF q 0)), (q 18, .inl ((cm 18), 3, .inl gl)), (q 19, .inl ((cm 19), 60, .inl (upd g0 x22.toNatClampNeg x25))), (q 20, .inl ((cm 20), 60, .inl (upd g1 x27.toNatClampNeg x30))), (q 21, .inl ((cm 21), 60, .inl g2)), (q 22, .inl ((cm 22), 60, .inl g3)), (q 23, .inl ((cm 23), 60, .inl g4)), (q 24, .inl ((cm 24), 60, .inl g5)), (q 25, .inl ((cm 25), 60, .inl g6)), (q 26, .inl ((cm 26), 1200, .inl (fun _ => 0))), (q 27, .inl ((cm 27), 1200, .inl (fun _ => 0)))] := hD
      refine lv_aload_n hx hb dX12_copies_64 rfl (lv_at hl 1 rfl) ?_
      refine va_get (D := (dC, dI)) (ci := 15) (v := .ref (q 21)) (C := RX12) (T := TX12) (N := 78) hx hb hts bF_X12 hown hK hP 0 rfl rfl 21 (by decide) (ht_at hts 5 rfl) (fun _ h9 => h9) rfl dX12_copies_65 ?_
      refine lv_bipush (v := 20) hx hb dX12_copies_68 (by decide) ?_
      refine lv_iload_n hx hb dX12_copies_70 rfl (lv_at hl 3 rfl) ?_
      refine lv_imul hx hb dX12_copies_71 ?_
      refine lv_topi (fun x31 ex31 => ?_)
      obtain rfl : x31 = 20 := ex31.trans (by decide)
      refine lv_iload_n hx hb dX12_copies_72 rfl (lv_at hl 0 rfl) ?_
      refine lv_iadd hx hb dX12_copies_73 ?_
      refine lv_topi (fun x32 ex32 => ?_)
      refine lv_aload_n hx hb dX12_copies_74 rfl (lv_at hl 1 rfl) ?_
      refine va_get (D := (dC, dI)) (ci := 15) (v := .ref (q 21)) (C := RX12) (T := TX12) (N := 78) hx hb hts bF_X12 hown hK hP 0 rfl rfl 21 (by decide) (ht_at hts 5 rfl) (fun _ h9 => h9) rfl dX12_copies_75 ?_
      refine lv_bipush (v := 20) hx hb dX12_copies_78 (by decide) ?_
      refine lv_iload_n hx hb dX12_copies_80 rfl (lv_at hl 2 rfl) ?_
      refine lv_imul hx hb dX12_copies_81 ?_
      refine lv_topi (fun x33 ex33 => ?_)
      obtain rfl : x33 = 40 := ex33.trans (by decide)
      refine lv_iload_n hx hb dX12_copies_82 rfl (lv_at hl 0 rfl) ?_
      refine lv_iadd hx hb dX12_copies_83 ?_
      refine lv_topi (fun x34 ex34 => ?_)
      refine va_iald hx hb hK hP 4 3 rfl rfl (by rw [ex34]; exact vin_ni (c := 40) (by omega) (by decide)) dX12_copies_84 ?_
      refine lv_topi (fun x35 ex35 => ?_)
      refine va_iast hx hb hK hP hD hS 4 3 rfl rfl (by rw [ex32]; exact vin_ni (c := 20) (by omega) (by decide)) dX12_copies_85 (fun H locs hP hD hS => ?_)
      have hP : va_P (dC, dI) vwCl [(h0, .inr (15, mF q 0)), (q 18, .inl ((cm 18), 3, .inl gl)), (q 19, .inl ((cm 19), 60, .inl (upd g0 x22.toNatClampNeg x25))), (q 20, .inl ((cm 20), 60, .inl (upd g1 x27.toNatClampNeg x30))), (q 21, .inl ((cm 21), 60, .inl (upd g2 x32.toNatClampNeg x35))), (q 22, .inl ((cm 22), 60, .inl g3)), (q 23, .inl ((cm 23), 60, .inl g4)), (q 24, .inl ((cm 24), 60, .inl g5)), (q 25, .inl ((cm 25), 60, .inl g6)), (q 26, .inl ((cm 26), 1200, .inl (fun _ => 0))), (q 27, .inl ((cm 27), 1200, .inl (fun _ => 0)))] H := hP
      have hD : va_D A [(h0, .inr (15, mF q 0)), (q 18, .inl ((cm 18), 3, .inl gl)), (q 19, .inl ((cm 19), 60, .inl (upd g0 x22.toNatClampNeg x25))), (q 20, .inl ((cm 20), 60, .inl (upd g1 x27.toNatClampNeg x30))), (q 21, .inl ((cm 21), 60, .inl (upd g2 x32.toNatClampNeg x35))), (q 22, .inl ((cm 22), 60, .inl g3)), (q 23, .inl ((cm 23), 60, .inl g4)), (q 24, .inl ((cm 24), 60, .inl g5)), (q 25, .inl ((cm 25), 60, .inl g6)), (q 26, .inl ((cm 26), 1200, .inl (fun _ => 0))), (q 27, .inl ((cm 27), 1200, .inl (fun _ => 0)))] := hD
      refine lv_aload_n hx hb dX12_copies_86 rfl (lv_at hl 1 rfl) ?_
      refine va_get (D := (dC, dI)) (ci := 15) (v := .ref (q 22)) (C := RX12) (T := TX12) (N := 78) hx hb hts bF_X12 hown hK hP 0 rfl rfl 22 (by decide) (ht_at hts 6 rfl) (fun _ h9 => h9) rfl dX12_copies_87 ?_
      refine lv_bipush (v := 20) hx hb dX12_copies_90 (by decide) ?_
      refine lv_iload_n hx hb dX12_copies_92 rfl (lv_at hl 3 rfl) ?_
      refine lv_imul hx hb dX12_copies_93 ?_
      refine lv_topi (fun x36 ex36 => ?_)
      obtain rfl : x36 = 20 := ex36.trans (by decide)
      refine lv_iload_n hx hb dX12_copies_94 rfl (lv_at hl 0 rfl) ?_
      refine lv_iadd hx hb dX12_copies_95 ?_
      refine lv_topi (fun x37 ex37 => ?_)
      refine lv_aload_n hx hb dX12_copies_96 rfl (lv_at hl 1 rfl) ?_
      refine va_get (D := (dC, dI)) (ci := 15) (v := .ref (q 22)) (C := RX12) (T := TX12) (N := 78) hx hb hts bF_X12 hown hK hP 0 rfl rfl 22 (by decide) (ht_at hts 6 rfl) (fun _ h9 => h9) rfl dX12_copies_97 ?_
      refine lv_bipush (v := 20) hx hb dX12_copies_100 (by decide) ?_
      refine lv_iload_n hx hb dX12_copies_102 rfl (lv_at hl 2 rfl) ?_
      refine lv_imul hx hb dX12_copies_103 ?_
      refine lv_topi (fun x38 ex38 => ?_)
      obtain rfl : x38 = 40 := ex38.trans (by decide)
      refine lv_iload_n hx hb dX12_copies_104 rfl (lv_at hl 0 rfl) ?_
      refine lv_iadd hx hb dX12_copies_105 ?_
      refine lv_topi (fun x39 ex39 => ?_)
      refine va_iald hx hb hK hP 5 4 rfl rfl (by rw [ex39]; exact vin_ni (c := 40) (by omega) (by decide)) dX12_copies_106 ?_
      refine lv_topi (fun x40 ex40 => ?_)
      refine va_iast hx hb hK hP hD hS 5 4 rfl rfl (by rw [ex37]; exact vin_ni (c := 20) (by omega) (by decide)) dX12_copies_107 (fun H locs hP hD hS => ?_)
      have hP : va_P (dC, dI) vwCl [(h0, .inr (15, mF q 0)), (q 18, .inl ((cm 18), 3, .inl gl)), (q 19, .inl ((cm 19), 60, .inl (upd g0 x22.toNatClampNeg x25))), (q 20, .inl ((cm 20), 60, .inl (upd g1 x27.toNatClampNeg x30))), (q 21, .inl ((cm 21), 60, .inl (upd g2 x32.toNatClampNeg x35))), (q 22, .inl ((cm 22), 60, .inl (upd g3 x37.toNatClampNeg x40))), (q 23, .inl ((cm 23), 60, .inl g4)), (q 24, .inl ((cm 24), 60, .inl g5)), (q 25, .inl ((cm 25), 60, .inl g6)), (q 26, .inl ((cm 26), 1200, .inl (fun _ => 0))), (q 27, .inl ((cm 27), 1200, .inl (fun _ => 0)))] H := hP
      have hD : va_D A [(h0, .inr (15, mF q 0)), (q 18, .inl ((cm 18), 3, .inl gl)), (q 19, .inl ((cm 19), 60, .inl (upd g0 x22.toNatClampNeg x25))), (q 20, .inl ((cm 20), 60, .inl (upd g1 x27.toNatClampNeg x30))), (q 21, .inl ((cm 21), 60, .inl (upd g2 x32.toNatClampNeg x35))), (q 22, .inl ((cm 22), 60, .inl (upd g3 x37.toNatClampNeg x40))), (q 23, .inl ((cm 23), 60, .inl g4)), (q 24, .inl ((cm 24), 60, .inl g5)), (q 25, .inl ((cm 25), 60, .inl g6)), (q 26, .inl ((cm 26), 1200, .inl (fun _ => 0))), (q 27, .inl ((cm 27), 1200, .inl (fun _ => 0)))] := hD
      refine lv_aload_n hx hb dX12_copies_108 rfl (lv_at hl 1 rfl) ?_
      refine va_get (D := (dC, dI)) (ci := 15) (v := .ref (q 23)) (C := RX12) (T := TX12) (N := 78) hx hb hts bF_X12 hown hK hP 0 rfl rfl 23 (by decide) (ht_at hts 7 rfl) (fun _ h9 => h9) rfl dX12_copies_109 ?_
      refine lv_bipush (v := 20) hx hb dX12_copies_112 (by decide) ?_
      refine lv_iload_n hx hb dX12_copies_114 rfl (lv_at hl 3 rfl) ?_
      refine lv_imul hx hb dX12_copies_115 ?_
      refine lv_topi (fun x41 ex41 => ?_)
      obtain rfl : x41 = 20 := ex41.trans (by decide)
      refine lv_iload_n hx hb dX12_copies_116 rfl (lv_at hl 0 rfl) ?_
      refine lv_iadd hx hb dX12_copies_117 ?_
      refine lv_topi (fun x42 ex42 => ?_)
      refine lv_aload_n hx hb dX12_copies_118 rfl (lv_at hl 1 rfl) ?_
      refine va_get (D := (dC, dI)) (ci := 15) (v := .ref (q 23)) (C := RX12) (T := TX12) (N := 78) hx hb hts bF_X12 hown hK hP 0 rfl rfl 23 (by decide) (ht_at hts 7 rfl) (fun _ h9 => h9) rfl dX12_copies_119 ?_
      refine lv_bipush (v := 20) hx hb dX12_copies_122 (by decide) ?_
      refine lv_iload_n hx hb dX12_copies_124 rfl (lv_at hl 2 rfl) ?_
      refine lv_imul hx hb dX12_copies_125 ?_
      refine lv_topi (fun x43 ex43 => ?_)
      obtain rfl : x43 = 40 := ex43.trans (by decide)
      refine lv_iload_n hx hb dX12_copies_126 rfl (lv_at hl 0 rfl) ?_
      refine lv_iadd hx hb dX12_copies_127 ?_
      refine lv_topi (fun x44 ex44 => ?_)
      refine va_iald hx hb hK hP 6 5 rfl rfl (by rw [ex44]; exact vin_ni (c := 40) (by omega) (by decide)) dX12_copies_128 ?_
      refine lv_topi (fun x45 ex45 => ?_)
      refine va_iast hx hb hK hP hD hS 6 5 rfl rfl (by rw [ex42]; exact vin_ni (c := 20) (by omega) (by decide)) dX12_copies_129 (fun H locs hP hD hS => ?_)
      have hP : va_P (dC, dI) vwCl [(h0, .inr (15, mF q 0)), (q 18, .inl ((cm 18), 3, .inl gl)), (q 19, .inl ((cm 19), 60, .inl (upd g0 x22.toNatClampNeg x25))), (q 20, .inl ((cm 20), 60, .inl (upd g1 x27.toNatClampNeg x30))), (q 21, .inl ((cm 21), 60, .inl (upd g2 x32.toNatClampNeg x35))), (q 22, .inl ((cm 22), 60, .inl (upd g3 x37.toNatClampNeg x40))), (q 23, .inl ((cm 23), 60, .inl (upd g4 x42.toNatClampNeg x45))), (q 24, .inl ((cm 24), 60, .inl g5)), (q 25, .inl ((cm 25), 60, .inl g6)), (q 26, .inl ((cm 26), 1200, .inl (fun _ => 0))), (q 27, .inl ((cm 27), 1200, .inl (fun _ => 0)))] H := hP
      have hD : va_D A [(h0, .inr (15, mF q 0)), (q 18, .inl ((cm 18), 3, .inl gl)), (q 19, .inl ((cm 19), 60, .inl (upd g0 x22.toNatClampNeg x25))), (q 20, .inl ((cm 20), 60, .inl (upd g1 x27.toNatClampNeg x30))), (q 21, .inl ((cm 21), 60, .inl (upd g2 x32.toNatClampNeg x35))), (q 22, .inl ((cm 22), 60, .inl (upd g3 x37.toNatClampNeg x40))), (q 23, .inl ((cm 23), 60, .inl (upd g4 x42.toNatClampNeg x45))), (q 24, .inl ((cm 24), 60, .inl g5)), (q 25, .inl ((cm 25), 60, .inl g6)), (q 26, .inl ((cm 26), 1200, .inl (fun _ => 0))), (q 27, .inl ((cm 27), 1200, .inl (fun _ => 0)))] := hD
      refine lv_aload_n hx hb dX12_copies_130 rfl (lv_at hl 1 rfl) ?_
      refine va_get (D := (dC, dI)) (ci := 15) (v := .ref (q 24)) (C := RX12) (T := TX12) (N := 78) hx hb hts bF_X12 hown hK hP 0 rfl rfl 24 (by decide) (ht_at hts 8 rfl) (fun _ h9 => h9) rfl dX12_copies_131 ?_
      refine lv_bipush (v := 20) hx hb dX12_copies_134 (by decide) ?_
      refine lv_iload_n hx hb dX12_copies_136 rfl (lv_at hl 3 rfl) ?_
      refine lv_imul hx hb dX12_copies_137 ?_
      refine lv_topi (fun x46 ex46 => ?_)
      obtain rfl : x46 = 20 := ex46.trans (by decide)
      refine lv_iload_n hx hb dX12_copies_138 rfl (lv_at hl 0 rfl) ?_
      refine lv_iadd hx hb dX12_copies_139 ?_
      refine lv_topi (fun x47 ex47 => ?_)
      refine lv_aload_n hx hb dX12_copies_140 rfl (lv_at hl 1 rfl) ?_
      refine va_get (D := (dC, dI)) (ci := 15) (v := .ref (q 24)) (C := RX12) (T := TX12) (N := 78) hx hb hts bF_X12 hown hK hP 0 rfl rfl 24 (by decide) (ht_at hts 8 rfl) (fun _ h9 => h9) rfl dX12_copies_141 ?_
      refine lv_bipush (v := 20) hx hb dX12_copies_144 (by decide) ?_
      refine lv_iload_n hx hb dX12_copies_146 rfl (lv_at hl 2 rfl) ?_
      refine lv_imul hx hb dX12_copies_147 ?_
      refine lv_topi (fun x48 ex48 => ?_)
      obtain rfl : x48 = 40 := ex48.trans (by decide)
      refine lv_iload_n hx hb dX12_copies_148 rfl (lv_at hl 0 rfl) ?_
      refine lv_iadd hx hb dX12_copies_149 ?_
      refine lv_topi (fun x49 ex49 => ?_)
      refine va_iald hx hb hK hP 7 6 rfl rfl (by rw [ex49]; exact vin_ni (c := 40) (by omega) (by decide)) dX12_copies_150 ?_
      refine lv_topi (fun x50 ex50 => ?_)
      refine va_iast hx hb hK hP hD hS 7 6 rfl rfl (by rw [ex47]; exact vin_ni (c := 20) (by omega) (by decide)) dX12_copies_151 (fun H locs hP hD hS => ?_)
      have hP : va_P (dC, dI) vwCl [(h0, .inr (15, mF q 0)), (q 18, .inl ((cm 18), 3, .inl gl)), (q 19, .inl ((cm 19), 60, .inl (upd g0 x22.toNatClampNeg x25))), (q 20, .inl ((cm 20), 60, .inl (upd g1 x27.toNatClampNeg x30))), (q 21, .inl ((cm 21), 60, .inl (upd g2 x32.toNatClampNeg x35))), (q 22, .inl ((cm 22), 60, .inl (upd g3 x37.toNatClampNeg x40))), (q 23, .inl ((cm 23), 60, .inl (upd g4 x42.toNatClampNeg x45))), (q 24, .inl ((cm 24), 60, .inl (upd g5 x47.toNatClampNeg x50))), (q 25, .inl ((cm 25), 60, .inl g6)), (q 26, .inl ((cm 26), 1200, .inl (fun _ => 0))), (q 27, .inl ((cm 27), 1200, .inl (fun _ => 0)))] H := hP
      have hD : va_D A [(h0, .inr (15, mF q 0)), (q 18, .inl ((cm 18), 3, .inl gl)), (q 19, .inl ((cm 19), 60, .inl (upd g0 x22.toNatClampNeg x25))), (q 20, .inl ((cm 20), 60, .inl (upd g1 x27.toNatClampNeg x30))), (q 21, .inl ((cm 21), 60, .inl (upd g2 x32.toNatClampNeg x35))), (q 22, .inl ((cm 22), 60, .inl (upd g3 x37.toNatClampNeg x40))), (q 23, .inl ((cm 23), 60, .inl (upd g4 x42.toNatClampNeg x45))), (q 24, .inl ((cm 24), 60, .inl (upd g5 x47.toNatClampNeg x50))), (q 25, .inl ((cm 25), 60, .inl g6)), (q 26, .inl ((cm 26), 1200, .inl (fun _ => 0))), (q 27, .inl ((cm 27), 1200, .inl (fun _ => 0)))] := hD
      refine lv_aload_n hx hb dX12_copies_152 rfl (lv_at hl 1 rfl) ?_
      refine va_get (D := (dC, dI)) (ci := 15) (v := .ref (q 25)) (C := RX12) (T := TX12) (N := 78) hx hb hts bF_X12 hown hK hP 0 rfl rfl 25 (by decide) (ht_at hts 9 rfl) (fun _ h9 => h9) rfl dX12_copies_153 ?_
      refine lv_bipush (v := 20) hx hb dX12_copies_156 (by decide) ?_
      refine lv_iload_n hx hb dX12_copies_158 rfl (lv_at hl 3 rfl) ?_
      refine lv_imul hx hb dX12_copies_159 ?_
      refine lv_topi (fun x51 ex51 => ?_)
      obtain rfl : x51 = 20 := ex51.trans (by decide)
      refine lv_iload_n hx hb dX12_copies_160 rfl (lv_at hl 0 rfl) ?_
      refine lv_iadd hx hb dX12_copies_161 ?_
      refine lv_topi (fun x52 ex52 => ?_)
      refine lv_aload_n hx hb dX12_copies_162 rfl (lv_at hl 1 rfl) ?_
      refine va_get (D := (dC, dI)) (ci := 15) (v := .ref (q 25)) (C := RX12) (T := TX12) (N := 78) hx hb hts bF_X12 hown hK hP 0 rfl rfl 25 (by decide) (ht_at hts 9 rfl) (fun _ h9 => h9) rfl dX12_copies_163 ?_
      refine lv_bipush (v := 20) hx hb dX12_copies_166 (by decide) ?_
      refine lv_iload_n hx hb dX12_copies_168 rfl (lv_at hl 2 rfl) ?_
      refine lv_imul hx hb dX12_copies_169 ?_
      refine lv_topi (fun x53 ex53 => ?_)
      obtain rfl : x53 = 40 := ex53.trans (by decide)
      refine lv_iload_n hx hb dX12_copies_170 rfl (lv_at hl 0 rfl) ?_
      refine lv_iadd hx hb dX12_copies_171 ?_
      refine lv_topi (fun x54 ex54 => ?_)
      refine va_iald hx hb hK hP 8 7 rfl rfl (by rw [ex54]; exact vin_ni (c := 40) (by omega) (by decide)) dX12_copies_172 ?_
      refine lv_topi (fun x55 ex55 => ?_)
      refine va_iast hx hb hK hP hD hS 8 7 rfl rfl (by rw [ex52]; exact vin_ni (c := 20) (by omega) (by decide)) dX12_copies_173 (fun H locs hP hD hS => ?_)
      have hP : va_P (dC, dI) vwCl [(h0, .inr (15, mF q 0)), (q 18, .inl ((cm 18), 3, .inl gl)), (q 19, .inl ((cm 19), 60, .inl (upd g0 x22.toNatClampNeg x25))), (q 20, .inl ((cm 20), 60, .inl (upd g1 x27.toNatClampNeg x30))), (q 21, .inl ((cm 21), 60, .inl (upd g2 x32.toNatClampNeg x35))), (q 22, .inl ((cm 22), 60, .inl (upd g3 x37.toNatClampNeg x40))), (q 23, .inl ((cm 23), 60, .inl (upd g4 x42.toNatClampNeg x45))), (q 24, .inl ((cm 24), 60, .inl (upd g5 x47.toNatClampNeg x50))), (q 25, .inl ((cm 25), 60, .inl (upd g6 x52.toNatClampNeg x55))), (q 26, .inl ((cm 26), 1200, .inl (fun _ => 0))), (q 27, .inl ((cm 27), 1200, .inl (fun _ => 0)))] H := hP
      have hD : va_D A [(h0, .inr (15, mF q 0)), (q 18, .inl ((cm 18), 3, .inl gl)), (q 19, .inl ((cm 19), 60, .inl (upd g0 x22.toNatClampNeg x25))), (q 20, .inl ((cm 20), 60, .inl (upd g1 x27.toNatClampNeg x30))), (q 21, .inl ((cm 21), 60, .inl (upd g2 x32.toNatClampNeg x35))), (q 22, .inl ((cm 22), 60, .inl (upd g3 x37.toNatClampNeg x40))), (q 23, .inl ((cm 23), 60, .inl (upd g4 x42.toNatClampNeg x45))), (q 24, .inl ((cm 24), 60, .inl (upd g5 x47.toNatClampNeg x50))), (q 25, .inl ((cm 25), 60, .inl (upd g6 x52.toNatClampNeg x55))), (q 26, .inl ((cm 26), 1200, .inl (fun _ => 0))), (q 27, .inl ((cm 27), 1200, .inl (fun _ => 0)))] := hD
      obtain ⟨x56, ex56⟩ : ∃ y : Int32, y = (nI i) + 1 := ⟨_, rfl⟩
      refine lv_iinc (v := x56) (lv' := [(3, .int x56), (0, .ref h0), (1, .int 2), (2, .int 1)]) hx hb dX12_copies_174 hl (k := 0) rfl (by rw [ex56]; rfl) (by decide) rfl (fun ls hl => ?_)
      refine lv_goto (tgt := 14) hx hb dX12_copies_177 (by decide) ?_
      obtain rfl : x56 = nI (i + 1) := ex56.trans (nI_1 i)
      exact ih2 (i + 1) (by omega) gl (upd g0 x22.toNatClampNeg x25) (upd g1 x27.toNatClampNeg x30) (upd g2 x32.toNatClampNeg x35) (upd g3 x37.toNatClampNeg x40) (upd g4 x42.toNatClampNeg x45) (upd g5 x47.toNatClampNeg x50) (upd g6 x52.toNatClampNeg x55) _ _ (hP.sub [0, 1, 2, 3, 4, 5, 6, 7, 8, 9, 10] rfl) (hD.sub [0, 1, 2, 3, 4, 5, 6, 7, 8, 9, 10] (by decide) rfl) hS ls (lv_sub hl [0, 1, 2, 3] rfl)
  exact key2 20 0 (by decide) (upd fl (1 : Int32).toNatClampNeg x1) (fun _ => 0) (fun _ => 0) (fun _ => 0) (fun _ => 0) (fun _ => 0) (fun _ => 0) (fun _ => 0) _ _ (hP.sub [0, 1, 2, 3, 4, 5, 6, 7, 8, 9, 10] rfl) (hD.sub [0, 1, 2, 3, 4, 5, 6, 7, 8, 9, 10] (by decide) rfl) hS ls (lv_sub hl [0, 1, 2, 3] rfl)
def w_m_reads0 : List Cond := .code yX12_reads cX12_reads 4 (some .int) :: ([.code yX12_readLaw cX12_readLaw 2 (some .int), .fieldLink RX12 332 "SeaLandModel" "taped" "I", .fieldLink RX12 338 "SeaLandModel" "end" "I", .fieldLink RX12 335 "SeaLandModel" "point" "I", .fieldLink RX12 367 "SeaLandModel" "steps" "I", .code yX12_blanks cX12_blanks 1 none, .code yX12_isAt cX12_isAt 3 (some .boolean), .methodLink RX12 341 yX12_isAt, .instanceMethod yX12_isAt, .selects RX12 yX12_isAt yX12_isAt, .initialized RX12, .fieldLink RX12 345 "SeaLandModel" "begin" "I", .methodLink RX12 348 yX12_blanks, .instanceMethod yX12_blanks, .selects RX12 yX12_blanks yX12_blanks, .methodLink RX12 454 yX12_readLaw, .instanceMethod yX12_readLaw, .selects RX12 yX12_readLaw yX12_readLaw, .fieldLink RX12 35 "SeaLandModel" "faultAt" "I", .code yX12_throwsIf cX12_throwsIf 3 (some .boolean), .methodLink RX12 224 yX12_throwsIf, .instanceMethod yX12_throwsIf, .selects RX12 yX12_throwsIf yX12_throwsIf, .fieldLink RX12 42 "SeaLandModel" "lines" "[I", .code yX12_copies cX12_copies 4 none, .fieldLink RX12 66 "SeaLandModel" "step" "[I", .fieldLink RX12 69 "SeaLandModel" "than" "[I", .fieldLink RX12 45 "SeaLandModel" "sort" "[I", .fieldLink RX12 48 "SeaLandModel" "told" "[I", .fieldLink RX12 51 "SeaLandModel" "winter" "[I", .fieldLink RX12 54 "SeaLandModel" "from" "[I", .fieldLink RX12 57 "SeaLandModel" "to" "[I", .fieldLink RX12 60 "SeaLandModel" "begins" "[I", .fieldLink RX12 63 "SeaLandModel" "ends" "[I", .methodLink RX12 457 yX12_copies, .instanceMethod yX12_copies, .selects RX12 yX12_copies yX12_copies] ++ bs)
set_option maxHeartbeats 4000000 in
set_option maxRecDepth 100000 in
theorem m_reads0 (l : Launch) (dC : Nat → ClassId) (dI : Nat → Nat → Nat) (h0 : Nat) (q : Nat → Nat) (cm : Nat → ClassId) (sz : Nat) : Met l yX12_reads w_m_reads0 ({ frames := 3, cells := 0, slots := 0, locals := 63 }) (va_Pc [.ref h0, .int 0, .int 0] (fun U => U.heap.size = sz ∧ va_P (dC, dI) vwCl [(h0, .inr (15, mF q 0)), (q 18, .inl ((cm 18), 3, .inl (fun _ => 0))), (q 19, .inl ((cm 19), 60, .inl (fun _ => 0))), (q 20, .inl ((cm 20), 60, .inl (fun _ => 0))), (q 21, .inl ((cm 21), 60, .inl (fun _ => 0))), (q 22, .inl ((cm 22), 60, .inl (fun _ => 0))), (q 23, .inl ((cm 23), 60, .inl (fun _ => 0))), (q 24, .inl ((cm 24), 60, .inl (fun _ => 0))), (q 25, .inl ((cm 25), 60, .inl (fun _ => 0))), (q 26, .inl ((cm 26), 1200, .inl (fun _ => 0))), (q 27, .inl ((cm 27), 1200, .inl (fun _ => 0)))] U.heap ∧ va_K (dC, dI) vwCl [((cm 18), .int), ((cm 19), .int), ((cm 20), .int), ((cm 21), .int), ((cm 22), .int), ((cm 23), .int), ((cm 24), .int), ((cm 25), .int), ((cm 26), .int), ((cm 27), .int)] U ∧ va_D (fun _ => True) [(h0, .inr (15, mF q 0)), (q 18, .inl ((cm 18), 3, .inl (fun _ => 0))), (q 19, .inl ((cm 19), 60, .inl (fun _ => 0))), (q 20, .inl ((cm 20), 60, .inl (fun _ => 0))), (q 21, .inl ((cm 21), 60, .inl (fun _ => 0))), (q 22, .inl ((cm 22), 60, .inl (fun _ => 0))), (q 23, .inl ((cm 23), 60, .inl (fun _ => 0))), (q 24, .inl ((cm 24), 60, .inl (fun _ => 0))), (q 25, .inl ((cm 25), 60, .inl (fun _ => 0))), (q 26, .inl ((cm 26), 1200, .inl (fun _ => 0))), (q 27, .inl ((cm 27), 1200, .inl (fun _ => 0)))])) (va_Qi (fun (r : Int32) (u : Unit) => r = 0) (fun (_ : Unit) (t : State) => va_P (dC, dI) vwCl [(h0, .inr (15, mF q 0))] t.heap ∧ va_D (va_A [(h0, .inr (15, mF q 0)), (q 18, .inl ((cm 18), 3, .inl (fun _ => 0))), (q 19, .inl ((cm 19), 60, .inl (fun _ => 0))), (q 20, .inl ((cm 20), 60, .inl (fun _ => 0))), (q 21, .inl ((cm 21), 60, .inl (fun _ => 0))), (q 22, .inl ((cm 22), 60, .inl (fun _ => 0))), (q 23, .inl ((cm 23), 60, .inl (fun _ => 0))), (q 24, .inl ((cm 24), 60, .inl (fun _ => 0))), (q 25, .inl ((cm 25), 60, .inl (fun _ => 0))), (q 26, .inl ((cm 26), 1200, .inl (fun _ => 0))), (q 27, .inl ((cm 27), 1200, .inl (fun _ => 0)))] sz) [(h0, .inr (15, mF q 0))]) (va_A [(h0, .inr (15, mF q 0)), (q 18, .inl ((cm 18), 3, .inl (fun _ => 0))), (q 19, .inl ((cm 19), 60, .inl (fun _ => 0))), (q 20, .inl ((cm 20), 60, .inl (fun _ => 0))), (q 21, .inl ((cm 21), 60, .inl (fun _ => 0))), (q 22, .inl ((cm 22), 60, .inl (fun _ => 0))), (q 23, .inl ((cm 23), 60, .inl (fun _ => 0))), (q 24, .inl ((cm 24), 60, .inl (fun _ => 0))), (q 25, .inl ((cm 25), 60, .inl (fun _ => 0))), (q 26, .inl ((cm 26), 1200, .inl (fun _ => 0))), (q 27, .inl ((cm 27), 1200, .inl (fun _ => 0)))] sz)) 0 0 (va_A [(h0, .inr (15, mF q 0)), (q 18, .inl ((cm 18), 3, .inl (fun _ => 0))), (q 19, .inl ((cm 19), 60, .inl (fun _ => 0))), (q 20, .inl ((cm 20), 60, .inl (fun _ => 0))), (q 21, .inl ((cm 21), 60, .inl (fun _ => 0))), (q 22, .inl ((cm 22), 60, .inl (fun _ => 0))), (q 23, .inl ((cm 23), 60, .inl (fun _ => 0))), (q 24, .inl ((cm 24), 60, .inl (fun _ => 0))), (q 25, .inl ((cm 25), 60, .inl (fun _ => 0))), (q 26, .inl ((cm 26), 1200, .inl (fun _ => 0))), (q 27, .inl ((cm 27), 1200, .inl (fun _ => 0)))] sz) := by
  refine Met.ofW (cc := cX12_reads) (maxL := 4) (ret := (some .int)) (by decide) rfl ?_
  intro p e s m args below meth c s₁ B hml hv
  obtain ⟨rfl, hsz, hP, hK, hD0⟩ := hv
  have hx := B.exec
  have hb := B.bytes
  have hr := B.returns
  have hts := atoms_spec (ws := w_m_reads0) B.pre
  have hown : s.vm.findClass RX12 = some m.cls := findClass_of_methodNamed B.named
  have hlocks := B.notSynchronized
  subst hsz
  have hD := hD0.self (sz := s.heap.size)
  generalize hAe : va_A [(h0, .inr (15, mF q 0)), (q 18, .inl ((cm 18), 3, .inl (fun _ => 0))), (q 19, .inl ((cm 19), 60, .inl (fun _ => 0))), (q 20, .inl ((cm 20), 60, .inl (fun _ => 0))), (q 21, .inl ((cm 21), 60, .inl (fun _ => 0))), (q 22, .inl ((cm 22), 60, .inl (fun _ => 0))), (q 23, .inl ((cm 23), 60, .inl (fun _ => 0))), (q 24, .inl ((cm 24), 60, .inl (fun _ => 0))), (q 25, .inl ((cm 25), 60, .inl (fun _ => 0))), (q 26, .inl ((cm 26), 1200, .inl (fun _ => 0))), (q 27, .inl ((cm 27), 1200, .inl (fun _ => 0)))] s.heap.size = A at hD ⊢
  have hA : ∀ q : Nat, s.heap.size ≤ q → A q := fun q h => by rw [← hAe]; exact Or.inr h
  have hS : va_S A s.heap s.heap [] := va_S.rf
  have hP : va_P (dC, dI) vwCl [(h0, .inr (15, mF q 0)), (q 18, .inl ((cm 18), 3, .inl (fun _ => 0))), (q 19, .inl ((cm 19), 60, .inl (fun _ => 0))), (q 20, .inl ((cm 20), 60, .inl (fun _ => 0))), (q 21, .inl ((cm 21), 60, .inl (fun _ => 0))), (q 22, .inl ((cm 22), 60, .inl (fun _ => 0))), (q 23, .inl ((cm 23), 60, .inl (fun _ => 0))), (q 24, .inl ((cm 24), 60, .inl (fun _ => 0))), (q 25, .inl ((cm 25), 60, .inl (fun _ => 0))), (q 26, .inl ((cm 26), 1200, .inl (fun _ => 0))), (q 27, .inl ((cm 27), 1200, .inl (fun _ => 0)))] s.heap := hP
  have hl := lv_entry ([.ref h0, .int 0, .int 0]) (n := 4) (Nat.le_of_ble_eq_true rfl)
  rw [lg_entry_eq]
  generalize (lg_sl ([.ref h0, .int 0, .int 0]) ++ List.replicate (4 - (lg_sl ([.ref h0, .int 0, .int 0])).length) Slot.unset).toArray = ls at hl ⊢
  have hl : lv_has ls 4 [(0, .ref h0), (1, .int 0), (2, .int 0)] := hl
  refine lv_aload_n hx hb dX12_reads_0 rfl (lv_at hl 0 rfl) ?_
  have hPc := hP.sub (ws' := [(h0, .inr (15, mF q 0))]) [0] rfl
  have hDc := hD.sub (ws' := [(h0, .inr (15, mF q 0))]) [0] (by decide) rfl
  have hKc := hK.sub (tys' := []) [] rfl
  have hFc := va_free (wc := [(h0, .inr (15, mF q 0))]) hD hS hA [0] rfl
  refine va_calli (va_runV (As := []) (rest := []) ⟨hx, hb, hml, hown, hts⟩ (m_readLaw l dC dI h0 q cm s.heap.size ) (cwV 0 hts (goodIn_app (goodIn_r _ [16, 17, 18, 11] (by decide +kernel) (by decide +kernel)) (goodIn_ca (goodIn_r _ [1, 2, 3, 4, 5, 6, 7, 8, 9, 10, 11, 12, 13, 14, 15] (by decide +kernel) (by decide +kernel)) (bs_in _ _))) rfl rfl rfl (by decide +kernel) ⟨(Nat.le_of_ble_eq_true rfl), (Nat.le_of_ble_eq_true rfl)⟩) ⟨fun a U g mk q => by obtain ⟨q0, q1, qP, qK, qD⟩ := q; exact ⟨q0, q1, qP, va_K.moved (u := U) (U := U.calling g mk a) (Vm.Alike.refl U.vm) qK, qD⟩, va_recv hKc hPc (ci := 15) (q0 := 0) rfl rfl, fun U hU hW => ⟨rfl, by rw [hU], by rw [hU]; exact hPc, va_K.moved hW.alike hKc, hDc.weaken (fun _ _ _ _ => trivial)⟩⟩ rfl rfl hl.1 rfl (lv_room (Nat.le_of_ble_eq_true rfl)) dX12_reads_1 ⟨(Nat.le_of_ble_eq_true rfl), (Nat.le_of_ble_eq_true rfl)⟩) hS (fun q _ h => hFc q h) hFc (fun r2 u t H1 locs ht hvm hw3 hB hz1 hk1 hS => ?_)
  obtain ⟨hP1, hD1⟩ := hB
  rw [ht] at hP1
  obtain ⟨hP, hD⟩ := va_join (wr := [(q 18, .inl ((cm 18), 3, .inl (fun _ => 0))), (q 19, .inl ((cm 19), 60, .inl (fun _ => 0))), (q 20, .inl ((cm 20), 60, .inl (fun _ => 0))), (q 21, .inl ((cm 21), 60, .inl (fun _ => 0))), (q 22, .inl ((cm 22), 60, .inl (fun _ => 0))), (q 23, .inl ((cm 23), 60, .inl (fun _ => 0))), (q 24, .inl ((cm 24), 60, .inl (fun _ => 0))), (q 25, .inl ((cm 25), 60, .inl (fun _ => 0))), (q 26, .inl ((cm 26), 1200, .inl (fun _ => 0))), (q 27, .inl ((cm 27), 1200, .inl (fun _ => 0)))]) (w1 := [(h0, .inr (15, mF q 0))]) hP hD [0] [1, 2, 3, 4, 5, 6, 7, 8, 9, 10] rfl rfl (by decide) (by decide) hk1 hFc hP1 hD1
  generalize H1 = H at hP hS ⊢
  have hP : va_P (dC, dI) vwCl [(q 18, .inl ((cm 18), 3, .inl (fun _ => 0))), (q 19, .inl ((cm 19), 60, .inl (fun _ => 0))), (q 20, .inl ((cm 20), 60, .inl (fun _ => 0))), (q 21, .inl ((cm 21), 60, .inl (fun _ => 0))), (q 22, .inl ((cm 22), 60, .inl (fun _ => 0))), (q 23, .inl ((cm 23), 60, .inl (fun _ => 0))), (q 24, .inl ((cm 24), 60, .inl (fun _ => 0))), (q 25, .inl ((cm 25), 60, .inl (fun _ => 0))), (q 26, .inl ((cm 26), 1200, .inl (fun _ => 0))), (q 27, .inl ((cm 27), 1200, .inl (fun _ => 0))), (h0, .inr (15, mF q 0))] H := hP
  have hD : va_D A [(q 18, .inl ((cm 18), 3, .inl (fun _ => 0))), (q 19, .inl ((cm 19), 60, .inl (fun _ => 0))), (q 20, .inl ((cm 20), 60, .inl (fun _ => 0))), (q 21, .inl ((cm 21), 60, .inl (fun _ => 0))), (q 22, .inl ((cm 22), 60, .inl (fun _ => 0))), (q 23, .inl ((cm 23), 60, .inl (fun _ => 0))), (q 24, .inl ((cm 24), 60, .inl (fun _ => 0))), (q 25, .inl ((cm 25), 60, .inl (fun _ => 0))), (q 26, .inl ((cm 26), 1200, .inl (fun _ => 0))), (q 27, .inl ((cm 27), 1200, .inl (fun _ => 0))), (h0, .inr (15, mF q 0))] := hD
  try dsimp only at hw3
  obtain rfl : 0 = r2 := (hw3).symm
  refine lv_istore_n (lv' := [(3, .int 0), (0, .ref h0), (1, .int 0), (2, .int 0)]) hx hb dX12_reads_4 rfl hl (by decide) rfl (fun ls hl => ?_)
  refine lv_aload_n hx hb dX12_reads_5 rfl (lv_at hl 1 rfl) ?_
  refine lv_iload_n hx hb dX12_reads_6 rfl (lv_at hl 0 rfl) ?_
  refine lv_if_ge (tgt := 17) hx hb dX12_reads_7 (by decide) (fun c4 => ?_) (fun c4 => absurd c4 (by decide))
  refine lv_iconst (v := (-1)) hx hb dX12_reads_17 (by decide) ?_
  refine va_put (D := (dC, dI)) (ci := 15) (v := .int (-1)) (ty := .int) (C := RX12) (T := TX12) (N := 78) hx hb hts bF_X12 tyX12 tyX12_ok nmX12 hown hK hP hD hS 10 rfl rfl 16 (by decide) (ht_at hts 18 rfl) (fun _ h9 => h9) rfl (by decide +kernel) rfl rfl (Nat.le_of_ble_eq_true rfl) dX12_reads_18 (fun H locs hP hD hS => ?_)
  have hP : va_P (dC, dI) vwCl [(q 18, .inl ((cm 18), 3, .inl (fun _ => 0))), (q 19, .inl ((cm 19), 60, .inl (fun _ => 0))), (q 20, .inl ((cm 20), 60, .inl (fun _ => 0))), (q 21, .inl ((cm 21), 60, .inl (fun _ => 0))), (q 22, .inl ((cm 22), 60, .inl (fun _ => 0))), (q 23, .inl ((cm 23), 60, .inl (fun _ => 0))), (q 24, .inl ((cm 24), 60, .inl (fun _ => 0))), (q 25, .inl ((cm 25), 60, .inl (fun _ => 0))), (q 26, .inl ((cm 26), 1200, .inl (fun _ => 0))), (q 27, .inl ((cm 27), 1200, .inl (fun _ => 0))), (h0, .inr (15, mF q 0))] H := hP
  have hD : va_D A [(q 18, .inl ((cm 18), 3, .inl (fun _ => 0))), (q 19, .inl ((cm 19), 60, .inl (fun _ => 0))), (q 20, .inl ((cm 20), 60, .inl (fun _ => 0))), (q 21, .inl ((cm 21), 60, .inl (fun _ => 0))), (q 22, .inl ((cm 22), 60, .inl (fun _ => 0))), (q 23, .inl ((cm 23), 60, .inl (fun _ => 0))), (q 24, .inl ((cm 24), 60, .inl (fun _ => 0))), (q 25, .inl ((cm 25), 60, .inl (fun _ => 0))), (q 26, .inl ((cm 26), 1200, .inl (fun _ => 0))), (q 27, .inl ((cm 27), 1200, .inl (fun _ => 0))), (h0, .inr (15, mF q 0))] := hD
  refine lv_aload_n hx hb dX12_reads_21 rfl (lv_at hl 1 rfl) ?_
  refine lv_iload_n hx hb dX12_reads_22 rfl (lv_at hl 0 rfl) ?_
  refine lv_if_ge (tgt := 30) hx hb dX12_reads_23 (by decide) (fun c5 => ?_) (fun c5 => absurd c5 (by decide))
  refine lv_iconst (v := 0) hx hb dX12_reads_30 (by decide) ?_
  refine lv_iconst (v := 1) hx hb dX12_reads_31 (by decide) ?_
  have hPc := hP.sub (ws' := [(h0, .inr (15, mF q 0))]) [10] rfl
  have hDc := hD.sub (ws' := [(h0, .inr (15, mF q 0))]) [10] (by decide) rfl
  have hKc := hK.sub (tys' := []) [] rfl
  have hFc := va_free (wc := [(h0, .inr (15, mF q 0))]) hD hS hA [10] rfl
  refine va_calli (va_runV (As := [.int 0, .int 1]) (rest := []) ⟨hx, hb, hml, hown, hts⟩ (c_m_throwsIf0 l dC dI h0 (mF q 0) 1 H.size ) (cwV 2 hts (goodIn_app (goodIn_r _ [21, 22, 23, 11] (by decide +kernel) (by decide +kernel)) (goodIn_ca (goodIn_r _ [20] (by decide +kernel) (by decide +kernel)) (bs_in _ _))) rfl rfl rfl (by decide +kernel) ⟨(Nat.le_of_ble_eq_true rfl), (Nat.le_of_ble_eq_true rfl)⟩) ⟨fun a U g mk q => by obtain ⟨q0, q1, qP, qK, qD⟩ := q; exact ⟨q0, q1, qP, va_K.moved (u := U) (U := U.calling g mk a) (Vm.Alike.refl U.vm) qK, qD⟩, va_recv hKc hPc (ci := 15) (q0 := 0) rfl rfl, fun U hU hW => ⟨rfl, by rw [hU], by rw [hU]; exact hPc, va_K.moved hW.alike hKc, hDc.weaken (fun _ _ _ _ => trivial)⟩⟩ rfl rfl hl.1 rfl (lv_room (Nat.le_of_ble_eq_true rfl)) dX12_reads_32 ⟨(Nat.le_of_ble_eq_true rfl), (Nat.le_of_ble_eq_true rfl)⟩) hS (fun q _ h => hFc q h) hFc (fun r7 u t H1 locs ht hvm hw8 hB hz1 hk1 hS => ?_)
  obtain ⟨hP1, hD1⟩ := hB
  rw [ht] at hP1
  obtain ⟨hP, hD⟩ := va_join (wr := [(q 18, .inl ((cm 18), 3, .inl (fun _ => 0))), (q 19, .inl ((cm 19), 60, .inl (fun _ => 0))), (q 20, .inl ((cm 20), 60, .inl (fun _ => 0))), (q 21, .inl ((cm 21), 60, .inl (fun _ => 0))), (q 22, .inl ((cm 22), 60, .inl (fun _ => 0))), (q 23, .inl ((cm 23), 60, .inl (fun _ => 0))), (q 24, .inl ((cm 24), 60, .inl (fun _ => 0))), (q 25, .inl ((cm 25), 60, .inl (fun _ => 0))), (q 26, .inl ((cm 26), 1200, .inl (fun _ => 0))), (q 27, .inl ((cm 27), 1200, .inl (fun _ => 0)))]) (w1 := [(h0, .inr (15, mF q 0))]) hP hD [10] [0, 1, 2, 3, 4, 5, 6, 7, 8, 9] rfl rfl (by decide) (by decide) hk1 hFc hP1 hD1
  generalize H1 = H at hP hS ⊢
  have hP : va_P (dC, dI) vwCl [(q 18, .inl ((cm 18), 3, .inl (fun _ => 0))), (q 19, .inl ((cm 19), 60, .inl (fun _ => 0))), (q 20, .inl ((cm 20), 60, .inl (fun _ => 0))), (q 21, .inl ((cm 21), 60, .inl (fun _ => 0))), (q 22, .inl ((cm 22), 60, .inl (fun _ => 0))), (q 23, .inl ((cm 23), 60, .inl (fun _ => 0))), (q 24, .inl ((cm 24), 60, .inl (fun _ => 0))), (q 25, .inl ((cm 25), 60, .inl (fun _ => 0))), (q 26, .inl ((cm 26), 1200, .inl (fun _ => 0))), (q 27, .inl ((cm 27), 1200, .inl (fun _ => 0))), (h0, .inr (15, mF q 0))] H := hP
  have hD : va_D A [(q 18, .inl ((cm 18), 3, .inl (fun _ => 0))), (q 19, .inl ((cm 19), 60, .inl (fun _ => 0))), (q 20, .inl ((cm 20), 60, .inl (fun _ => 0))), (q 21, .inl ((cm 21), 60, .inl (fun _ => 0))), (q 22, .inl ((cm 22), 60, .inl (fun _ => 0))), (q 23, .inl ((cm 23), 60, .inl (fun _ => 0))), (q 24, .inl ((cm 24), 60, .inl (fun _ => 0))), (q 25, .inl ((cm 25), 60, .inl (fun _ => 0))), (q 26, .inl ((cm 26), 1200, .inl (fun _ => 0))), (q 27, .inl ((cm 27), 1200, .inl (fun _ => 0))), (h0, .inr (15, mF q 0))] := hD
  try dsimp only at hw8
  obtain rfl : 0 = r7 := (hw8).symm
  refine lv_if_ne (tgt := 47) hx hb dX12_reads_35 (by decide) (fun c9 => absurd c9 (by decide)) (fun c9 => ?_)
  refine lv_aload_n hx hb dX12_reads_38 rfl (lv_at hl 1 rfl) ?_
  refine lv_iload_n hx hb dX12_reads_39 rfl (lv_at hl 3 rfl) ?_
  refine lv_iconst (v := 2) hx hb dX12_reads_40 (by decide) ?_
  have hPc := hP.sub (ws' := [(h0, .inr (15, mF q 0))]) [10] rfl
  have hDc := hD.sub (ws' := [(h0, .inr (15, mF q 0))]) [10] (by decide) rfl
  have hKc := hK.sub (tys' := []) [] rfl
  have hFc := va_free (wc := [(h0, .inr (15, mF q 0))]) hD hS hA [10] rfl
  refine va_calli (va_runV (As := [.int 0, .int 2]) (rest := []) ⟨hx, hb, hml, hown, hts⟩ (c_m_throwsIf0 l dC dI h0 (mF q 0) 2 H.size ) (cwV 2 hts (goodIn_app (goodIn_r _ [21, 22, 23, 11] (by decide +kernel) (by decide +kernel)) (goodIn_ca (goodIn_r _ [20] (by decide +kernel) (by decide +kernel)) (bs_in _ _))) rfl rfl rfl (by decide +kernel) ⟨(Nat.le_of_ble_eq_true rfl), (Nat.le_of_ble_eq_true rfl)⟩) ⟨fun a U g mk q => by obtain ⟨q0, q1, qP, qK, qD⟩ := q; exact ⟨q0, q1, qP, va_K.moved (u := U) (U := U.calling g mk a) (Vm.Alike.refl U.vm) qK, qD⟩, va_recv hKc hPc (ci := 15) (q0 := 0) rfl rfl, fun U hU hW => ⟨rfl, by rw [hU], by rw [hU]; exact hPc, va_K.moved hW.alike hKc, hDc.weaken (fun _ _ _ _ => trivial)⟩⟩ rfl rfl hl.1 rfl (lv_room (Nat.le_of_ble_eq_true rfl)) dX12_reads_41 ⟨(Nat.le_of_ble_eq_true rfl), (Nat.le_of_ble_eq_true rfl)⟩) hS (fun q _ h => hFc q h) hFc (fun r11 u t H1 locs ht hvm hw12 hB hz1 hk1 hS => ?_)
  obtain ⟨hP1, hD1⟩ := hB
  rw [ht] at hP1
  obtain ⟨hP, hD⟩ := va_join (wr := [(q 18, .inl ((cm 18), 3, .inl (fun _ => 0))), (q 19, .inl ((cm 19), 60, .inl (fun _ => 0))), (q 20, .inl ((cm 20), 60, .inl (fun _ => 0))), (q 21, .inl ((cm 21), 60, .inl (fun _ => 0))), (q 22, .inl ((cm 22), 60, .inl (fun _ => 0))), (q 23, .inl ((cm 23), 60, .inl (fun _ => 0))), (q 24, .inl ((cm 24), 60, .inl (fun _ => 0))), (q 25, .inl ((cm 25), 60, .inl (fun _ => 0))), (q 26, .inl ((cm 26), 1200, .inl (fun _ => 0))), (q 27, .inl ((cm 27), 1200, .inl (fun _ => 0)))]) (w1 := [(h0, .inr (15, mF q 0))]) hP hD [10] [0, 1, 2, 3, 4, 5, 6, 7, 8, 9] rfl rfl (by decide) (by decide) hk1 hFc hP1 hD1
  generalize H1 = H at hP hS ⊢
  have hP : va_P (dC, dI) vwCl [(q 18, .inl ((cm 18), 3, .inl (fun _ => 0))), (q 19, .inl ((cm 19), 60, .inl (fun _ => 0))), (q 20, .inl ((cm 20), 60, .inl (fun _ => 0))), (q 21, .inl ((cm 21), 60, .inl (fun _ => 0))), (q 22, .inl ((cm 22), 60, .inl (fun _ => 0))), (q 23, .inl ((cm 23), 60, .inl (fun _ => 0))), (q 24, .inl ((cm 24), 60, .inl (fun _ => 0))), (q 25, .inl ((cm 25), 60, .inl (fun _ => 0))), (q 26, .inl ((cm 26), 1200, .inl (fun _ => 0))), (q 27, .inl ((cm 27), 1200, .inl (fun _ => 0))), (h0, .inr (15, mF q 0))] H := hP
  have hD : va_D A [(q 18, .inl ((cm 18), 3, .inl (fun _ => 0))), (q 19, .inl ((cm 19), 60, .inl (fun _ => 0))), (q 20, .inl ((cm 20), 60, .inl (fun _ => 0))), (q 21, .inl ((cm 21), 60, .inl (fun _ => 0))), (q 22, .inl ((cm 22), 60, .inl (fun _ => 0))), (q 23, .inl ((cm 23), 60, .inl (fun _ => 0))), (q 24, .inl ((cm 24), 60, .inl (fun _ => 0))), (q 25, .inl ((cm 25), 60, .inl (fun _ => 0))), (q 26, .inl ((cm 26), 1200, .inl (fun _ => 0))), (q 27, .inl ((cm 27), 1200, .inl (fun _ => 0))), (h0, .inr (15, mF q 0))] := hD
  try dsimp only at hw12
  obtain rfl : 0 = r11 := (hw12).symm
  refine lv_if_eq (tgt := 49) hx hb dX12_reads_44 (by decide) (fun c13 => ?_) (fun c13 => absurd c13 (by decide))
  refine lv_aload_n hx hb dX12_reads_49 rfl (lv_at hl 1 rfl) ?_
  refine va_get (D := (dC, dI)) (ci := 15) (v := .ref (q 18)) (C := RX12) (T := TX12) (N := 78) hx hb hts bF_X12 hown hK hP 10 rfl rfl 18 (by decide) (ht_at hts 23 rfl) (fun _ h9 => h9) rfl dX12_reads_50 ?_
  refine lv_iconst (v := 2) hx hb dX12_reads_53 (by decide) ?_
  refine lv_iload_n hx hb dX12_reads_54 rfl (lv_at hl 0 rfl) ?_
  refine va_iast hx hb hK hP hD hS 0 0 rfl rfl (by unfold vp_in; decide) dX12_reads_55 (fun H locs hP hD hS => ?_)
  have hP : va_P (dC, dI) vwCl [(q 18, .inl ((cm 18), 3, .inl (upd (fun _ => 0) (2 : Int32).toNatClampNeg 0))), (q 19, .inl ((cm 19), 60, .inl (fun _ => 0))), (q 20, .inl ((cm 20), 60, .inl (fun _ => 0))), (q 21, .inl ((cm 21), 60, .inl (fun _ => 0))), (q 22, .inl ((cm 22), 60, .inl (fun _ => 0))), (q 23, .inl ((cm 23), 60, .inl (fun _ => 0))), (q 24, .inl ((cm 24), 60, .inl (fun _ => 0))), (q 25, .inl ((cm 25), 60, .inl (fun _ => 0))), (q 26, .inl ((cm 26), 1200, .inl (fun _ => 0))), (q 27, .inl ((cm 27), 1200, .inl (fun _ => 0))), (h0, .inr (15, mF q 0))] H := hP
  have hD : va_D A [(q 18, .inl ((cm 18), 3, .inl (upd (fun _ => 0) (2 : Int32).toNatClampNeg 0))), (q 19, .inl ((cm 19), 60, .inl (fun _ => 0))), (q 20, .inl ((cm 20), 60, .inl (fun _ => 0))), (q 21, .inl ((cm 21), 60, .inl (fun _ => 0))), (q 22, .inl ((cm 22), 60, .inl (fun _ => 0))), (q 23, .inl ((cm 23), 60, .inl (fun _ => 0))), (q 24, .inl ((cm 24), 60, .inl (fun _ => 0))), (q 25, .inl ((cm 25), 60, .inl (fun _ => 0))), (q 26, .inl ((cm 26), 1200, .inl (fun _ => 0))), (q 27, .inl ((cm 27), 1200, .inl (fun _ => 0))), (h0, .inr (15, mF q 0))] := hD
  refine lv_aload_n hx hb dX12_reads_56 rfl (lv_at hl 1 rfl) ?_
  refine lv_iconst (v := 2) hx hb dX12_reads_57 (by decide) ?_
  refine lv_iload_n hx hb dX12_reads_58 rfl (lv_at hl 2 rfl) ?_
  have hPc := hP.sub (ws' := [(h0, .inr (15, mF q 0)), (q 18, .inl ((cm 18), 3, .inl (upd (fun _ => 0) (2 : Int32).toNatClampNeg 0))), (q 19, .inl ((cm 19), 60, .inl (fun _ => 0))), (q 20, .inl ((cm 20), 60, .inl (fun _ => 0))), (q 21, .inl ((cm 21), 60, .inl (fun _ => 0))), (q 22, .inl ((cm 22), 60, .inl (fun _ => 0))), (q 23, .inl ((cm 23), 60, .inl (fun _ => 0))), (q 24, .inl ((cm 24), 60, .inl (fun _ => 0))), (q 25, .inl ((cm 25), 60, .inl (fun _ => 0))), (q 26, .inl ((cm 26), 1200, .inl (fun _ => 0))), (q 27, .inl ((cm 27), 1200, .inl (fun _ => 0)))]) [10, 0, 1, 2, 3, 4, 5, 6, 7, 8, 9] rfl
  have hDc := hD.sub (ws' := [(h0, .inr (15, mF q 0)), (q 18, .inl ((cm 18), 3, .inl (upd (fun _ => 0) (2 : Int32).toNatClampNeg 0))), (q 19, .inl ((cm 19), 60, .inl (fun _ => 0))), (q 20, .inl ((cm 20), 60, .inl (fun _ => 0))), (q 21, .inl ((cm 21), 60, .inl (fun _ => 0))), (q 22, .inl ((cm 22), 60, .inl (fun _ => 0))), (q 23, .inl ((cm 23), 60, .inl (fun _ => 0))), (q 24, .inl ((cm 24), 60, .inl (fun _ => 0))), (q 25, .inl ((cm 25), 60, .inl (fun _ => 0))), (q 26, .inl ((cm 26), 1200, .inl (fun _ => 0))), (q 27, .inl ((cm 27), 1200, .inl (fun _ => 0)))]) [10, 0, 1, 2, 3, 4, 5, 6, 7, 8, 9] (by decide) rfl
  have hKc := hK.sub (tys' := [((cm 18), .int), ((cm 19), .int), ((cm 20), .int), ((cm 21), .int), ((cm 22), .int), ((cm 23), .int), ((cm 24), .int), ((cm 25), .int), ((cm 26), .int), ((cm 27), .int)]) [0, 1, 2, 3, 4, 5, 6, 7, 8, 9] rfl
  have hFc := va_free (wc := [(h0, .inr (15, mF q 0)), (q 18, .inl ((cm 18), 3, .inl (upd (fun _ => 0) (2 : Int32).toNatClampNeg 0))), (q 19, .inl ((cm 19), 60, .inl (fun _ => 0))), (q 20, .inl ((cm 20), 60, .inl (fun _ => 0))), (q 21, .inl ((cm 21), 60, .inl (fun _ => 0))), (q 22, .inl ((cm 22), 60, .inl (fun _ => 0))), (q 23, .inl ((cm 23), 60, .inl (fun _ => 0))), (q 24, .inl ((cm 24), 60, .inl (fun _ => 0))), (q 25, .inl ((cm 25), 60, .inl (fun _ => 0))), (q 26, .inl ((cm 26), 1200, .inl (fun _ => 0))), (q 27, .inl ((cm 27), 1200, .inl (fun _ => 0)))]) hD hS hA [10, 0, 1, 2, 3, 4, 5, 6, 7, 8, 9] rfl
  refine va_callv (va_runV (As := [.int 2, .int 0]) (rest := []) ⟨hx, hb, hml, hown, hts⟩ (m_copies0 l dC dI h0 q cm (upd (fun _ => 0) (2 : Int32).toNatClampNeg 0) H.size ) (cwV 2 hts (goodIn_app (goodIn_r _ [35, 36, 37, 11] (by decide +kernel) (by decide +kernel)) (goodIn_ca (goodIn_r _ [25, 24, 26, 27, 28, 29, 30, 31, 32, 33, 34] (by decide +kernel) (by decide +kernel)) (bs_in _ _))) rfl rfl rfl (by decide +kernel) ⟨(Nat.le_of_ble_eq_true rfl), (Nat.le_of_ble_eq_true rfl)⟩) ⟨fun a U g mk q => by obtain ⟨q0, q1, qP, qK, qD⟩ := q; exact ⟨q0, q1, qP, va_K.moved (u := U) (U := U.calling g mk a) (Vm.Alike.refl U.vm) qK, qD⟩, va_recv hKc hPc (ci := 15) (q0 := 0) rfl rfl, fun U hU hW => ⟨rfl, by rw [hU], by rw [hU]; exact hPc, va_K.moved hW.alike hKc, hDc.weaken (fun _ _ _ _ => trivial)⟩⟩ rfl rfl hl.1 rfl (lv_room (Nat.le_of_ble_eq_true rfl)) dX12_reads_59 ⟨(Nat.le_of_ble_eq_true rfl), (Nat.le_of_ble_eq_true rfl)⟩) hS (fun q _ h => hFc q h) hFc (fun u t H1 locs ht hvm hw16 hB hz1 hk1 hS => ?_)
  obtain ⟨hP1, hD1⟩ := hB
  rw [ht] at hP1
  obtain ⟨hP, hD⟩ := va_join (wr := []) (w1 := [(h0, .inr (15, mF q 0))]) hP hD [10, 0, 1, 2, 3, 4, 5, 6, 7, 8, 9] [] rfl rfl (by decide) (by decide) hk1 hFc hP1 hD1
  generalize H1 = H at hP hS ⊢
  have hP : va_P (dC, dI) vwCl [(h0, .inr (15, mF q 0))] H := hP
  have hD : va_D A [(h0, .inr (15, mF q 0))] := hD
  try dsimp only at hw16
  refine lv_iload_n hx hb dX12_reads_62 rfl (lv_at hl 0 rfl) ?_
  exact W.iret (v := 0) hx hb hr (fun t ht hW => ⟨⟨0, (), rfl, (by rfl), by rw [ht]; exact hP.sub (ws' := [(h0, .inr (15, mF q 0))]) [0] rfl, hD.sub (ws' := [(h0, .inr (15, mF q 0))]) [0] (by decide) rfl⟩, hS.F ht⟩) hS.2.2 dX12_reads_63
def w_m_reads1 : List Cond := .code yX12_reads cX12_reads 4 (some .int) :: ([.code yX12_readLaw cX12_readLaw 2 (some .int), .fieldLink RX12 332 "SeaLandModel" "taped" "I", .fieldLink RX12 338 "SeaLandModel" "end" "I", .fieldLink RX12 335 "SeaLandModel" "point" "I", .fieldLink RX12 367 "SeaLandModel" "steps" "I", .code yX12_blanks cX12_blanks 1 none, .code yX12_isAt cX12_isAt 3 (some .boolean), .methodLink RX12 341 yX12_isAt, .instanceMethod yX12_isAt, .selects RX12 yX12_isAt yX12_isAt, .initialized RX12, .fieldLink RX12 345 "SeaLandModel" "begin" "I", .methodLink RX12 348 yX12_blanks, .instanceMethod yX12_blanks, .selects RX12 yX12_blanks yX12_blanks, .methodLink RX12 454 yX12_readLaw, .instanceMethod yX12_readLaw, .selects RX12 yX12_readLaw yX12_readLaw, .fieldLink RX12 35 "SeaLandModel" "faultAt" "I", .code yX12_throwsIf cX12_throwsIf 3 (some .boolean), .methodLink RX12 224 yX12_throwsIf, .instanceMethod yX12_throwsIf, .selects RX12 yX12_throwsIf yX12_throwsIf, .fieldLink RX12 42 "SeaLandModel" "lines" "[I", .code yX12_copies cX12_copies 4 none, .fieldLink RX12 66 "SeaLandModel" "step" "[I", .fieldLink RX12 69 "SeaLandModel" "than" "[I", .fieldLink RX12 45 "SeaLandModel" "sort" "[I", .fieldLink RX12 48 "SeaLandModel" "told" "[I", .fieldLink RX12 51 "SeaLandModel" "winter" "[I", .fieldLink RX12 54 "SeaLandModel" "from" "[I", .fieldLink RX12 57 "SeaLandModel" "to" "[I", .fieldLink RX12 60 "SeaLandModel" "begins" "[I", .fieldLink RX12 63 "SeaLandModel" "ends" "[I", .methodLink RX12 457 yX12_copies, .instanceMethod yX12_copies, .selects RX12 yX12_copies yX12_copies] ++ bs)
set_option maxHeartbeats 4000000 in
set_option maxRecDepth 100000 in
theorem m_reads1 (l : Launch) (dC : Nat → ClassId) (dI : Nat → Nat → Nat) (h0 : Nat) (q : Nat → Nat) (cm : Nat → ClassId) (sz : Nat) : Met l yX12_reads w_m_reads1 ({ frames := 3, cells := 0, slots := 0, locals := 63 }) (va_Pc [.ref h0, .int 1, .int 0] (fun U => U.heap.size = sz ∧ va_P (dC, dI) vwCl [(h0, .inr (15, mF q 0)), (q 18, .inl ((cm 18), 3, .inl (fun _ => 0))), (q 19, .inl ((cm 19), 60, .inl (fun _ => 0))), (q 20, .inl ((cm 20), 60, .inl (fun _ => 0))), (q 21, .inl ((cm 21), 60, .inl (fun _ => 0))), (q 22, .inl ((cm 22), 60, .inl (fun _ => 0))), (q 23, .inl ((cm 23), 60, .inl (fun _ => 0))), (q 24, .inl ((cm 24), 60, .inl (fun _ => 0))), (q 25, .inl ((cm 25), 60, .inl (fun _ => 0))), (q 26, .inl ((cm 26), 1200, .inl (fun _ => 0))), (q 27, .inl ((cm 27), 1200, .inl (fun _ => 0)))] U.heap ∧ va_K (dC, dI) vwCl [((cm 18), .int), ((cm 19), .int), ((cm 20), .int), ((cm 21), .int), ((cm 22), .int), ((cm 23), .int), ((cm 24), .int), ((cm 25), .int), ((cm 26), .int), ((cm 27), .int)] U ∧ va_D (fun _ => True) [(h0, .inr (15, mF q 0)), (q 18, .inl ((cm 18), 3, .inl (fun _ => 0))), (q 19, .inl ((cm 19), 60, .inl (fun _ => 0))), (q 20, .inl ((cm 20), 60, .inl (fun _ => 0))), (q 21, .inl ((cm 21), 60, .inl (fun _ => 0))), (q 22, .inl ((cm 22), 60, .inl (fun _ => 0))), (q 23, .inl ((cm 23), 60, .inl (fun _ => 0))), (q 24, .inl ((cm 24), 60, .inl (fun _ => 0))), (q 25, .inl ((cm 25), 60, .inl (fun _ => 0))), (q 26, .inl ((cm 26), 1200, .inl (fun _ => 0))), (q 27, .inl ((cm 27), 1200, .inl (fun _ => 0)))])) (va_Qi (fun (r : Int32) (u : Unit) => r = 0) (fun (_ : Unit) (t : State) => va_P (dC, dI) vwCl [(h0, .inr (15, mF q 0))] t.heap ∧ va_D (va_A [(h0, .inr (15, mF q 0)), (q 18, .inl ((cm 18), 3, .inl (fun _ => 0))), (q 19, .inl ((cm 19), 60, .inl (fun _ => 0))), (q 20, .inl ((cm 20), 60, .inl (fun _ => 0))), (q 21, .inl ((cm 21), 60, .inl (fun _ => 0))), (q 22, .inl ((cm 22), 60, .inl (fun _ => 0))), (q 23, .inl ((cm 23), 60, .inl (fun _ => 0))), (q 24, .inl ((cm 24), 60, .inl (fun _ => 0))), (q 25, .inl ((cm 25), 60, .inl (fun _ => 0))), (q 26, .inl ((cm 26), 1200, .inl (fun _ => 0))), (q 27, .inl ((cm 27), 1200, .inl (fun _ => 0)))] sz) [(h0, .inr (15, mF q 0))]) (va_A [(h0, .inr (15, mF q 0)), (q 18, .inl ((cm 18), 3, .inl (fun _ => 0))), (q 19, .inl ((cm 19), 60, .inl (fun _ => 0))), (q 20, .inl ((cm 20), 60, .inl (fun _ => 0))), (q 21, .inl ((cm 21), 60, .inl (fun _ => 0))), (q 22, .inl ((cm 22), 60, .inl (fun _ => 0))), (q 23, .inl ((cm 23), 60, .inl (fun _ => 0))), (q 24, .inl ((cm 24), 60, .inl (fun _ => 0))), (q 25, .inl ((cm 25), 60, .inl (fun _ => 0))), (q 26, .inl ((cm 26), 1200, .inl (fun _ => 0))), (q 27, .inl ((cm 27), 1200, .inl (fun _ => 0)))] sz)) 0 0 (va_A [(h0, .inr (15, mF q 0)), (q 18, .inl ((cm 18), 3, .inl (fun _ => 0))), (q 19, .inl ((cm 19), 60, .inl (fun _ => 0))), (q 20, .inl ((cm 20), 60, .inl (fun _ => 0))), (q 21, .inl ((cm 21), 60, .inl (fun _ => 0))), (q 22, .inl ((cm 22), 60, .inl (fun _ => 0))), (q 23, .inl ((cm 23), 60, .inl (fun _ => 0))), (q 24, .inl ((cm 24), 60, .inl (fun _ => 0))), (q 25, .inl ((cm 25), 60, .inl (fun _ => 0))), (q 26, .inl ((cm 26), 1200, .inl (fun _ => 0))), (q 27, .inl ((cm 27), 1200, .inl (fun _ => 0)))] sz) := by
  refine Met.ofW (cc := cX12_reads) (maxL := 4) (ret := (some .int)) (by decide) rfl ?_
  intro p e s m args below meth c s₁ B hml hv
  obtain ⟨rfl, hsz, hP, hK, hD0⟩ := hv
  have hx := B.exec
  have hb := B.bytes
  have hr := B.returns
  have hts := atoms_spec (ws := w_m_reads1) B.pre
  have hown : s.vm.findClass RX12 = some m.cls := findClass_of_methodNamed B.named
  have hlocks := B.notSynchronized
  subst hsz
  have hD := hD0.self (sz := s.heap.size)
  generalize hAe : va_A [(h0, .inr (15, mF q 0)), (q 18, .inl ((cm 18), 3, .inl (fun _ => 0))), (q 19, .inl ((cm 19), 60, .inl (fun _ => 0))), (q 20, .inl ((cm 20), 60, .inl (fun _ => 0))), (q 21, .inl ((cm 21), 60, .inl (fun _ => 0))), (q 22, .inl ((cm 22), 60, .inl (fun _ => 0))), (q 23, .inl ((cm 23), 60, .inl (fun _ => 0))), (q 24, .inl ((cm 24), 60, .inl (fun _ => 0))), (q 25, .inl ((cm 25), 60, .inl (fun _ => 0))), (q 26, .inl ((cm 26), 1200, .inl (fun _ => 0))), (q 27, .inl ((cm 27), 1200, .inl (fun _ => 0)))] s.heap.size = A at hD ⊢
  have hA : ∀ q : Nat, s.heap.size ≤ q → A q := fun q h => by rw [← hAe]; exact Or.inr h
  have hS : va_S A s.heap s.heap [] := va_S.rf
  have hP : va_P (dC, dI) vwCl [(h0, .inr (15, mF q 0)), (q 18, .inl ((cm 18), 3, .inl (fun _ => 0))), (q 19, .inl ((cm 19), 60, .inl (fun _ => 0))), (q 20, .inl ((cm 20), 60, .inl (fun _ => 0))), (q 21, .inl ((cm 21), 60, .inl (fun _ => 0))), (q 22, .inl ((cm 22), 60, .inl (fun _ => 0))), (q 23, .inl ((cm 23), 60, .inl (fun _ => 0))), (q 24, .inl ((cm 24), 60, .inl (fun _ => 0))), (q 25, .inl ((cm 25), 60, .inl (fun _ => 0))), (q 26, .inl ((cm 26), 1200, .inl (fun _ => 0))), (q 27, .inl ((cm 27), 1200, .inl (fun _ => 0)))] s.heap := hP
  have hl := lv_entry ([.ref h0, .int 1, .int 0]) (n := 4) (Nat.le_of_ble_eq_true rfl)
  rw [lg_entry_eq]
  generalize (lg_sl ([.ref h0, .int 1, .int 0]) ++ List.replicate (4 - (lg_sl ([.ref h0, .int 1, .int 0])).length) Slot.unset).toArray = ls at hl ⊢
  have hl : lv_has ls 4 [(0, .ref h0), (1, .int 1), (2, .int 0)] := hl
  refine lv_aload_n hx hb dX12_reads_0 rfl (lv_at hl 0 rfl) ?_
  have hPc := hP.sub (ws' := [(h0, .inr (15, mF q 0))]) [0] rfl
  have hDc := hD.sub (ws' := [(h0, .inr (15, mF q 0))]) [0] (by decide) rfl
  have hKc := hK.sub (tys' := []) [] rfl
  have hFc := va_free (wc := [(h0, .inr (15, mF q 0))]) hD hS hA [0] rfl
  refine va_calli (va_runV (As := []) (rest := []) ⟨hx, hb, hml, hown, hts⟩ (m_readLaw l dC dI h0 q cm s.heap.size ) (cwV 0 hts (goodIn_app (goodIn_r _ [16, 17, 18, 11] (by decide +kernel) (by decide +kernel)) (goodIn_ca (goodIn_r _ [1, 2, 3, 4, 5, 6, 7, 8, 9, 10, 11, 12, 13, 14, 15] (by decide +kernel) (by decide +kernel)) (bs_in _ _))) rfl rfl rfl (by decide +kernel) ⟨(Nat.le_of_ble_eq_true rfl), (Nat.le_of_ble_eq_true rfl)⟩) ⟨fun a U g mk q => by obtain ⟨q0, q1, qP, qK, qD⟩ := q; exact ⟨q0, q1, qP, va_K.moved (u := U) (U := U.calling g mk a) (Vm.Alike.refl U.vm) qK, qD⟩, va_recv hKc hPc (ci := 15) (q0 := 0) rfl rfl, fun U hU hW => ⟨rfl, by rw [hU], by rw [hU]; exact hPc, va_K.moved hW.alike hKc, hDc.weaken (fun _ _ _ _ => trivial)⟩⟩ rfl rfl hl.1 rfl (lv_room (Nat.le_of_ble_eq_true rfl)) dX12_reads_1 ⟨(Nat.le_of_ble_eq_true rfl), (Nat.le_of_ble_eq_true rfl)⟩) hS (fun q _ h => hFc q h) hFc (fun r2 u t H1 locs ht hvm hw3 hB hz1 hk1 hS => ?_)
  obtain ⟨hP1, hD1⟩ := hB
  rw [ht] at hP1
  obtain ⟨hP, hD⟩ := va_join (wr := [(q 18, .inl ((cm 18), 3, .inl (fun _ => 0))), (q 19, .inl ((cm 19), 60, .inl (fun _ => 0))), (q 20, .inl ((cm 20), 60, .inl (fun _ => 0))), (q 21, .inl ((cm 21), 60, .inl (fun _ => 0))), (q 22, .inl ((cm 22), 60, .inl (fun _ => 0))), (q 23, .inl ((cm 23), 60, .inl (fun _ => 0))), (q 24, .inl ((cm 24), 60, .inl (fun _ => 0))), (q 25, .inl ((cm 25), 60, .inl (fun _ => 0))), (q 26, .inl ((cm 26), 1200, .inl (fun _ => 0))), (q 27, .inl ((cm 27), 1200, .inl (fun _ => 0)))]) (w1 := [(h0, .inr (15, mF q 0))]) hP hD [0] [1, 2, 3, 4, 5, 6, 7, 8, 9, 10] rfl rfl (by decide) (by decide) hk1 hFc hP1 hD1
  generalize H1 = H at hP hS ⊢
  have hP : va_P (dC, dI) vwCl [(q 18, .inl ((cm 18), 3, .inl (fun _ => 0))), (q 19, .inl ((cm 19), 60, .inl (fun _ => 0))), (q 20, .inl ((cm 20), 60, .inl (fun _ => 0))), (q 21, .inl ((cm 21), 60, .inl (fun _ => 0))), (q 22, .inl ((cm 22), 60, .inl (fun _ => 0))), (q 23, .inl ((cm 23), 60, .inl (fun _ => 0))), (q 24, .inl ((cm 24), 60, .inl (fun _ => 0))), (q 25, .inl ((cm 25), 60, .inl (fun _ => 0))), (q 26, .inl ((cm 26), 1200, .inl (fun _ => 0))), (q 27, .inl ((cm 27), 1200, .inl (fun _ => 0))), (h0, .inr (15, mF q 0))] H := hP
  have hD : va_D A [(q 18, .inl ((cm 18), 3, .inl (fun _ => 0))), (q 19, .inl ((cm 19), 60, .inl (fun _ => 0))), (q 20, .inl ((cm 20), 60, .inl (fun _ => 0))), (q 21, .inl ((cm 21), 60, .inl (fun _ => 0))), (q 22, .inl ((cm 22), 60, .inl (fun _ => 0))), (q 23, .inl ((cm 23), 60, .inl (fun _ => 0))), (q 24, .inl ((cm 24), 60, .inl (fun _ => 0))), (q 25, .inl ((cm 25), 60, .inl (fun _ => 0))), (q 26, .inl ((cm 26), 1200, .inl (fun _ => 0))), (q 27, .inl ((cm 27), 1200, .inl (fun _ => 0))), (h0, .inr (15, mF q 0))] := hD
  try dsimp only at hw3
  obtain rfl : 0 = r2 := (hw3).symm
  refine lv_istore_n (lv' := [(3, .int 0), (0, .ref h0), (1, .int 1), (2, .int 0)]) hx hb dX12_reads_4 rfl hl (by decide) rfl (fun ls hl => ?_)
  refine lv_aload_n hx hb dX12_reads_5 rfl (lv_at hl 1 rfl) ?_
  refine lv_iload_n hx hb dX12_reads_6 rfl (lv_at hl 0 rfl) ?_
  refine lv_if_ge (tgt := 17) hx hb dX12_reads_7 (by decide) (fun c4 => ?_) (fun c4 => absurd c4 (by decide))
  refine lv_iconst (v := (-1)) hx hb dX12_reads_17 (by decide) ?_
  refine va_put (D := (dC, dI)) (ci := 15) (v := .int (-1)) (ty := .int) (C := RX12) (T := TX12) (N := 78) hx hb hts bF_X12 tyX12 tyX12_ok nmX12 hown hK hP hD hS 10 rfl rfl 16 (by decide) (ht_at hts 18 rfl) (fun _ h9 => h9) rfl (by decide +kernel) rfl rfl (Nat.le_of_ble_eq_true rfl) dX12_reads_18 (fun H locs hP hD hS => ?_)
  have hP : va_P (dC, dI) vwCl [(q 18, .inl ((cm 18), 3, .inl (fun _ => 0))), (q 19, .inl ((cm 19), 60, .inl (fun _ => 0))), (q 20, .inl ((cm 20), 60, .inl (fun _ => 0))), (q 21, .inl ((cm 21), 60, .inl (fun _ => 0))), (q 22, .inl ((cm 22), 60, .inl (fun _ => 0))), (q 23, .inl ((cm 23), 60, .inl (fun _ => 0))), (q 24, .inl ((cm 24), 60, .inl (fun _ => 0))), (q 25, .inl ((cm 25), 60, .inl (fun _ => 0))), (q 26, .inl ((cm 26), 1200, .inl (fun _ => 0))), (q 27, .inl ((cm 27), 1200, .inl (fun _ => 0))), (h0, .inr (15, mF q 0))] H := hP
  have hD : va_D A [(q 18, .inl ((cm 18), 3, .inl (fun _ => 0))), (q 19, .inl ((cm 19), 60, .inl (fun _ => 0))), (q 20, .inl ((cm 20), 60, .inl (fun _ => 0))), (q 21, .inl ((cm 21), 60, .inl (fun _ => 0))), (q 22, .inl ((cm 22), 60, .inl (fun _ => 0))), (q 23, .inl ((cm 23), 60, .inl (fun _ => 0))), (q 24, .inl ((cm 24), 60, .inl (fun _ => 0))), (q 25, .inl ((cm 25), 60, .inl (fun _ => 0))), (q 26, .inl ((cm 26), 1200, .inl (fun _ => 0))), (q 27, .inl ((cm 27), 1200, .inl (fun _ => 0))), (h0, .inr (15, mF q 0))] := hD
  refine lv_aload_n hx hb dX12_reads_21 rfl (lv_at hl 1 rfl) ?_
  refine lv_iload_n hx hb dX12_reads_22 rfl (lv_at hl 0 rfl) ?_
  refine lv_if_ge (tgt := 30) hx hb dX12_reads_23 (by decide) (fun c5 => ?_) (fun c5 => absurd c5 (by decide))
  refine lv_iconst (v := 0) hx hb dX12_reads_30 (by decide) ?_
  refine lv_iconst (v := 1) hx hb dX12_reads_31 (by decide) ?_
  have hPc := hP.sub (ws' := [(h0, .inr (15, mF q 0))]) [10] rfl
  have hDc := hD.sub (ws' := [(h0, .inr (15, mF q 0))]) [10] (by decide) rfl
  have hKc := hK.sub (tys' := []) [] rfl
  have hFc := va_free (wc := [(h0, .inr (15, mF q 0))]) hD hS hA [10] rfl
  refine va_calli (va_runV (As := [.int 0, .int 1]) (rest := []) ⟨hx, hb, hml, hown, hts⟩ (c_m_throwsIf0 l dC dI h0 (mF q 0) 1 H.size ) (cwV 2 hts (goodIn_app (goodIn_r _ [21, 22, 23, 11] (by decide +kernel) (by decide +kernel)) (goodIn_ca (goodIn_r _ [20] (by decide +kernel) (by decide +kernel)) (bs_in _ _))) rfl rfl rfl (by decide +kernel) ⟨(Nat.le_of_ble_eq_true rfl), (Nat.le_of_ble_eq_true rfl)⟩) ⟨fun a U g mk q => by obtain ⟨q0, q1, qP, qK, qD⟩ := q; exact ⟨q0, q1, qP, va_K.moved (u := U) (U := U.calling g mk a) (Vm.Alike.refl U.vm) qK, qD⟩, va_recv hKc hPc (ci := 15) (q0 := 0) rfl rfl, fun U hU hW => ⟨rfl, by rw [hU], by rw [hU]; exact hPc, va_K.moved hW.alike hKc, hDc.weaken (fun _ _ _ _ => trivial)⟩⟩ rfl rfl hl.1 rfl (lv_room (Nat.le_of_ble_eq_true rfl)) dX12_reads_32 ⟨(Nat.le_of_ble_eq_true rfl), (Nat.le_of_ble_eq_true rfl)⟩) hS (fun q _ h => hFc q h) hFc (fun r7 u t H1 locs ht hvm hw8 hB hz1 hk1 hS => ?_)
  obtain ⟨hP1, hD1⟩ := hB
  rw [ht] at hP1
  obtain ⟨hP, hD⟩ := va_join (wr := [(q 18, .inl ((cm 18), 3, .inl (fun _ => 0))), (q 19, .inl ((cm 19), 60, .inl (fun _ => 0))), (q 20, .inl ((cm 20), 60, .inl (fun _ => 0))), (q 21, .inl ((cm 21), 60, .inl (fun _ => 0))), (q 22, .inl ((cm 22), 60, .inl (fun _ => 0))), (q 23, .inl ((cm 23), 60, .inl (fun _ => 0))), (q 24, .inl ((cm 24), 60, .inl (fun _ => 0))), (q 25, .inl ((cm 25), 60, .inl (fun _ => 0))), (q 26, .inl ((cm 26), 1200, .inl (fun _ => 0))), (q 27, .inl ((cm 27), 1200, .inl (fun _ => 0)))]) (w1 := [(h0, .inr (15, mF q 0))]) hP hD [10] [0, 1, 2, 3, 4, 5, 6, 7, 8, 9] rfl rfl (by decide) (by decide) hk1 hFc hP1 hD1
  generalize H1 = H at hP hS ⊢
  have hP : va_P (dC, dI) vwCl [(q 18, .inl ((cm 18), 3, .inl (fun _ => 0))), (q 19, .inl ((cm 19), 60, .inl (fun _ => 0))), (q 20, .inl ((cm 20), 60, .inl (fun _ => 0))), (q 21, .inl ((cm 21), 60, .inl (fun _ => 0))), (q 22, .inl ((cm 22), 60, .inl (fun _ => 0))), (q 23, .inl ((cm 23), 60, .inl (fun _ => 0))), (q 24, .inl ((cm 24), 60, .inl (fun _ => 0))), (q 25, .inl ((cm 25), 60, .inl (fun _ => 0))), (q 26, .inl ((cm 26), 1200, .inl (fun _ => 0))), (q 27, .inl ((cm 27), 1200, .inl (fun _ => 0))), (h0, .inr (15, mF q 0))] H := hP
  have hD : va_D A [(q 18, .inl ((cm 18), 3, .inl (fun _ => 0))), (q 19, .inl ((cm 19), 60, .inl (fun _ => 0))), (q 20, .inl ((cm 20), 60, .inl (fun _ => 0))), (q 21, .inl ((cm 21), 60, .inl (fun _ => 0))), (q 22, .inl ((cm 22), 60, .inl (fun _ => 0))), (q 23, .inl ((cm 23), 60, .inl (fun _ => 0))), (q 24, .inl ((cm 24), 60, .inl (fun _ => 0))), (q 25, .inl ((cm 25), 60, .inl (fun _ => 0))), (q 26, .inl ((cm 26), 1200, .inl (fun _ => 0))), (q 27, .inl ((cm 27), 1200, .inl (fun _ => 0))), (h0, .inr (15, mF q 0))] := hD
  try dsimp only at hw8
  obtain rfl : 0 = r7 := (hw8).symm
  refine lv_if_ne (tgt := 47) hx hb dX12_reads_35 (by decide) (fun c9 => absurd c9 (by decide)) (fun c9 => ?_)
  refine lv_aload_n hx hb dX12_reads_38 rfl (lv_at hl 1 rfl) ?_
  refine lv_iload_n hx hb dX12_reads_39 rfl (lv_at hl 3 rfl) ?_
  refine lv_iconst (v := 2) hx hb dX12_reads_40 (by decide) ?_
  have hPc := hP.sub (ws' := [(h0, .inr (15, mF q 0))]) [10] rfl
  have hDc := hD.sub (ws' := [(h0, .inr (15, mF q 0))]) [10] (by decide) rfl
  have hKc := hK.sub (tys' := []) [] rfl
  have hFc := va_free (wc := [(h0, .inr (15, mF q 0))]) hD hS hA [10] rfl
  refine va_calli (va_runV (As := [.int 0, .int 2]) (rest := []) ⟨hx, hb, hml, hown, hts⟩ (c_m_throwsIf0 l dC dI h0 (mF q 0) 2 H.size ) (cwV 2 hts (goodIn_app (goodIn_r _ [21, 22, 23, 11] (by decide +kernel) (by decide +kernel)) (goodIn_ca (goodIn_r _ [20] (by decide +kernel) (by decide +kernel)) (bs_in _ _))) rfl rfl rfl (by decide +kernel) ⟨(Nat.le_of_ble_eq_true rfl), (Nat.le_of_ble_eq_true rfl)⟩) ⟨fun a U g mk q => by obtain ⟨q0, q1, qP, qK, qD⟩ := q; exact ⟨q0, q1, qP, va_K.moved (u := U) (U := U.calling g mk a) (Vm.Alike.refl U.vm) qK, qD⟩, va_recv hKc hPc (ci := 15) (q0 := 0) rfl rfl, fun U hU hW => ⟨rfl, by rw [hU], by rw [hU]; exact hPc, va_K.moved hW.alike hKc, hDc.weaken (fun _ _ _ _ => trivial)⟩⟩ rfl rfl hl.1 rfl (lv_room (Nat.le_of_ble_eq_true rfl)) dX12_reads_41 ⟨(Nat.le_of_ble_eq_true rfl), (Nat.le_of_ble_eq_true rfl)⟩) hS (fun q _ h => hFc q h) hFc (fun r11 u t H1 locs ht hvm hw12 hB hz1 hk1 hS => ?_)
  obtain ⟨hP1, hD1⟩ := hB
  rw [ht] at hP1
  obtain ⟨hP, hD⟩ := va_join (wr := [(q 18, .inl ((cm 18), 3, .inl (fun _ => 0))), (q 19, .inl ((cm 19), 60, .inl (fun _ => 0))), (q 20, .inl ((cm 20), 60, .inl (fun _ => 0))), (q 21, .inl ((cm 21), 60, .inl (fun _ => 0))), (q 22, .inl ((cm 22), 60, .inl (fun _ => 0))), (q 23, .inl ((cm 23), 60, .inl (fun _ => 0))), (q 24, .inl ((cm 24), 60, .inl (fun _ => 0))), (q 25, .inl ((cm 25), 60, .inl (fun _ => 0))), (q 26, .inl ((cm 26), 1200, .inl (fun _ => 0))), (q 27, .inl ((cm 27), 1200, .inl (fun _ => 0)))]) (w1 := [(h0, .inr (15, mF q 0))]) hP hD [10] [0, 1, 2, 3, 4, 5, 6, 7, 8, 9] rfl rfl (by decide) (by decide) hk1 hFc hP1 hD1
  generalize H1 = H at hP hS ⊢
  have hP : va_P (dC, dI) vwCl [(q 18, .inl ((cm 18), 3, .inl (fun _ => 0))), (q 19, .inl ((cm 19), 60, .inl (fun _ => 0))), (q 20, .inl ((cm 20), 60, .inl (fun _ => 0))), (q 21, .inl ((cm 21), 60, .inl (fun _ => 0))), (q 22, .inl ((cm 22), 60, .inl (fun _ => 0))), (q 23, .inl ((cm 23), 60, .inl (fun _ => 0))), (q 24, .inl ((cm 24), 60, .inl (fun _ => 0))), (q 25, .inl ((cm 25), 60, .inl (fun _ => 0))), (q 26, .inl ((cm 26), 1200, .inl (fun _ => 0))), (q 27, .inl ((cm 27), 1200, .inl (fun _ => 0))), (h0, .inr (15, mF q 0))] H := hP
  have hD : va_D A [(q 18, .inl ((cm 18), 3, .inl (fun _ => 0))), (q 19, .inl ((cm 19), 60, .inl (fun _ => 0))), (q 20, .inl ((cm 20), 60, .inl (fun _ => 0))), (q 21, .inl ((cm 21), 60, .inl (fun _ => 0))), (q 22, .inl ((cm 22), 60, .inl (fun _ => 0))), (q 23, .inl ((cm 23), 60, .inl (fun _ => 0))), (q 24, .inl ((cm 24), 60, .inl (fun _ => 0))), (q 25, .inl ((cm 25), 60, .inl (fun _ => 0))), (q 26, .inl ((cm 26), 1200, .inl (fun _ => 0))), (q 27, .inl ((cm 27), 1200, .inl (fun _ => 0))), (h0, .inr (15, mF q 0))] := hD
  try dsimp only at hw12
  obtain rfl : 0 = r11 := (hw12).symm
  refine lv_if_eq (tgt := 49) hx hb dX12_reads_44 (by decide) (fun c13 => ?_) (fun c13 => absurd c13 (by decide))
  refine lv_aload_n hx hb dX12_reads_49 rfl (lv_at hl 1 rfl) ?_
  refine va_get (D := (dC, dI)) (ci := 15) (v := .ref (q 18)) (C := RX12) (T := TX12) (N := 78) hx hb hts bF_X12 hown hK hP 10 rfl rfl 18 (by decide) (ht_at hts 23 rfl) (fun _ h9 => h9) rfl dX12_reads_50 ?_
  refine lv_iconst (v := 2) hx hb dX12_reads_53 (by decide) ?_
  refine lv_iload_n hx hb dX12_reads_54 rfl (lv_at hl 0 rfl) ?_
  refine va_iast hx hb hK hP hD hS 0 0 rfl rfl (by unfold vp_in; decide) dX12_reads_55 (fun H locs hP hD hS => ?_)
  have hP : va_P (dC, dI) vwCl [(q 18, .inl ((cm 18), 3, .inl (upd (fun _ => 0) (2 : Int32).toNatClampNeg 0))), (q 19, .inl ((cm 19), 60, .inl (fun _ => 0))), (q 20, .inl ((cm 20), 60, .inl (fun _ => 0))), (q 21, .inl ((cm 21), 60, .inl (fun _ => 0))), (q 22, .inl ((cm 22), 60, .inl (fun _ => 0))), (q 23, .inl ((cm 23), 60, .inl (fun _ => 0))), (q 24, .inl ((cm 24), 60, .inl (fun _ => 0))), (q 25, .inl ((cm 25), 60, .inl (fun _ => 0))), (q 26, .inl ((cm 26), 1200, .inl (fun _ => 0))), (q 27, .inl ((cm 27), 1200, .inl (fun _ => 0))), (h0, .inr (15, mF q 0))] H := hP
  have hD : va_D A [(q 18, .inl ((cm 18), 3, .inl (upd (fun _ => 0) (2 : Int32).toNatClampNeg 0))), (q 19, .inl ((cm 19), 60, .inl (fun _ => 0))), (q 20, .inl ((cm 20), 60, .inl (fun _ => 0))), (q 21, .inl ((cm 21), 60, .inl (fun _ => 0))), (q 22, .inl ((cm 22), 60, .inl (fun _ => 0))), (q 23, .inl ((cm 23), 60, .inl (fun _ => 0))), (q 24, .inl ((cm 24), 60, .inl (fun _ => 0))), (q 25, .inl ((cm 25), 60, .inl (fun _ => 0))), (q 26, .inl ((cm 26), 1200, .inl (fun _ => 0))), (q 27, .inl ((cm 27), 1200, .inl (fun _ => 0))), (h0, .inr (15, mF q 0))] := hD
  refine lv_aload_n hx hb dX12_reads_56 rfl (lv_at hl 1 rfl) ?_
  refine lv_iconst (v := 2) hx hb dX12_reads_57 (by decide) ?_
  refine lv_iload_n hx hb dX12_reads_58 rfl (lv_at hl 2 rfl) ?_
  have hPc := hP.sub (ws' := [(h0, .inr (15, mF q 0)), (q 18, .inl ((cm 18), 3, .inl (upd (fun _ => 0) (2 : Int32).toNatClampNeg 0))), (q 19, .inl ((cm 19), 60, .inl (fun _ => 0))), (q 20, .inl ((cm 20), 60, .inl (fun _ => 0))), (q 21, .inl ((cm 21), 60, .inl (fun _ => 0))), (q 22, .inl ((cm 22), 60, .inl (fun _ => 0))), (q 23, .inl ((cm 23), 60, .inl (fun _ => 0))), (q 24, .inl ((cm 24), 60, .inl (fun _ => 0))), (q 25, .inl ((cm 25), 60, .inl (fun _ => 0))), (q 26, .inl ((cm 26), 1200, .inl (fun _ => 0))), (q 27, .inl ((cm 27), 1200, .inl (fun _ => 0)))]) [10, 0, 1, 2, 3, 4, 5, 6, 7, 8, 9] rfl
  have hDc := hD.sub (ws' := [(h0, .inr (15, mF q 0)), (q 18, .inl ((cm 18), 3, .inl (upd (fun _ => 0) (2 : Int32).toNatClampNeg 0))), (q 19, .inl ((cm 19), 60, .inl (fun _ => 0))), (q 20, .inl ((cm 20), 60, .inl (fun _ => 0))), (q 21, .inl ((cm 21), 60, .inl (fun _ => 0))), (q 22, .inl ((cm 22), 60, .inl (fun _ => 0))), (q 23, .inl ((cm 23), 60, .inl (fun _ => 0))), (q 24, .inl ((cm 24), 60, .inl (fun _ => 0))), (q 25, .inl ((cm 25), 60, .inl (fun _ => 0))), (q 26, .inl ((cm 26), 1200, .inl (fun _ => 0))), (q 27, .inl ((cm 27), 1200, .inl (fun _ => 0)))]) [10, 0, 1, 2, 3, 4, 5, 6, 7, 8, 9] (by decide) rfl
  have hKc := hK.sub (tys' := [((cm 18), .int), ((cm 19), .int), ((cm 20), .int), ((cm 21), .int), ((cm 22), .int), ((cm 23), .int), ((cm 24), .int), ((cm 25), .int), ((cm 26), .int), ((cm 27), .int)]) [0, 1, 2, 3, 4, 5, 6, 7, 8, 9] rfl
  have hFc := va_free (wc := [(h0, .inr (15, mF q 0)), (q 18, .inl ((cm 18), 3, .inl (upd (fun _ => 0) (2 : Int32).toNatClampNeg 0))), (q 19, .inl ((cm 19), 60, .inl (fun _ => 0))), (q 20, .inl ((cm 20), 60, .inl (fun _ => 0))), (q 21, .inl ((cm 21), 60, .inl (fun _ => 0))), (q 22, .inl ((cm 22), 60, .inl (fun _ => 0))), (q 23, .inl ((cm 23), 60, .inl (fun _ => 0))), (q 24, .inl ((cm 24), 60, .inl (fun _ => 0))), (q 25, .inl ((cm 25), 60, .inl (fun _ => 0))), (q 26, .inl ((cm 26), 1200, .inl (fun _ => 0))), (q 27, .inl ((cm 27), 1200, .inl (fun _ => 0)))]) hD hS hA [10, 0, 1, 2, 3, 4, 5, 6, 7, 8, 9] rfl
  refine va_callv (va_runV (As := [.int 2, .int 1]) (rest := []) ⟨hx, hb, hml, hown, hts⟩ (m_copies1 l dC dI h0 q cm (upd (fun _ => 0) (2 : Int32).toNatClampNeg 0) H.size ) (cwV 2 hts (goodIn_app (goodIn_r _ [35, 36, 37, 11] (by decide +kernel) (by decide +kernel)) (goodIn_ca (goodIn_r _ [25, 24, 26, 27, 28, 29, 30, 31, 32, 33, 34] (by decide +kernel) (by decide +kernel)) (bs_in _ _))) rfl rfl rfl (by decide +kernel) ⟨(Nat.le_of_ble_eq_true rfl), (Nat.le_of_ble_eq_true rfl)⟩) ⟨fun a U g mk q => by obtain ⟨q0, q1, qP, qK, qD⟩ := q; exact ⟨q0, q1, qP, va_K.moved (u := U) (U := U.calling g mk a) (Vm.Alike.refl U.vm) qK, qD⟩, va_recv hKc hPc (ci := 15) (q0 := 0) rfl rfl, fun U hU hW => ⟨rfl, by rw [hU], by rw [hU]; exact hPc, va_K.moved hW.alike hKc, hDc.weaken (fun _ _ _ _ => trivial)⟩⟩ rfl rfl hl.1 rfl (lv_room (Nat.le_of_ble_eq_true rfl)) dX12_reads_59 ⟨(Nat.le_of_ble_eq_true rfl), (Nat.le_of_ble_eq_true rfl)⟩) hS (fun q _ h => hFc q h) hFc (fun u t H1 locs ht hvm hw16 hB hz1 hk1 hS => ?_)
  obtain ⟨hP1, hD1⟩ := hB
  rw [ht] at hP1
  obtain ⟨hP, hD⟩ := va_join (wr := []) (w1 := [(h0, .inr (15, mF q 0))]) hP hD [10, 0, 1, 2, 3, 4, 5, 6, 7, 8, 9] [] rfl rfl (by decide) (by decide) hk1 hFc hP1 hD1
  generalize H1 = H at hP hS ⊢
  have hP : va_P (dC, dI) vwCl [(h0, .inr (15, mF q 0))] H := hP
  have hD : va_D A [(h0, .inr (15, mF q 0))] := hD
  try dsimp only at hw16
  refine lv_iload_n hx hb dX12_reads_62 rfl (lv_at hl 0 rfl) ?_
  exact W.iret (v := 0) hx hb hr (fun t ht hW => ⟨⟨0, (), rfl, (by rfl), by rw [ht]; exact hP.sub (ws' := [(h0, .inr (15, mF q 0))]) [0] rfl, hD.sub (ws' := [(h0, .inr (15, mF q 0))]) [0] (by decide) rfl⟩, hS.F ht⟩) hS.2.2 dX12_reads_63
def w_m_found : List Cond := .code yX12_found cX12_found 1 (some .int) :: ([.fieldLink RX12 194 "SeaLandModel" "thrown" "I", .code yX12_holders cX12_holders 3 (some .int), .fieldLink RX12 495 "SeaLandModel" "settlers" "I", .methodLink RX12 460 yX12_holders, .instanceMethod yX12_holders, .selects RX12 yX12_holders yX12_holders, .initialized RX12, .code yX12_reads cX12_reads 4 (some .int), .code yX12_readLaw cX12_readLaw 2 (some .int), .fieldLink RX12 332 "SeaLandModel" "taped" "I", .fieldLink RX12 338 "SeaLandModel" "end" "I", .fieldLink RX12 335 "SeaLandModel" "point" "I", .fieldLink RX12 367 "SeaLandModel" "steps" "I", .code yX12_blanks cX12_blanks 1 none, .code yX12_isAt cX12_isAt 3 (some .boolean), .methodLink RX12 341 yX12_isAt, .instanceMethod yX12_isAt, .selects RX12 yX12_isAt yX12_isAt, .fieldLink RX12 345 "SeaLandModel" "begin" "I", .methodLink RX12 348 yX12_blanks, .instanceMethod yX12_blanks, .selects RX12 yX12_blanks yX12_blanks, .methodLink RX12 454 yX12_readLaw, .instanceMethod yX12_readLaw, .selects RX12 yX12_readLaw yX12_readLaw, .fieldLink RX12 35 "SeaLandModel" "faultAt" "I", .code yX12_throwsIf cX12_throwsIf 3 (some .boolean), .methodLink RX12 224 yX12_throwsIf, .instanceMethod yX12_throwsIf, .selects RX12 yX12_throwsIf yX12_throwsIf, .fieldLink RX12 42 "SeaLandModel" "lines" "[I", .code yX12_copies cX12_copies 4 none, .fieldLink RX12 66 "SeaLandModel" "step" "[I", .fieldLink RX12 69 "SeaLandModel" "than" "[I", .fieldLink RX12 45 "SeaLandModel" "sort" "[I", .fieldLink RX12 48 "SeaLandModel" "told" "[I", .fieldLink RX12 51 "SeaLandModel" "winter" "[I", .fieldLink RX12 54 "SeaLandModel" "from" "[I", .fieldLink RX12 57 "SeaLandModel" "to" "[I", .fieldLink RX12 60 "SeaLandModel" "begins" "[I", .fieldLink RX12 63 "SeaLandModel" "ends" "[I", .methodLink RX12 457 yX12_copies, .instanceMethod yX12_copies, .selects RX12 yX12_copies yX12_copies, .methodLink RX12 463 yX12_reads, .instanceMethod yX12_reads, .selects RX12 yX12_reads yX12_reads] ++ bs)
set_option maxHeartbeats 4000000 in
set_option maxRecDepth 100000 in
theorem m_found (l : Launch) (dC : Nat → ClassId) (dI : Nat → Nat → Nat) (h0 : Nat) (q : Nat → Nat) (cm : Nat → ClassId)  (sz : Nat) : Met l yX12_found w_m_found ({ frames := 4, cells := 0, slots := 0, locals := 86 }) (va_Pc [.ref h0] (fun U => U.heap.size = sz ∧ va_P (dC, dI) vwCl [(h0, .inr (15, mF q 0)), (q 18, .inl ((cm 18), 3, .inl (fun _ => 0))), (q 19, .inl ((cm 19), 60, .inl (fun _ => 0))), (q 20, .inl ((cm 20), 60, .inl (fun _ => 0))), (q 21, .inl ((cm 21), 60, .inl (fun _ => 0))), (q 22, .inl ((cm 22), 60, .inl (fun _ => 0))), (q 23, .inl ((cm 23), 60, .inl (fun _ => 0))), (q 24, .inl ((cm 24), 60, .inl (fun _ => 0))), (q 25, .inl ((cm 25), 60, .inl (fun _ => 0))), (q 26, .inl ((cm 26), 1200, .inl (fun _ => 0))), (q 27, .inl ((cm 27), 1200, .inl (fun _ => 0)))] U.heap ∧ va_K (dC, dI) vwCl [((cm 18), .int), ((cm 19), .int), ((cm 20), .int), ((cm 21), .int), ((cm 22), .int), ((cm 23), .int), ((cm 24), .int), ((cm 25), .int), ((cm 26), .int), ((cm 27), .int)] U ∧ va_D (fun _ => True) [(h0, .inr (15, mF q 0)), (q 18, .inl ((cm 18), 3, .inl (fun _ => 0))), (q 19, .inl ((cm 19), 60, .inl (fun _ => 0))), (q 20, .inl ((cm 20), 60, .inl (fun _ => 0))), (q 21, .inl ((cm 21), 60, .inl (fun _ => 0))), (q 22, .inl ((cm 22), 60, .inl (fun _ => 0))), (q 23, .inl ((cm 23), 60, .inl (fun _ => 0))), (q 24, .inl ((cm 24), 60, .inl (fun _ => 0))), (q 25, .inl ((cm 25), 60, .inl (fun _ => 0))), (q 26, .inl ((cm 26), 1200, .inl (fun _ => 0))), (q 27, .inl ((cm 27), 1200, .inl (fun _ => 0)))])) (va_Qi (fun (r : Int32) (u : List Value) => u[0]? = some (.int (T_found).1) ∧ ((T_found).1 = 0 → r = (T_found).2)) (fun (fs : List Value) (t : State) => va_P (dC, dI) vwCl [(h0, .inr (15, fs))] t.heap ∧ va_D (va_A [(h0, .inr (15, mF q 0)), (q 18, .inl ((cm 18), 3, .inl (fun _ => 0))), (q 19, .inl ((cm 19), 60, .inl (fun _ => 0))), (q 20, .inl ((cm 20), 60, .inl (fun _ => 0))), (q 21, .inl ((cm 21), 60, .inl (fun _ => 0))), (q 22, .inl ((cm 22), 60, .inl (fun _ => 0))), (q 23, .inl ((cm 23), 60, .inl (fun _ => 0))), (q 24, .inl ((cm 24), 60, .inl (fun _ => 0))), (q 25, .inl ((cm 25), 60, .inl (fun _ => 0))), (q 26, .inl ((cm 26), 1200, .inl (fun _ => 0))), (q 27, .inl ((cm 27), 1200, .inl (fun _ => 0)))] sz) [(h0, .inr (15, fs))]) (va_A [(h0, .inr (15, mF q 0)), (q 18, .inl ((cm 18), 3, .inl (fun _ => 0))), (q 19, .inl ((cm 19), 60, .inl (fun _ => 0))), (q 20, .inl ((cm 20), 60, .inl (fun _ => 0))), (q 21, .inl ((cm 21), 60, .inl (fun _ => 0))), (q 22, .inl ((cm 22), 60, .inl (fun _ => 0))), (q 23, .inl ((cm 23), 60, .inl (fun _ => 0))), (q 24, .inl ((cm 24), 60, .inl (fun _ => 0))), (q 25, .inl ((cm 25), 60, .inl (fun _ => 0))), (q 26, .inl ((cm 26), 1200, .inl (fun _ => 0))), (q 27, .inl ((cm 27), 1200, .inl (fun _ => 0)))] sz)) 0 0 (va_A [(h0, .inr (15, mF q 0)), (q 18, .inl ((cm 18), 3, .inl (fun _ => 0))), (q 19, .inl ((cm 19), 60, .inl (fun _ => 0))), (q 20, .inl ((cm 20), 60, .inl (fun _ => 0))), (q 21, .inl ((cm 21), 60, .inl (fun _ => 0))), (q 22, .inl ((cm 22), 60, .inl (fun _ => 0))), (q 23, .inl ((cm 23), 60, .inl (fun _ => 0))), (q 24, .inl ((cm 24), 60, .inl (fun _ => 0))), (q 25, .inl ((cm 25), 60, .inl (fun _ => 0))), (q 26, .inl ((cm 26), 1200, .inl (fun _ => 0))), (q 27, .inl ((cm 27), 1200, .inl (fun _ => 0)))] sz) := by
  refine Met.ofW (cc := cX12_found) (maxL := 1) (ret := (some .int)) (by decide) rfl ?_
  intro p e s m args below meth c s₁ B hml hv
  obtain ⟨rfl, hsz, hP, hK, hD0⟩ := hv
  have hx := B.exec
  have hb := B.bytes
  have hr := B.returns
  have hts := atoms_spec (ws := w_m_found) B.pre
  have hown : s.vm.findClass RX12 = some m.cls := findClass_of_methodNamed B.named
  have hlocks := B.notSynchronized
  subst hsz
  have hD := hD0.self (sz := s.heap.size)
  generalize hAe : va_A [(h0, .inr (15, mF q 0)), (q 18, .inl ((cm 18), 3, .inl (fun _ => 0))), (q 19, .inl ((cm 19), 60, .inl (fun _ => 0))), (q 20, .inl ((cm 20), 60, .inl (fun _ => 0))), (q 21, .inl ((cm 21), 60, .inl (fun _ => 0))), (q 22, .inl ((cm 22), 60, .inl (fun _ => 0))), (q 23, .inl ((cm 23), 60, .inl (fun _ => 0))), (q 24, .inl ((cm 24), 60, .inl (fun _ => 0))), (q 25, .inl ((cm 25), 60, .inl (fun _ => 0))), (q 26, .inl ((cm 26), 1200, .inl (fun _ => 0))), (q 27, .inl ((cm 27), 1200, .inl (fun _ => 0)))] s.heap.size = A at hD ⊢
  have hA : ∀ q : Nat, s.heap.size ≤ q → A q := fun q h => by rw [← hAe]; exact Or.inr h
  have hS : va_S A s.heap s.heap [] := va_S.rf
  have hP : va_P (dC, dI) vwCl [(h0, .inr (15, mF q 0)), (q 18, .inl ((cm 18), 3, .inl (fun _ => 0))), (q 19, .inl ((cm 19), 60, .inl (fun _ => 0))), (q 20, .inl ((cm 20), 60, .inl (fun _ => 0))), (q 21, .inl ((cm 21), 60, .inl (fun _ => 0))), (q 22, .inl ((cm 22), 60, .inl (fun _ => 0))), (q 23, .inl ((cm 23), 60, .inl (fun _ => 0))), (q 24, .inl ((cm 24), 60, .inl (fun _ => 0))), (q 25, .inl ((cm 25), 60, .inl (fun _ => 0))), (q 26, .inl ((cm 26), 1200, .inl (fun _ => 0))), (q 27, .inl ((cm 27), 1200, .inl (fun _ => 0)))] s.heap := hP
  have hl := lv_entry ([.ref h0]) (n := 1) (Nat.le_of_ble_eq_true rfl)
  rw [lg_entry_eq]
  generalize (lg_sl ([.ref h0]) ++ List.replicate (1 - (lg_sl ([.ref h0])).length) Slot.unset).toArray = ls at hl ⊢
  have hl : lv_has ls 1 [(0, .ref h0)] := hl
  refine lv_aload_n hx hb dX12_found_0 rfl (lv_at hl 0 rfl) ?_
  refine lv_iconst (v := 0) hx hb dX12_found_1 (by decide) ?_
  refine va_put (D := (dC, dI)) (ci := 15) (v := .int 0) (ty := .int) (C := RX12) (T := TX12) (N := 78) hx hb hts bF_X12 tyX12 tyX12_ok nmX12 hown hK hP hD hS 0 rfl rfl 0 (by decide) (ht_at hts 0 rfl) (fun _ h9 => h9) rfl (by decide +kernel) rfl rfl (Nat.le_of_ble_eq_true rfl) dX12_found_2 (fun H locs hP hD hS => ?_)
  have hP : va_P (dC, dI) vwCl [(h0, .inr (15, mF q 0)), (q 18, .inl ((cm 18), 3, .inl (fun _ => 0))), (q 19, .inl ((cm 19), 60, .inl (fun _ => 0))), (q 20, .inl ((cm 20), 60, .inl (fun _ => 0))), (q 21, .inl ((cm 21), 60, .inl (fun _ => 0))), (q 22, .inl ((cm 22), 60, .inl (fun _ => 0))), (q 23, .inl ((cm 23), 60, .inl (fun _ => 0))), (q 24, .inl ((cm 24), 60, .inl (fun _ => 0))), (q 25, .inl ((cm 25), 60, .inl (fun _ => 0))), (q 26, .inl ((cm 26), 1200, .inl (fun _ => 0))), (q 27, .inl ((cm 27), 1200, .inl (fun _ => 0)))] H := hP
  have hD : va_D A [(h0, .inr (15, mF q 0)), (q 18, .inl ((cm 18), 3, .inl (fun _ => 0))), (q 19, .inl ((cm 19), 60, .inl (fun _ => 0))), (q 20, .inl ((cm 20), 60, .inl (fun _ => 0))), (q 21, .inl ((cm 21), 60, .inl (fun _ => 0))), (q 22, .inl ((cm 22), 60, .inl (fun _ => 0))), (q 23, .inl ((cm 23), 60, .inl (fun _ => 0))), (q 24, .inl ((cm 24), 60, .inl (fun _ => 0))), (q 25, .inl ((cm 25), 60, .inl (fun _ => 0))), (q 26, .inl ((cm 26), 1200, .inl (fun _ => 0))), (q 27, .inl ((cm 27), 1200, .inl (fun _ => 0)))] := hD
  refine lv_aload_n hx hb dX12_found_5 rfl (lv_at hl 0 rfl) ?_
  refine lv_iconst (v := 0) hx hb dX12_found_6 (by decide) ?_
  refine lv_aload_n hx hb dX12_found_7 rfl (lv_at hl 0 rfl) ?_
  have hPc := hP.sub (ws' := [(h0, .inr (15, mF q 0))]) [0] rfl
  have hDc := hD.sub (ws' := [(h0, .inr (15, mF q 0))]) [0] (by decide) rfl
  have hKc := hK.sub (tys' := []) [] rfl
  have hFc := va_free (wc := [(h0, .inr (15, mF q 0))]) hD hS hA [0] rfl
  refine va_calli (va_runV (As := []) (rest := [.int 0, .ref h0]) ⟨hx, hb, hml, hown, hts⟩ (m_holders l dC dI h0 q cm H.size ) (cwV 0 hts (goodIn_app (goodIn_r _ [4, 5, 6, 7] (by decide +kernel) (by decide +kernel)) (goodIn_ca (goodIn_r _ [2, 3] (by decide +kernel) (by decide +kernel)) (bs_in _ _))) rfl rfl rfl (by decide +kernel) ⟨(Nat.le_of_ble_eq_true rfl), (Nat.le_of_ble_eq_true rfl)⟩) ⟨fun a U g mk q => by obtain ⟨q0, q1, qP, qK, qD⟩ := q; exact ⟨q0, q1, qP, va_K.moved (u := U) (U := U.calling g mk a) (Vm.Alike.refl U.vm) qK, qD⟩, va_recv hKc hPc (ci := 15) (q0 := 0) rfl rfl, fun U hU hW => ⟨rfl, by rw [hU], by rw [hU]; exact hPc, va_K.moved hW.alike hKc, hDc.weaken (fun _ _ _ _ => trivial)⟩⟩ rfl rfl hl.1 rfl (lv_room (Nat.le_of_ble_eq_true rfl)) dX12_found_8 ⟨(Nat.le_of_ble_eq_true rfl), (Nat.le_of_ble_eq_true rfl)⟩) hS (fun q _ h => hFc q h) hFc (fun r2 u t H1 locs ht hvm hw3 hB hz1 hk1 hS => ?_)
  obtain ⟨hP1, hD1⟩ := hB
  rw [ht] at hP1
  obtain ⟨hP, hD⟩ := va_join (wr := [(q 18, .inl ((cm 18), 3, .inl (fun _ => 0))), (q 19, .inl ((cm 19), 60, .inl (fun _ => 0))), (q 20, .inl ((cm 20), 60, .inl (fun _ => 0))), (q 21, .inl ((cm 21), 60, .inl (fun _ => 0))), (q 22, .inl ((cm 22), 60, .inl (fun _ => 0))), (q 23, .inl ((cm 23), 60, .inl (fun _ => 0))), (q 24, .inl ((cm 24), 60, .inl (fun _ => 0))), (q 25, .inl ((cm 25), 60, .inl (fun _ => 0))), (q 26, .inl ((cm 26), 1200, .inl (fun _ => 0))), (q 27, .inl ((cm 27), 1200, .inl (fun _ => 0)))]) (w1 := [(h0, .inr (15, mF q 0))]) hP hD [0] [1, 2, 3, 4, 5, 6, 7, 8, 9, 10] rfl rfl (by decide) (by decide) hk1 hFc hP1 hD1
  generalize H1 = H at hP hS ⊢
  have hP : va_P (dC, dI) vwCl [(q 18, .inl ((cm 18), 3, .inl (fun _ => 0))), (q 19, .inl ((cm 19), 60, .inl (fun _ => 0))), (q 20, .inl ((cm 20), 60, .inl (fun _ => 0))), (q 21, .inl ((cm 21), 60, .inl (fun _ => 0))), (q 22, .inl ((cm 22), 60, .inl (fun _ => 0))), (q 23, .inl ((cm 23), 60, .inl (fun _ => 0))), (q 24, .inl ((cm 24), 60, .inl (fun _ => 0))), (q 25, .inl ((cm 25), 60, .inl (fun _ => 0))), (q 26, .inl ((cm 26), 1200, .inl (fun _ => 0))), (q 27, .inl ((cm 27), 1200, .inl (fun _ => 0))), (h0, .inr (15, mF q 0))] H := hP
  have hD : va_D A [(q 18, .inl ((cm 18), 3, .inl (fun _ => 0))), (q 19, .inl ((cm 19), 60, .inl (fun _ => 0))), (q 20, .inl ((cm 20), 60, .inl (fun _ => 0))), (q 21, .inl ((cm 21), 60, .inl (fun _ => 0))), (q 22, .inl ((cm 22), 60, .inl (fun _ => 0))), (q 23, .inl ((cm 23), 60, .inl (fun _ => 0))), (q 24, .inl ((cm 24), 60, .inl (fun _ => 0))), (q 25, .inl ((cm 25), 60, .inl (fun _ => 0))), (q 26, .inl ((cm 26), 1200, .inl (fun _ => 0))), (q 27, .inl ((cm 27), 1200, .inl (fun _ => 0))), (h0, .inr (15, mF q 0))] := hD
  try dsimp only at hw3
  obtain rfl : 0 = r2 := (hw3).symm
  refine lv_if_le (tgt := 18) hx hb dX12_found_11 (by decide) (fun c4 => ?_) (fun c4 => absurd c4 (by decide))
  refine lv_iconst (v := 0) hx hb dX12_found_18 (by decide) ?_
  have hPc := hP.sub (ws' := [(h0, .inr (15, mF q 0)), (q 18, .inl ((cm 18), 3, .inl (fun _ => 0))), (q 19, .inl ((cm 19), 60, .inl (fun _ => 0))), (q 20, .inl ((cm 20), 60, .inl (fun _ => 0))), (q 21, .inl ((cm 21), 60, .inl (fun _ => 0))), (q 22, .inl ((cm 22), 60, .inl (fun _ => 0))), (q 23, .inl ((cm 23), 60, .inl (fun _ => 0))), (q 24, .inl ((cm 24), 60, .inl (fun _ => 0))), (q 25, .inl ((cm 25), 60, .inl (fun _ => 0))), (q 26, .inl ((cm 26), 1200, .inl (fun _ => 0))), (q 27, .inl ((cm 27), 1200, .inl (fun _ => 0)))]) [10, 0, 1, 2, 3, 4, 5, 6, 7, 8, 9] rfl
  have hDc := hD.sub (ws' := [(h0, .inr (15, mF q 0)), (q 18, .inl ((cm 18), 3, .inl (fun _ => 0))), (q 19, .inl ((cm 19), 60, .inl (fun _ => 0))), (q 20, .inl ((cm 20), 60, .inl (fun _ => 0))), (q 21, .inl ((cm 21), 60, .inl (fun _ => 0))), (q 22, .inl ((cm 22), 60, .inl (fun _ => 0))), (q 23, .inl ((cm 23), 60, .inl (fun _ => 0))), (q 24, .inl ((cm 24), 60, .inl (fun _ => 0))), (q 25, .inl ((cm 25), 60, .inl (fun _ => 0))), (q 26, .inl ((cm 26), 1200, .inl (fun _ => 0))), (q 27, .inl ((cm 27), 1200, .inl (fun _ => 0)))]) [10, 0, 1, 2, 3, 4, 5, 6, 7, 8, 9] (by decide) rfl
  have hKc := hK.sub (tys' := [((cm 18), .int), ((cm 19), .int), ((cm 20), .int), ((cm 21), .int), ((cm 22), .int), ((cm 23), .int), ((cm 24), .int), ((cm 25), .int), ((cm 26), .int), ((cm 27), .int)]) [0, 1, 2, 3, 4, 5, 6, 7, 8, 9] rfl
  have hFc := va_free (wc := [(h0, .inr (15, mF q 0)), (q 18, .inl ((cm 18), 3, .inl (fun _ => 0))), (q 19, .inl ((cm 19), 60, .inl (fun _ => 0))), (q 20, .inl ((cm 20), 60, .inl (fun _ => 0))), (q 21, .inl ((cm 21), 60, .inl (fun _ => 0))), (q 22, .inl ((cm 22), 60, .inl (fun _ => 0))), (q 23, .inl ((cm 23), 60, .inl (fun _ => 0))), (q 24, .inl ((cm 24), 60, .inl (fun _ => 0))), (q 25, .inl ((cm 25), 60, .inl (fun _ => 0))), (q 26, .inl ((cm 26), 1200, .inl (fun _ => 0))), (q 27, .inl ((cm 27), 1200, .inl (fun _ => 0)))]) hD hS hA [10, 0, 1, 2, 3, 4, 5, 6, 7, 8, 9] rfl
  refine va_calli (va_runV (As := [.int 0, .int 0]) (rest := []) ⟨hx, hb, hml, hown, hts⟩ (m_reads0 l dC dI h0 q cm H.size ) (cwV 2 hts (goodIn_app (goodIn_r _ [45, 46, 47, 7] (by decide +kernel) (by decide +kernel)) (goodIn_ca (goodIn_r _ [8, 9, 10, 11, 12, 13, 14, 15, 16, 17, 18, 7, 19, 20, 21, 22, 23, 24, 25, 26, 27, 28, 29, 30, 31, 32, 33, 34, 35, 36, 37, 38, 39, 40, 41, 42, 43, 44] (by decide +kernel) (by decide +kernel)) (bs_in _ _))) rfl rfl rfl (by decide +kernel) ⟨(Nat.le_of_ble_eq_true rfl), (Nat.le_of_ble_eq_true rfl)⟩) ⟨fun a U g mk q => by obtain ⟨q0, q1, qP, qK, qD⟩ := q; exact ⟨q0, q1, qP, va_K.moved (u := U) (U := U.calling g mk a) (Vm.Alike.refl U.vm) qK, qD⟩, va_recv hKc hPc (ci := 15) (q0 := 0) rfl rfl, fun U hU hW => ⟨rfl, by rw [hU], by rw [hU]; exact hPc, va_K.moved hW.alike hKc, hDc.weaken (fun _ _ _ _ => trivial)⟩⟩ rfl rfl hl.1 rfl (lv_room (Nat.le_of_ble_eq_true rfl)) dX12_found_19 ⟨(Nat.le_of_ble_eq_true rfl), (Nat.le_of_ble_eq_true rfl)⟩) hS (fun q _ h => hFc q h) hFc (fun r6 u t H1 locs ht hvm hw7 hB hz1 hk1 hS => ?_)
  obtain ⟨hP1, hD1⟩ := hB
  rw [ht] at hP1
  obtain ⟨hP, hD⟩ := va_join (wr := []) (w1 := [(h0, .inr (15, mF q 0))]) hP hD [10, 0, 1, 2, 3, 4, 5, 6, 7, 8, 9] [] rfl rfl (by decide) (by decide) hk1 hFc hP1 hD1
  generalize H1 = H at hP hS ⊢
  have hP : va_P (dC, dI) vwCl [(h0, .inr (15, mF q 0))] H := hP
  have hD : va_D A [(h0, .inr (15, mF q 0))] := hD
  try dsimp only at hw7
  obtain rfl : 0 = r6 := (hw7).symm
  exact W.iret (v := 0) hx hb hr (fun t ht hW => ⟨⟨0, (mF q 0), rfl, (by unfold T_found; (first | exact ⟨rfl, fun _ => rfl⟩ | exact ⟨rfl, fun h => absurd h (by decide)⟩)), by rw [ht]; exact hP.sub (ws' := [(h0, .inr (15, mF q 0))]) [0] rfl, hD.sub (ws' := [(h0, .inr (15, mF q 0))]) [0] (by decide) rfl⟩, hS.F ht⟩) hS.2.2 dX12_found_22
def w_m_propose : List Cond := .code yX12_propose cX12_propose 3 (some .int) :: ([.fieldLink RX12 194 "SeaLandModel" "thrown" "I", .fieldLink RX12 523 "SeaLandModel" "isVoting" "Z", .code yX12_reads cX12_reads 4 (some .int), .code yX12_readLaw cX12_readLaw 2 (some .int), .fieldLink RX12 332 "SeaLandModel" "taped" "I", .fieldLink RX12 338 "SeaLandModel" "end" "I", .fieldLink RX12 335 "SeaLandModel" "point" "I", .fieldLink RX12 367 "SeaLandModel" "steps" "I", .code yX12_blanks cX12_blanks 1 none, .code yX12_isAt cX12_isAt 3 (some .boolean), .methodLink RX12 341 yX12_isAt, .instanceMethod yX12_isAt, .selects RX12 yX12_isAt yX12_isAt, .initialized RX12, .fieldLink RX12 345 "SeaLandModel" "begin" "I", .methodLink RX12 348 yX12_blanks, .instanceMethod yX12_blanks, .selects RX12 yX12_blanks yX12_blanks, .methodLink RX12 454 yX12_readLaw, .instanceMethod yX12_readLaw, .selects RX12 yX12_readLaw yX12_readLaw, .fieldLink RX12 35 "SeaLandModel" "faultAt" "I", .code yX12_throwsIf cX12_throwsIf 3 (some .boolean), .methodLink RX12 224 yX12_throwsIf, .instanceMethod yX12_throwsIf, .selects RX12 yX12_throwsIf yX12_throwsIf, .fieldLink RX12 42 "SeaLandModel" "lines" "[I", .code yX12_copies cX12_copies 4 none, .fieldLink RX12 66 "SeaLandModel" "step" "[I", .fieldLink RX12 69 "SeaLandModel" "than" "[I", .fieldLink RX12 45 "SeaLandModel" "sort" "[I", .fieldLink RX12 48 "SeaLandModel" "told" "[I", .fieldLink RX12 51 "SeaLandModel" "winter" "[I", .fieldLink RX12 54 "SeaLandModel" "from" "[I", .fieldLink RX12 57 "SeaLandModel" "to" "[I", .fieldLink RX12 60 "SeaLandModel" "begins" "[I", .fieldLink RX12 63 "SeaLandModel" "ends" "[I", .methodLink RX12 457 yX12_copies, .instanceMethod yX12_copies, .selects RX12 yX12_copies yX12_copies, .methodLink RX12 463 yX12_reads, .instanceMethod yX12_reads, .selects RX12 yX12_reads yX12_reads, .fieldLink RX12 526 "SeaLandModel" "yes" "J", .fieldLink RX12 530 "SeaLandModel" "said" "J", .fieldLink RX12 134 "SeaLandModel" "hasSaid" "[Z"] ++ bs)
set_option maxHeartbeats 4000000 in
set_option maxRecDepth 100000 in
theorem m_propose (l : Launch) (dC : Nat → ClassId) (dI : Nat → Nat → Nat) (h0 : Nat) (q : Nat → Nat) (cm : Nat → ClassId)  (sz : Nat) : Met l yX12_propose w_m_propose ({ frames := 4, cells := 0, slots := 0, locals := 86 }) (va_Pc [.ref h0] (fun U => U.heap.size = sz ∧ va_P (dC, dI) vwCl [(h0, .inr (15, mF q 0)), (q 18, .inl ((cm 18), 3, .inl (fun _ => 0))), (q 19, .inl ((cm 19), 60, .inl (fun _ => 0))), (q 20, .inl ((cm 20), 60, .inl (fun _ => 0))), (q 21, .inl ((cm 21), 60, .inl (fun _ => 0))), (q 22, .inl ((cm 22), 60, .inl (fun _ => 0))), (q 23, .inl ((cm 23), 60, .inl (fun _ => 0))), (q 24, .inl ((cm 24), 60, .inl (fun _ => 0))), (q 25, .inl ((cm 25), 60, .inl (fun _ => 0))), (q 26, .inl ((cm 26), 1200, .inl (fun _ => 0))), (q 27, .inl ((cm 27), 1200, .inl (fun _ => 0))), (q 55, .inl ((cm 55), 60, .inl (fun _ => 0)))] U.heap ∧ va_K (dC, dI) vwCl [((cm 18), .int), ((cm 19), .int), ((cm 20), .int), ((cm 21), .int), ((cm 22), .int), ((cm 23), .int), ((cm 24), .int), ((cm 25), .int), ((cm 26), .int), ((cm 27), .int), ((cm 55), .boolean)] U ∧ va_D (fun _ => True) [(h0, .inr (15, mF q 0)), (q 18, .inl ((cm 18), 3, .inl (fun _ => 0))), (q 19, .inl ((cm 19), 60, .inl (fun _ => 0))), (q 20, .inl ((cm 20), 60, .inl (fun _ => 0))), (q 21, .inl ((cm 21), 60, .inl (fun _ => 0))), (q 22, .inl ((cm 22), 60, .inl (fun _ => 0))), (q 23, .inl ((cm 23), 60, .inl (fun _ => 0))), (q 24, .inl ((cm 24), 60, .inl (fun _ => 0))), (q 25, .inl ((cm 25), 60, .inl (fun _ => 0))), (q 26, .inl ((cm 26), 1200, .inl (fun _ => 0))), (q 27, .inl ((cm 27), 1200, .inl (fun _ => 0))), (q 55, .inl ((cm 55), 60, .inl (fun _ => 0)))])) (va_Qi (fun (r : Int32) (u : List Value) => u[0]? = some (.int (T_propose).1) ∧ ((T_propose).1 = 0 → r = (T_propose).2)) (fun (fs : List Value) (t : State) => va_P (dC, dI) vwCl [(h0, .inr (15, fs))] t.heap ∧ va_D (va_A [(h0, .inr (15, mF q 0)), (q 18, .inl ((cm 18), 3, .inl (fun _ => 0))), (q 19, .inl ((cm 19), 60, .inl (fun _ => 0))), (q 20, .inl ((cm 20), 60, .inl (fun _ => 0))), (q 21, .inl ((cm 21), 60, .inl (fun _ => 0))), (q 22, .inl ((cm 22), 60, .inl (fun _ => 0))), (q 23, .inl ((cm 23), 60, .inl (fun _ => 0))), (q 24, .inl ((cm 24), 60, .inl (fun _ => 0))), (q 25, .inl ((cm 25), 60, .inl (fun _ => 0))), (q 26, .inl ((cm 26), 1200, .inl (fun _ => 0))), (q 27, .inl ((cm 27), 1200, .inl (fun _ => 0))), (q 55, .inl ((cm 55), 60, .inl (fun _ => 0)))] sz) [(h0, .inr (15, fs))]) (va_A [(h0, .inr (15, mF q 0)), (q 18, .inl ((cm 18), 3, .inl (fun _ => 0))), (q 19, .inl ((cm 19), 60, .inl (fun _ => 0))), (q 20, .inl ((cm 20), 60, .inl (fun _ => 0))), (q 21, .inl ((cm 21), 60, .inl (fun _ => 0))), (q 22, .inl ((cm 22), 60, .inl (fun _ => 0))), (q 23, .inl ((cm 23), 60, .inl (fun _ => 0))), (q 24, .inl ((cm 24), 60, .inl (fun _ => 0))), (q 25, .inl ((cm 25), 60, .inl (fun _ => 0))), (q 26, .inl ((cm 26), 1200, .inl (fun _ => 0))), (q 27, .inl ((cm 27), 1200, .inl (fun _ => 0))), (q 55, .inl ((cm 55), 60, .inl (fun _ => 0)))] sz)) 0 0 (va_A [(h0, .inr (15, mF q 0)), (q 18, .inl ((cm 18), 3, .inl (fun _ => 0))), (q 19, .inl ((cm 19), 60, .inl (fun _ => 0))), (q 20, .inl ((cm 20), 60, .inl (fun _ => 0))), (q 21, .inl ((cm 21), 60, .inl (fun _ => 0))), (q 22, .inl ((cm 22), 60, .inl (fun _ => 0))), (q 23, .inl ((cm 23), 60, .inl (fun _ => 0))), (q 24, .inl ((cm 24), 60, .inl (fun _ => 0))), (q 25, .inl ((cm 25), 60, .inl (fun _ => 0))), (q 26, .inl ((cm 26), 1200, .inl (fun _ => 0))), (q 27, .inl ((cm 27), 1200, .inl (fun _ => 0))), (q 55, .inl ((cm 55), 60, .inl (fun _ => 0)))] sz) := by
  refine Met.ofW (cc := cX12_propose) (maxL := 3) (ret := (some .int)) (by decide) rfl ?_
  intro p e s m args below meth c s₁ B hml hv
  obtain ⟨rfl, hsz, hP, hK, hD0⟩ := hv
  have hx := B.exec
  have hb := B.bytes
  have hr := B.returns
  have hts := atoms_spec (ws := w_m_propose) B.pre
  have hown : s.vm.findClass RX12 = some m.cls := findClass_of_methodNamed B.named
  have hlocks := B.notSynchronized
  subst hsz
  have hD := hD0.self (sz := s.heap.size)
  generalize hAe : va_A [(h0, .inr (15, mF q 0)), (q 18, .inl ((cm 18), 3, .inl (fun _ => 0))), (q 19, .inl ((cm 19), 60, .inl (fun _ => 0))), (q 20, .inl ((cm 20), 60, .inl (fun _ => 0))), (q 21, .inl ((cm 21), 60, .inl (fun _ => 0))), (q 22, .inl ((cm 22), 60, .inl (fun _ => 0))), (q 23, .inl ((cm 23), 60, .inl (fun _ => 0))), (q 24, .inl ((cm 24), 60, .inl (fun _ => 0))), (q 25, .inl ((cm 25), 60, .inl (fun _ => 0))), (q 26, .inl ((cm 26), 1200, .inl (fun _ => 0))), (q 27, .inl ((cm 27), 1200, .inl (fun _ => 0))), (q 55, .inl ((cm 55), 60, .inl (fun _ => 0)))] s.heap.size = A at hD ⊢
  have hA : ∀ q : Nat, s.heap.size ≤ q → A q := fun q h => by rw [← hAe]; exact Or.inr h
  have hS : va_S A s.heap s.heap [] := va_S.rf
  have hP : va_P (dC, dI) vwCl [(h0, .inr (15, mF q 0)), (q 18, .inl ((cm 18), 3, .inl (fun _ => 0))), (q 19, .inl ((cm 19), 60, .inl (fun _ => 0))), (q 20, .inl ((cm 20), 60, .inl (fun _ => 0))), (q 21, .inl ((cm 21), 60, .inl (fun _ => 0))), (q 22, .inl ((cm 22), 60, .inl (fun _ => 0))), (q 23, .inl ((cm 23), 60, .inl (fun _ => 0))), (q 24, .inl ((cm 24), 60, .inl (fun _ => 0))), (q 25, .inl ((cm 25), 60, .inl (fun _ => 0))), (q 26, .inl ((cm 26), 1200, .inl (fun _ => 0))), (q 27, .inl ((cm 27), 1200, .inl (fun _ => 0))), (q 55, .inl ((cm 55), 60, .inl (fun _ => 0)))] s.heap := hP
  have hl := lv_entry ([.ref h0]) (n := 3) (Nat.le_of_ble_eq_true rfl)
  rw [lg_entry_eq]
  generalize (lg_sl ([.ref h0]) ++ List.replicate (3 - (lg_sl ([.ref h0])).length) Slot.unset).toArray = ls at hl ⊢
  have hl : lv_has ls 3 [(0, .ref h0)] := hl
  refine lv_aload_n hx hb dX12_propose_0 rfl (lv_at hl 0 rfl) ?_
  refine lv_iconst (v := 0) hx hb dX12_propose_1 (by decide) ?_
  refine va_put (D := (dC, dI)) (ci := 15) (v := .int 0) (ty := .int) (C := RX12) (T := TX12) (N := 78) hx hb hts bF_X12 tyX12 tyX12_ok nmX12 hown hK hP hD hS 0 rfl rfl 0 (by decide) (ht_at hts 0 rfl) (fun _ h9 => h9) rfl (by decide +kernel) rfl rfl (Nat.le_of_ble_eq_true rfl) dX12_propose_2 (fun H locs hP hD hS => ?_)
  have hP : va_P (dC, dI) vwCl [(h0, .inr (15, mF q 0)), (q 18, .inl ((cm 18), 3, .inl (fun _ => 0))), (q 19, .inl ((cm 19), 60, .inl (fun _ => 0))), (q 20, .inl ((cm 20), 60, .inl (fun _ => 0))), (q 21, .inl ((cm 21), 60, .inl (fun _ => 0))), (q 22, .inl ((cm 22), 60, .inl (fun _ => 0))), (q 23, .inl ((cm 23), 60, .inl (fun _ => 0))), (q 24, .inl ((cm 24), 60, .inl (fun _ => 0))), (q 25, .inl ((cm 25), 60, .inl (fun _ => 0))), (q 26, .inl ((cm 26), 1200, .inl (fun _ => 0))), (q 27, .inl ((cm 27), 1200, .inl (fun _ => 0))), (q 55, .inl ((cm 55), 60, .inl (fun _ => 0)))] H := hP
  have hD : va_D A [(h0, .inr (15, mF q 0)), (q 18, .inl ((cm 18), 3, .inl (fun _ => 0))), (q 19, .inl ((cm 19), 60, .inl (fun _ => 0))), (q 20, .inl ((cm 20), 60, .inl (fun _ => 0))), (q 21, .inl ((cm 21), 60, .inl (fun _ => 0))), (q 22, .inl ((cm 22), 60, .inl (fun _ => 0))), (q 23, .inl ((cm 23), 60, .inl (fun _ => 0))), (q 24, .inl ((cm 24), 60, .inl (fun _ => 0))), (q 25, .inl ((cm 25), 60, .inl (fun _ => 0))), (q 26, .inl ((cm 26), 1200, .inl (fun _ => 0))), (q 27, .inl ((cm 27), 1200, .inl (fun _ => 0))), (q 55, .inl ((cm 55), 60, .inl (fun _ => 0)))] := hD
  refine lv_aload_n hx hb dX12_propose_5 rfl (lv_at hl 0 rfl) ?_
  refine lv_iconst (v := 1) hx hb dX12_propose_6 (by decide) ?_
  refine lv_aload_n hx hb dX12_propose_7 rfl (lv_at hl 0 rfl) ?_
  refine va_get (D := (dC, dI)) (ci := 15) (v := .int 0) (C := RX12) (T := TX12) (N := 78) hx hb hts bF_X12 hown hK hP 0 rfl rfl 52 (by decide) (ht_at hts 1 rfl) (fun _ h9 => h9) rfl dX12_propose_8 ?_
  have hPc := hP.sub (ws' := [(h0, .inr (15, mF q 0)), (q 18, .inl ((cm 18), 3, .inl (fun _ => 0))), (q 19, .inl ((cm 19), 60, .inl (fun _ => 0))), (q 20, .inl ((cm 20), 60, .inl (fun _ => 0))), (q 21, .inl ((cm 21), 60, .inl (fun _ => 0))), (q 22, .inl ((cm 22), 60, .inl (fun _ => 0))), (q 23, .inl ((cm 23), 60, .inl (fun _ => 0))), (q 24, .inl ((cm 24), 60, .inl (fun _ => 0))), (q 25, .inl ((cm 25), 60, .inl (fun _ => 0))), (q 26, .inl ((cm 26), 1200, .inl (fun _ => 0))), (q 27, .inl ((cm 27), 1200, .inl (fun _ => 0)))]) [0, 1, 2, 3, 4, 5, 6, 7, 8, 9, 10] rfl
  have hDc := hD.sub (ws' := [(h0, .inr (15, mF q 0)), (q 18, .inl ((cm 18), 3, .inl (fun _ => 0))), (q 19, .inl ((cm 19), 60, .inl (fun _ => 0))), (q 20, .inl ((cm 20), 60, .inl (fun _ => 0))), (q 21, .inl ((cm 21), 60, .inl (fun _ => 0))), (q 22, .inl ((cm 22), 60, .inl (fun _ => 0))), (q 23, .inl ((cm 23), 60, .inl (fun _ => 0))), (q 24, .inl ((cm 24), 60, .inl (fun _ => 0))), (q 25, .inl ((cm 25), 60, .inl (fun _ => 0))), (q 26, .inl ((cm 26), 1200, .inl (fun _ => 0))), (q 27, .inl ((cm 27), 1200, .inl (fun _ => 0)))]) [0, 1, 2, 3, 4, 5, 6, 7, 8, 9, 10] (by decide) rfl
  have hKc := hK.sub (tys' := [((cm 18), .int), ((cm 19), .int), ((cm 20), .int), ((cm 21), .int), ((cm 22), .int), ((cm 23), .int), ((cm 24), .int), ((cm 25), .int), ((cm 26), .int), ((cm 27), .int)]) [0, 1, 2, 3, 4, 5, 6, 7, 8, 9] rfl
  have hFc := va_free (wc := [(h0, .inr (15, mF q 0)), (q 18, .inl ((cm 18), 3, .inl (fun _ => 0))), (q 19, .inl ((cm 19), 60, .inl (fun _ => 0))), (q 20, .inl ((cm 20), 60, .inl (fun _ => 0))), (q 21, .inl ((cm 21), 60, .inl (fun _ => 0))), (q 22, .inl ((cm 22), 60, .inl (fun _ => 0))), (q 23, .inl ((cm 23), 60, .inl (fun _ => 0))), (q 24, .inl ((cm 24), 60, .inl (fun _ => 0))), (q 25, .inl ((cm 25), 60, .inl (fun _ => 0))), (q 26, .inl ((cm 26), 1200, .inl (fun _ => 0))), (q 27, .inl ((cm 27), 1200, .inl (fun _ => 0)))]) hD hS hA [0, 1, 2, 3, 4, 5, 6, 7, 8, 9, 10] rfl
  refine va_calli (va_runV (As := [.int 1, .int 0]) (rest := []) ⟨hx, hb, hml, hown, hts⟩ (m_reads1 l dC dI h0 q cm H.size ) (cwV 2 hts (goodIn_app (goodIn_r _ [41, 42, 43, 14] (by decide +kernel) (by decide +kernel)) (goodIn_ca (goodIn_r _ [3, 4, 5, 6, 7, 8, 9, 10, 11, 12, 13, 14, 15, 16, 17, 18, 19, 20, 21, 22, 23, 24, 25, 26, 27, 28, 29, 30, 31, 32, 33, 34, 35, 36, 37, 38, 39, 40] (by decide +kernel) (by decide +kernel)) (bs_in _ _))) rfl rfl rfl (by decide +kernel) ⟨(Nat.le_of_ble_eq_true rfl), (Nat.le_of_ble_eq_true rfl)⟩) ⟨fun a U g mk q => by obtain ⟨q0, q1, qP, qK, qD⟩ := q; exact ⟨q0, q1, qP, va_K.moved (u := U) (U := U.calling g mk a) (Vm.Alike.refl U.vm) qK, qD⟩, va_recv hKc hPc (ci := 15) (q0 := 0) rfl rfl, fun U hU hW => ⟨rfl, by rw [hU], by rw [hU]; exact hPc, va_K.moved hW.alike hKc, hDc.weaken (fun _ _ _ _ => trivial)⟩⟩ rfl rfl hl.1 rfl (lv_room (Nat.le_of_ble_eq_true rfl)) dX12_propose_11 ⟨(Nat.le_of_ble_eq_true rfl), (Nat.le_of_ble_eq_true rfl)⟩) hS (fun q _ h => hFc q h) hFc (fun r2 u t H1 locs ht hvm hw3 hB hz1 hk1 hS => ?_)
  obtain ⟨hP1, hD1⟩ := hB
  rw [ht] at hP1
  obtain ⟨hP, hD⟩ := va_join (wr := [(q 55, .inl ((cm 55), 60, .inl (fun _ => 0)))]) (w1 := [(h0, .inr (15, mF q 0))]) hP hD [0, 1, 2, 3, 4, 5, 6, 7, 8, 9, 10] [11] rfl rfl (by decide) (by decide) hk1 hFc hP1 hD1
  generalize H1 = H at hP hS ⊢
  have hP : va_P (dC, dI) vwCl [(q 55, .inl ((cm 55), 60, .inl (fun _ => 0))), (h0, .inr (15, mF q 0))] H := hP
  have hD : va_D A [(q 55, .inl ((cm 55), 60, .inl (fun _ => 0))), (h0, .inr (15, mF q 0))] := hD
  try dsimp only at hw3
  obtain rfl : 0 = r2 := (hw3).symm
  refine lv_istore_n (lv' := [(1, .int 0), (0, .ref h0)]) hx hb dX12_propose_14 rfl hl (by decide) rfl (fun ls hl => ?_)
  refine lv_aload_n hx hb dX12_propose_15 rfl (lv_at hl 1 rfl) ?_
  refine va_get (D := (dC, dI)) (ci := 15) (v := .int 0) (C := RX12) (T := TX12) (N := 78) hx hb hts bF_X12 hown hK hP 1 rfl rfl 0 (by decide) (ht_at hts 0 rfl) (fun _ h9 => h9) rfl dX12_propose_16 ?_
  refine lv_if_eq (tgt := 24) hx hb dX12_propose_19 (by decide) (fun c4 => ?_) (fun c4 => absurd c4 (by decide))
  refine lv_aload_n hx hb dX12_propose_24 rfl (lv_at hl 1 rfl) ?_
  refine lv_iconst (v := 1) hx hb dX12_propose_25 (by decide) ?_
  refine va_put (D := (dC, dI)) (ci := 15) (v := .int 1) (ty := .boolean) (C := RX12) (T := TX12) (N := 78) hx hb hts bF_X12 tyX12 tyX12_ok nmX12 hown hK hP hD hS 1 rfl rfl 52 (by decide) (ht_at hts 1 rfl) (fun _ h9 => h9) rfl (by decide +kernel) rfl rfl (Nat.le_of_ble_eq_true rfl) dX12_propose_26 (fun H locs hP hD hS => ?_)
  have hP : va_P (dC, dI) vwCl [(q 55, .inl ((cm 55), 60, .inl (fun _ => 0))), (h0, .inr (15, (.int 0 :: .ref (q 1) :: .ref (q 2) :: .int 0 :: .ref (q 4) :: .ref (q 5) :: .ref (q 6) :: .ref (q 7) :: .ref (q 8) :: .int 0 :: .ref (q 10) :: .int 0 :: .int 0 :: .int 0 :: .int 0 :: .int 0 :: .int (-1) :: .ref (q 17) :: .ref (q 18) :: .ref (q 19) :: .ref (q 20) :: .ref (q 21) :: .ref (q 22) :: .ref (q 23) :: .ref (q 24) :: .ref (q 25) :: .ref (q 26) :: .ref (q 27) :: .int 0 :: .ref (q 29) :: .ref (q 30) :: .ref (q 31) :: .ref (q 32) :: .ref (q 33) :: .ref (q 34) :: .ref (q 35) :: .ref (q 36) :: .ref (q 37) :: .ref (q 38) :: .ref (q 39) :: .ref (q 40) :: .ref (q 41) :: .int 0 :: .ref (q 43) :: .ref (q 44) :: .ref (q 45) :: .ref (q 46) :: .int 0 :: .int 0 :: .int (-1) :: .ref (q 50) :: .ref (q 51) :: .int 1 :: .long 0 :: .long 0 :: .ref (q 55) :: .ref (q 56) :: .ref (q 57) :: .ref (q 58) :: .ref (q 59) :: .ref (q 60) :: .ref (q 61) :: .ref (q 62) :: .ref (q 63) :: .int 0 :: .ref (q 65) :: .ref (q 66) :: .ref (q 67) :: .ref (q 68) :: .ref (q 69) :: .ref (q 70) :: .ref (q 71) :: .ref (q 72) :: .ref (q 73) :: .int 0 :: .ref (q 75) :: .ref (q 76) :: .int 0 :: [])))] H := hP
  have hD : va_D A [(q 55, .inl ((cm 55), 60, .inl (fun _ => 0))), (h0, .inr (15, (.int 0 :: .ref (q 1) :: .ref (q 2) :: .int 0 :: .ref (q 4) :: .ref (q 5) :: .ref (q 6) :: .ref (q 7) :: .ref (q 8) :: .int 0 :: .ref (q 10) :: .int 0 :: .int 0 :: .int 0 :: .int 0 :: .int 0 :: .int (-1) :: .ref (q 17) :: .ref (q 18) :: .ref (q 19) :: .ref (q 20) :: .ref (q 21) :: .ref (q 22) :: .ref (q 23) :: .ref (q 24) :: .ref (q 25) :: .ref (q 26) :: .ref (q 27) :: .int 0 :: .ref (q 29) :: .ref (q 30) :: .ref (q 31) :: .ref (q 32) :: .ref (q 33) :: .ref (q 34) :: .ref (q 35) :: .ref (q 36) :: .ref (q 37) :: .ref (q 38) :: .ref (q 39) :: .ref (q 40) :: .ref (q 41) :: .int 0 :: .ref (q 43) :: .ref (q 44) :: .ref (q 45) :: .ref (q 46) :: .int 0 :: .int 0 :: .int (-1) :: .ref (q 50) :: .ref (q 51) :: .int 1 :: .long 0 :: .long 0 :: .ref (q 55) :: .ref (q 56) :: .ref (q 57) :: .ref (q 58) :: .ref (q 59) :: .ref (q 60) :: .ref (q 61) :: .ref (q 62) :: .ref (q 63) :: .int 0 :: .ref (q 65) :: .ref (q 66) :: .ref (q 67) :: .ref (q 68) :: .ref (q 69) :: .ref (q 70) :: .ref (q 71) :: .ref (q 72) :: .ref (q 73) :: .int 0 :: .ref (q 75) :: .ref (q 76) :: .int 0 :: [])))] := hD
  refine lv_aload_n hx hb dX12_propose_29 rfl (lv_at hl 1 rfl) ?_
  refine lv_lconst (v := 0) hx hb dX12_propose_30 (by decide) ?_
  refine va_put (D := (dC, dI)) (ci := 15) (v := .long 0) (ty := .long) (C := RX12) (T := TX12) (N := 78) hx hb hts bF_X12 tyX12 tyX12_ok nmX12 hown hK hP hD hS 1 rfl rfl 53 (by decide) (ht_at hts 43 rfl) (fun _ h9 => h9) rfl (by decide +kernel) rfl rfl (Nat.le_of_ble_eq_true rfl) dX12_propose_31 (fun H locs hP hD hS => ?_)
  have hP : va_P (dC, dI) vwCl [(q 55, .inl ((cm 55), 60, .inl (fun _ => 0))), (h0, .inr (15, (.int 0 :: .ref (q 1) :: .ref (q 2) :: .int 0 :: .ref (q 4) :: .ref (q 5) :: .ref (q 6) :: .ref (q 7) :: .ref (q 8) :: .int 0 :: .ref (q 10) :: .int 0 :: .int 0 :: .int 0 :: .int 0 :: .int 0 :: .int (-1) :: .ref (q 17) :: .ref (q 18) :: .ref (q 19) :: .ref (q 20) :: .ref (q 21) :: .ref (q 22) :: .ref (q 23) :: .ref (q 24) :: .ref (q 25) :: .ref (q 26) :: .ref (q 27) :: .int 0 :: .ref (q 29) :: .ref (q 30) :: .ref (q 31) :: .ref (q 32) :: .ref (q 33) :: .ref (q 34) :: .ref (q 35) :: .ref (q 36) :: .ref (q 37) :: .ref (q 38) :: .ref (q 39) :: .ref (q 40) :: .ref (q 41) :: .int 0 :: .ref (q 43) :: .ref (q 44) :: .ref (q 45) :: .ref (q 46) :: .int 0 :: .int 0 :: .int (-1) :: .ref (q 50) :: .ref (q 51) :: .int 1 :: .long 0 :: .long 0 :: .ref (q 55) :: .ref (q 56) :: .ref (q 57) :: .ref (q 58) :: .ref (q 59) :: .ref (q 60) :: .ref (q 61) :: .ref (q 62) :: .ref (q 63) :: .int 0 :: .ref (q 65) :: .ref (q 66) :: .ref (q 67) :: .ref (q 68) :: .ref (q 69) :: .ref (q 70) :: .ref (q 71) :: .ref (q 72) :: .ref (q 73) :: .int 0 :: .ref (q 75) :: .ref (q 76) :: .int 0 :: [])))] H := hP
  have hD : va_D A [(q 55, .inl ((cm 55), 60, .inl (fun _ => 0))), (h0, .inr (15, (.int 0 :: .ref (q 1) :: .ref (q 2) :: .int 0 :: .ref (q 4) :: .ref (q 5) :: .ref (q 6) :: .ref (q 7) :: .ref (q 8) :: .int 0 :: .ref (q 10) :: .int 0 :: .int 0 :: .int 0 :: .int 0 :: .int 0 :: .int (-1) :: .ref (q 17) :: .ref (q 18) :: .ref (q 19) :: .ref (q 20) :: .ref (q 21) :: .ref (q 22) :: .ref (q 23) :: .ref (q 24) :: .ref (q 25) :: .ref (q 26) :: .ref (q 27) :: .int 0 :: .ref (q 29) :: .ref (q 30) :: .ref (q 31) :: .ref (q 32) :: .ref (q 33) :: .ref (q 34) :: .ref (q 35) :: .ref (q 36) :: .ref (q 37) :: .ref (q 38) :: .ref (q 39) :: .ref (q 40) :: .ref (q 41) :: .int 0 :: .ref (q 43) :: .ref (q 44) :: .ref (q 45) :: .ref (q 46) :: .int 0 :: .int 0 :: .int (-1) :: .ref (q 50) :: .ref (q 51) :: .int 1 :: .long 0 :: .long 0 :: .ref (q 55) :: .ref (q 56) :: .ref (q 57) :: .ref (q 58) :: .ref (q 59) :: .ref (q 60) :: .ref (q 61) :: .ref (q 62) :: .ref (q 63) :: .int 0 :: .ref (q 65) :: .ref (q 66) :: .ref (q 67) :: .ref (q 68) :: .ref (q 69) :: .ref (q 70) :: .ref (q 71) :: .ref (q 72) :: .ref (q 73) :: .int 0 :: .ref (q 75) :: .ref (q 76) :: .int 0 :: [])))] := hD
  refine lv_aload_n hx hb dX12_propose_34 rfl (lv_at hl 1 rfl) ?_
  refine lv_lconst (v := 0) hx hb dX12_propose_35 (by decide) ?_
  refine va_put (D := (dC, dI)) (ci := 15) (v := .long 0) (ty := .long) (C := RX12) (T := TX12) (N := 78) hx hb hts bF_X12 tyX12 tyX12_ok nmX12 hown hK hP hD hS 1 rfl rfl 54 (by decide) (ht_at hts 44 rfl) (fun _ h9 => h9) rfl (by decide +kernel) rfl rfl (Nat.le_of_ble_eq_true rfl) dX12_propose_36 (fun H locs hP hD hS => ?_)
  have hP : va_P (dC, dI) vwCl [(q 55, .inl ((cm 55), 60, .inl (fun _ => 0))), (h0, .inr (15, (.int 0 :: .ref (q 1) :: .ref (q 2) :: .int 0 :: .ref (q 4) :: .ref (q 5) :: .ref (q 6) :: .ref (q 7) :: .ref (q 8) :: .int 0 :: .ref (q 10) :: .int 0 :: .int 0 :: .int 0 :: .int 0 :: .int 0 :: .int (-1) :: .ref (q 17) :: .ref (q 18) :: .ref (q 19) :: .ref (q 20) :: .ref (q 21) :: .ref (q 22) :: .ref (q 23) :: .ref (q 24) :: .ref (q 25) :: .ref (q 26) :: .ref (q 27) :: .int 0 :: .ref (q 29) :: .ref (q 30) :: .ref (q 31) :: .ref (q 32) :: .ref (q 33) :: .ref (q 34) :: .ref (q 35) :: .ref (q 36) :: .ref (q 37) :: .ref (q 38) :: .ref (q 39) :: .ref (q 40) :: .ref (q 41) :: .int 0 :: .ref (q 43) :: .ref (q 44) :: .ref (q 45) :: .ref (q 46) :: .int 0 :: .int 0 :: .int (-1) :: .ref (q 50) :: .ref (q 51) :: .int 1 :: .long 0 :: .long 0 :: .ref (q 55) :: .ref (q 56) :: .ref (q 57) :: .ref (q 58) :: .ref (q 59) :: .ref (q 60) :: .ref (q 61) :: .ref (q 62) :: .ref (q 63) :: .int 0 :: .ref (q 65) :: .ref (q 66) :: .ref (q 67) :: .ref (q 68) :: .ref (q 69) :: .ref (q 70) :: .ref (q 71) :: .ref (q 72) :: .ref (q 73) :: .int 0 :: .ref (q 75) :: .ref (q 76) :: .int 0 :: [])))] H := hP
  have hD : va_D A [(q 55, .inl ((cm 55), 60, .inl (fun _ => 0))), (h0, .inr (15, (.int 0 :: .ref (q 1) :: .ref (q 2) :: .int 0 :: .ref (q 4) :: .ref (q 5) :: .ref (q 6) :: .ref (q 7) :: .ref (q 8) :: .int 0 :: .ref (q 10) :: .int 0 :: .int 0 :: .int 0 :: .int 0 :: .int 0 :: .int (-1) :: .ref (q 17) :: .ref (q 18) :: .ref (q 19) :: .ref (q 20) :: .ref (q 21) :: .ref (q 22) :: .ref (q 23) :: .ref (q 24) :: .ref (q 25) :: .ref (q 26) :: .ref (q 27) :: .int 0 :: .ref (q 29) :: .ref (q 30) :: .ref (q 31) :: .ref (q 32) :: .ref (q 33) :: .ref (q 34) :: .ref (q 35) :: .ref (q 36) :: .ref (q 37) :: .ref (q 38) :: .ref (q 39) :: .ref (q 40) :: .ref (q 41) :: .int 0 :: .ref (q 43) :: .ref (q 44) :: .ref (q 45) :: .ref (q 46) :: .int 0 :: .int 0 :: .int (-1) :: .ref (q 50) :: .ref (q 51) :: .int 1 :: .long 0 :: .long 0 :: .ref (q 55) :: .ref (q 56) :: .ref (q 57) :: .ref (q 58) :: .ref (q 59) :: .ref (q 60) :: .ref (q 61) :: .ref (q 62) :: .ref (q 63) :: .int 0 :: .ref (q 65) :: .ref (q 66) :: .ref (q 67) :: .ref (q 68) :: .ref (q 69) :: .ref (q 70) :: .ref (q 71) :: .ref (q 72) :: .ref (q 73) :: .int 0 :: .ref (q 75) :: .ref (q 76) :: .int 0 :: [])))] := hD
  refine lv_iconst (v := 0) hx hb dX12_propose_39 (by decide) ?_
  refine lv_istore_n (lv' := [(2, .int 0), (1, .int 0), (0, .ref h0)]) hx hb dX12_propose_40 rfl hl (by decide) rfl (fun ls hl => ?_)
  have key5 : ∀ (n5 i : Nat), i + n5 = 60 → ∀ (g : Nat → Int32), ∀ (H : Heap) (locs : List Loc), va_P (dC, dI) vwCl [(q 55, .inl ((cm 55), 60, .inl g)), (h0, .inr (15, (.int 0 :: .ref (q 1) :: .ref (q 2) :: .int 0 :: .ref (q 4) :: .ref (q 5) :: .ref (q 6) :: .ref (q 7) :: .ref (q 8) :: .int 0 :: .ref (q 10) :: .int 0 :: .int 0 :: .int 0 :: .int 0 :: .int 0 :: .int (-1) :: .ref (q 17) :: .ref (q 18) :: .ref (q 19) :: .ref (q 20) :: .ref (q 21) :: .ref (q 22) :: .ref (q 23) :: .ref (q 24) :: .ref (q 25) :: .ref (q 26) :: .ref (q 27) :: .int 0 :: .ref (q 29) :: .ref (q 30) :: .ref (q 31) :: .ref (q 32) :: .ref (q 33) :: .ref (q 34) :: .ref (q 35) :: .ref (q 36) :: .ref (q 37) :: .ref (q 38) :: .ref (q 39) :: .ref (q 40) :: .ref (q 41) :: .int 0 :: .ref (q 43) :: .ref (q 44) :: .ref (q 45) :: .ref (q 46) :: .int 0 :: .int 0 :: .int (-1) :: .ref (q 50) :: .ref (q 51) :: .int 1 :: .long 0 :: .long 0 :: .ref (q 55) :: .ref (q 56) :: .ref (q 57) :: .ref (q 58) :: .ref (q 59) :: .ref (q 60) :: .ref (q 61) :: .ref (q 62) :: .ref (q 63) :: .int 0 :: .ref (q 65) :: .ref (q 66) :: .ref (q 67) :: .ref (q 68) :: .ref (q 69) :: .ref (q 70) :: .ref (q 71) :: .ref (q 72) :: .ref (q 73) :: .int 0 :: .ref (q 75) :: .ref (q 76) :: .int 0 :: [])))] H → va_D A [(q 55, .inl ((cm 55), 60, .inl g)), (h0, .inr (15, (.int 0 :: .ref (q 1) :: .ref (q 2) :: .int 0 :: .ref (q 4) :: .ref (q 5) :: .ref (q 6) :: .ref (q 7) :: .ref (q 8) :: .int 0 :: .ref (q 10) :: .int 0 :: .int 0 :: .int 0 :: .int 0 :: .int 0 :: .int (-1) :: .ref (q 17) :: .ref (q 18) :: .ref (q 19) :: .ref (q 20) :: .ref (q 21) :: .ref (q 22) :: .ref (q 23) :: .ref (q 24) :: .ref (q 25) :: .ref (q 26) :: .ref (q 27) :: .int 0 :: .ref (q 29) :: .ref (q 30) :: .ref (q 31) :: .ref (q 32) :: .ref (q 33) :: .ref (q 34) :: .ref (q 35) :: .ref (q 36) :: .ref (q 37) :: .ref (q 38) :: .ref (q 39) :: .ref (q 40) :: .ref (q 41) :: .int 0 :: .ref (q 43) :: .ref (q 44) :: .ref (q 45) :: .ref (q 46) :: .int 0 :: .int 0 :: .int (-1) :: .ref (q 50) :: .ref (q 51) :: .int 1 :: .long 0 :: .long 0 :: .ref (q 55) :: .ref (q 56) :: .ref (q 57) :: .ref (q 58) :: .ref (q 59) :: .ref (q 60) :: .ref (q 61) :: .ref (q 62) :: .ref (q 63) :: .int 0 :: .ref (q 65) :: .ref (q 66) :: .ref (q 67) :: .ref (q 68) :: .ref (q 69) :: .ref (q 70) :: .ref (q 71) :: .ref (q 72) :: .ref (q 73) :: .int 0 :: .ref (q 75) :: .ref (q 76) :: .int 0 :: [])))] → va_S A s.heap H locs → ∀ ls : Array Slot, lv_has ls 3 [(2, .int (nI i)), (0, .ref h0), (1, .int 0)] → W p l e (headSpec w_m_propose ({ frames := 4, cells := 0, slots := 0, locals := 86 })).room s m #[.ref h0] below meth c H locs 0 0 (MQ below (va_Qi (fun (r : Int32) (u : List Value) => u[0]? = some (.int (T_propose).1) ∧ ((T_propose).1 = 0 → r = (T_propose).2)) (fun (fs : List Value) (t : State) => va_P (dC, dI) vwCl [(h0, .inr (15, fs))] t.heap ∧ va_D A [(h0, .inr (15, fs))]) A) #[.ref h0] s 0 0 A) (F0 m 41 ls []) := by
    intro n5
    induction n5 with
    | zero =>
      intro i hn5 g H locs hP hD hS ls hl
      obtain rfl : 60 = i := by omega
      refine lv_iload_n hx hb dX12_propose_41 rfl (lv_at hl 0 rfl) ?_
      refine lv_bipush (v := 60) hx hb dX12_propose_42 (by decide) ?_
      refine lv_icmp_ge (tgt := 60) hx hb dX12_propose_44 (by decide) (fun c6 => ?_) (fun c6 => absurd c6 (by decide))
      refine lv_iload_n hx hb dX12_propose_60 rfl (lv_at hl 2 rfl) ?_
      exact W.iret (v := 0) hx hb hr (fun t ht hW => ⟨⟨0, (.int 0 :: .ref (q 1) :: .ref (q 2) :: .int 0 :: .ref (q 4) :: .ref (q 5) :: .ref (q 6) :: .ref (q 7) :: .ref (q 8) :: .int 0 :: .ref (q 10) :: .int 0 :: .int 0 :: .int 0 :: .int 0 :: .int 0 :: .int (-1) :: .ref (q 17) :: .ref (q 18) :: .ref (q 19) :: .ref (q 20) :: .ref (q 21) :: .ref (q 22) :: .ref (q 23) :: .ref (q 24) :: .ref (q 25) :: .ref (q 26) :: .ref (q 27) :: .int 0 :: .ref (q 29) :: .ref (q 30) :: .ref (q 31) :: .ref (q 32) :: .ref (q 33) :: .ref (q 34) :: .ref (q 35) :: .ref (q 36) :: .ref (q 37) :: .ref (q 38) :: .ref (q 39) :: .ref (q 40) :: .ref (q 41) :: .int 0 :: .ref (q 43) :: .ref (q 44) :: .ref (q 45) :: .ref (q 46) :: .int 0 :: .int 0 :: .int (-1) :: .ref (q 50) :: .ref (q 51) :: .int 1 :: .long 0 :: .long 0 :: .ref (q 55) :: .ref (q 56) :: .ref (q 57) :: .ref (q 58) :: .ref (q 59) :: .ref (q 60) :: .ref (q 61) :: .ref (q 62) :: .ref (q 63) :: .int 0 :: .ref (q 65) :: .ref (q 66) :: .ref (q 67) :: .ref (q 68) :: .ref (q 69) :: .ref (q 70) :: .ref (q 71) :: .ref (q 72) :: .ref (q 73) :: .int 0 :: .ref (q 75) :: .ref (q 76) :: .int 0 :: []), rfl, (by unfold T_propose; (first | exact ⟨rfl, fun _ => rfl⟩ | exact ⟨rfl, fun h => absurd h (by decide)⟩)), by rw [ht]; exact hP.sub (ws' := [(h0, .inr (15, (.int 0 :: .ref (q 1) :: .ref (q 2) :: .int 0 :: .ref (q 4) :: .ref (q 5) :: .ref (q 6) :: .ref (q 7) :: .ref (q 8) :: .int 0 :: .ref (q 10) :: .int 0 :: .int 0 :: .int 0 :: .int 0 :: .int 0 :: .int (-1) :: .ref (q 17) :: .ref (q 18) :: .ref (q 19) :: .ref (q 20) :: .ref (q 21) :: .ref (q 22) :: .ref (q 23) :: .ref (q 24) :: .ref (q 25) :: .ref (q 26) :: .ref (q 27) :: .int 0 :: .ref (q 29) :: .ref (q 30) :: .ref (q 31) :: .ref (q 32) :: .ref (q 33) :: .ref (q 34) :: .ref (q 35) :: .ref (q 36) :: .ref (q 37) :: .ref (q 38) :: .ref (q 39) :: .ref (q 40) :: .ref (q 41) :: .int 0 :: .ref (q 43) :: .ref (q 44) :: .ref (q 45) :: .ref (q 46) :: .int 0 :: .int 0 :: .int (-1) :: .ref (q 50) :: .ref (q 51) :: .int 1 :: .long 0 :: .long 0 :: .ref (q 55) :: .ref (q 56) :: .ref (q 57) :: .ref (q 58) :: .ref (q 59) :: .ref (q 60) :: .ref (q 61) :: .ref (q 62) :: .ref (q 63) :: .int 0 :: .ref (q 65) :: .ref (q 66) :: .ref (q 67) :: .ref (q 68) :: .ref (q 69) :: .ref (q 70) :: .ref (q 71) :: .ref (q 72) :: .ref (q 73) :: .int 0 :: .ref (q 75) :: .ref (q 76) :: .int 0 :: [])))]) [1] rfl, hD.sub (ws' := [(h0, .inr (15, (.int 0 :: .ref (q 1) :: .ref (q 2) :: .int 0 :: .ref (q 4) :: .ref (q 5) :: .ref (q 6) :: .ref (q 7) :: .ref (q 8) :: .int 0 :: .ref (q 10) :: .int 0 :: .int 0 :: .int 0 :: .int 0 :: .int 0 :: .int (-1) :: .ref (q 17) :: .ref (q 18) :: .ref (q 19) :: .ref (q 20) :: .ref (q 21) :: .ref (q 22) :: .ref (q 23) :: .ref (q 24) :: .ref (q 25) :: .ref (q 26) :: .ref (q 27) :: .int 0 :: .ref (q 29) :: .ref (q 30) :: .ref (q 31) :: .ref (q 32) :: .ref (q 33) :: .ref (q 34) :: .ref (q 35) :: .ref (q 36) :: .ref (q 37) :: .ref (q 38) :: .ref (q 39) :: .ref (q 40) :: .ref (q 41) :: .int 0 :: .ref (q 43) :: .ref (q 44) :: .ref (q 45) :: .ref (q 46) :: .int 0 :: .int 0 :: .int (-1) :: .ref (q 50) :: .ref (q 51) :: .int 1 :: .long 0 :: .long 0 :: .ref (q 55) :: .ref (q 56) :: .ref (q 57) :: .ref (q 58) :: .ref (q 59) :: .ref (q 60) :: .ref (q 61) :: .ref (q 62) :: .ref (q 63) :: .int 0 :: .ref (q 65) :: .ref (q 66) :: .ref (q 67) :: .ref (q 68) :: .ref (q 69) :: .ref (q 70) :: .ref (q 71) :: .ref (q 72) :: .ref (q 73) :: .int 0 :: .ref (q 75) :: .ref (q 76) :: .int 0 :: [])))]) [1] (by decide) rfl⟩, hS.F ht⟩) hS.2.2 dX12_propose_61
    | succ n5 ih5 =>
      intro i hn5 g H locs hP hD hS ls hl
      have hlt7 : i < 60 := by omega
      refine lv_iload_n hx hb dX12_propose_41 rfl (lv_at hl 0 rfl) ?_
      refine lv_bipush (v := 60) hx hb dX12_propose_42 (by decide) ?_
      refine lv_icmp_ge (tgt := 60) hx hb dX12_propose_44 (by decide) (fun c8 => absurd c8 (nI_ge (b := 60) hlt7 (by decide))) (fun c8 => ?_)
      refine lv_aload_n hx hb dX12_propose_47 rfl (lv_at hl 1 rfl) ?_
      refine va_get (D := (dC, dI)) (ci := 15) (v := .ref (q 55)) (C := RX12) (T := TX12) (N := 78) hx hb hts bF_X12 hown hK hP 1 rfl rfl 55 (by decide) (ht_at hts 45 rfl) (fun _ h9 => h9) rfl dX12_propose_48 ?_
      refine lv_iload_n hx hb dX12_propose_51 rfl (lv_at hl 0 rfl) ?_
      refine lv_iconst (v := 0) hx hb dX12_propose_52 (by decide) ?_
      refine va_zast hx hb hK hP hD hS 0 10 rfl rfl (vp_in_nI (Nat.lt_of_lt_of_le hlt7 (by decide)) (by decide)) dX12_propose_53 (fun H locs hP hD hS => ?_)
      have hP : va_P (dC, dI) vwCl [(q 55, .inl ((cm 55), 60, .inl (upd g (nI i).toNatClampNeg (vp_nar .boolean 0)))), (h0, .inr (15, (.int 0 :: .ref (q 1) :: .ref (q 2) :: .int 0 :: .ref (q 4) :: .ref (q 5) :: .ref (q 6) :: .ref (q 7) :: .ref (q 8) :: .int 0 :: .ref (q 10) :: .int 0 :: .int 0 :: .int 0 :: .int 0 :: .int 0 :: .int (-1) :: .ref (q 17) :: .ref (q 18) :: .ref (q 19) :: .ref (q 20) :: .ref (q 21) :: .ref (q 22) :: .ref (q 23) :: .ref (q 24) :: .ref (q 25) :: .ref (q 26) :: .ref (q 27) :: .int 0 :: .ref (q 29) :: .ref (q 30) :: .ref (q 31) :: .ref (q 32) :: .ref (q 33) :: .ref (q 34) :: .ref (q 35) :: .ref (q 36) :: .ref (q 37) :: .ref (q 38) :: .ref (q 39) :: .ref (q 40) :: .ref (q 41) :: .int 0 :: .ref (q 43) :: .ref (q 44) :: .ref (q 45) :: .ref (q 46) :: .int 0 :: .int 0 :: .int (-1) :: .ref (q 50) :: .ref (q 51) :: .int 1 :: .long 0 :: .long 0 :: .ref (q 55) :: .ref (q 56) :: .ref (q 57) :: .ref (q 58) :: .ref (q 59) :: .ref (q 60) :: .ref (q 61) :: .ref (q 62) :: .ref (q 63) :: .int 0 :: .ref (q 65) :: .ref (q 66) :: .ref (q 67) :: .ref (q 68) :: .ref (q 69) :: .ref (q 70) :: .ref (q 71) :: .ref (q 72) :: .ref (q 73) :: .int 0 :: .ref (q 75) :: .ref (q 76) :: .int 0 :: [])))] H := hP
      have hD : va_D A [(q 55, .inl ((cm 55), 60, .inl (upd g (nI i).toNatClampNeg (vp_nar .boolean 0)))), (h0, .inr (15, (.int 0 :: .ref (q 1) :: .ref (q 2) :: .int 0 :: .ref (q 4) :: .ref (q 5) :: .ref (q 6) :: .ref (q 7) :: .ref (q 8) :: .int 0 :: .ref (q 10) :: .int 0 :: .int 0 :: .int 0 :: .int 0 :: .int 0 :: .int (-1) :: .ref (q 17) :: .ref (q 18) :: .ref (q 19) :: .ref (q 20) :: .ref (q 21) :: .ref (q 22) :: .ref (q 23) :: .ref (q 24) :: .ref (q 25) :: .ref (q 26) :: .ref (q 27) :: .int 0 :: .ref (q 29) :: .ref (q 30) :: .ref (q 31) :: .ref (q 32) :: .ref (q 33) :: .ref (q 34) :: .ref (q 35) :: .ref (q 36) :: .ref (q 37) :: .ref (q 38) :: .ref (q 39) :: .ref (q 40) :: .ref (q 41) :: .int 0 :: .ref (q 43) :: .ref (q 44) :: .ref (q 45) :: .ref (q 46) :: .int 0 :: .int 0 :: .int (-1) :: .ref (q 50) :: .ref (q 51) :: .int 1 :: .long 0 :: .long 0 :: .ref (q 55) :: .ref (q 56) :: .ref (q 57) :: .ref (q 58) :: .ref (q 59) :: .ref (q 60) :: .ref (q 61) :: .ref (q 62) :: .ref (q 63) :: .int 0 :: .ref (q 65) :: .ref (q 66) :: .ref (q 67) :: .ref (q 68) :: .ref (q 69) :: .ref (q 70) :: .ref (q 71) :: .ref (q 72) :: .ref (q 73) :: .int 0 :: .ref (q 75) :: .ref (q 76) :: .int 0 :: [])))] := hD
      obtain ⟨x9, ex9⟩ : ∃ y : Int32, y = (nI i) + 1 := ⟨_, rfl⟩
      refine lv_iinc (v := x9) (lv' := [(2, .int x9), (0, .ref h0), (1, .int 0)]) hx hb dX12_propose_54 hl (k := 0) rfl (by rw [ex9]; rfl) (by decide) rfl (fun ls hl => ?_)
      refine lv_goto (tgt := 41) hx hb dX12_propose_57 (by decide) ?_
      obtain rfl : x9 = nI (i + 1) := ex9.trans (nI_1 i)
      exact ih5 (i + 1) (by omega) (upd g (nI i).toNatClampNeg (vp_nar .boolean 0)) _ _ (hP.sub [0, 1] rfl) (hD.sub [0, 1] (by decide) rfl) hS ls (lv_sub hl [0, 1, 2] rfl)
  exact key5 60 0 (by decide) (fun _ => 0) _ _ (hP.sub [0, 1] rfl) (hD.sub [0, 1] (by decide) rfl) hS ls (lv_sub hl [0, 2, 1] rfl)
