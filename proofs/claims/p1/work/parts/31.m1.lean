theorem tell_le {x y : Int32} (e : y = x + 0) : y ≤ x := by rw [e, Int32.add_zero]; exact Int32.le_refl x
def w_m_thrown : List Cond := .code yX12_thrown cX12_thrown 1 (some .int) :: ([.fieldLink RX12 194 "SeaLandModel" "thrown" "I"] ++ bs)
set_option maxHeartbeats 4000000 in
set_option maxRecDepth 100000 in
theorem m_thrown (l : Launch) (dC : Nat → ClassId) (dI : Nat → Nat → Nat) (h0 : Nat) (fs : List Value) (th : Int32) (sz : Nat) (hth : fs[0]? = some (.int th)) : Met l yX12_thrown w_m_thrown ({ frames := 0, cells := 0, slots := 0, locals := 0 }) (va_Pc [.ref h0] (fun U => U.heap.size = sz ∧ va_P (dC, dI) vwCl [(h0, .inr (15, fs))] U.heap ∧ va_K (dC, dI) vwCl [] U ∧ va_D (fun _ => True) [(h0, .inr (15, fs))])) (va_Qi (fun (r : Int32) (u : Unit) => r = th) (fun (_ : Unit) (_ : State) => True) (va_A [(h0, .inr (15, fs))] sz)) 0 0 (va_A [(h0, .inr (15, fs))] sz) := by
  refine Met.ofW (cc := cX12_thrown) (maxL := 1) (ret := (some .int)) (by decide) rfl ?_
  intro p e s m args below meth c s₁ B hml hv
  obtain ⟨rfl, hsz, hP, hK, hD0⟩ := hv
  have hx := B.exec
  have hb := B.bytes
  have hr := B.returns
  have hts := atoms_spec (ws := w_m_thrown) B.pre
  have hown : s.vm.findClass RX12 = some m.cls := findClass_of_methodNamed B.named
  have hlocks := B.notSynchronized
  subst hsz
  have hD := hD0.self (sz := s.heap.size)
  generalize hAe : va_A [(h0, .inr (15, fs))] s.heap.size = A at hD ⊢
  have hA : ∀ q : Nat, s.heap.size ≤ q → A q := fun q h => by rw [← hAe]; exact Or.inr h
  have hS : va_S A s.heap s.heap [] := va_S.rf
  have hP : va_P (dC, dI) vwCl [(h0, .inr (15, fs))] s.heap := hP
  have hl := lv_entry ([.ref h0]) (n := 1) (Nat.le_of_ble_eq_true rfl)
  rw [lg_entry_eq]
  generalize (lg_sl ([.ref h0]) ++ List.replicate (1 - (lg_sl ([.ref h0])).length) Slot.unset).toArray = ls at hl ⊢
  have hl : lv_has ls 1 [(0, .ref h0)] := hl
  refine lv_aload_n hx hb dX12_thrown_0 rfl (lv_at hl 0 rfl) ?_
  refine va_get (D := (dC, dI)) (ci := 15) (v := .int th) (C := RX12) (T := TX12) (N := 78) hx hb hts bF_X12 hown hK hP 0 rfl rfl 0 (by decide) (ht_at hts 0 rfl) (fun _ h9 => h9) hth dX12_thrown_1 ?_
  exact W.iret (v := th) hx hb hr (fun t ht hW => ⟨⟨th, (), rfl, (by rfl), trivial⟩, hS.F ht⟩) hS.2.2 dX12_thrown_4
def w_m_hour : List Cond := .code yX12_hour cX12_hour 1 (some .int) :: ([.fieldLink RX12 9 "SeaLandModel" "world" "[I"] ++ bs)
set_option maxHeartbeats 4000000 in
set_option maxRecDepth 100000 in
theorem m_hour (l : Launch) (dC : Nat → ClassId) (dI : Nat → Nat → Nat) (h0 : Nat) (q : Nat → Nat) (cm : Nat → ClassId)  (sz : Nat) : Met l yX12_hour w_m_hour ({ frames := 0, cells := 0, slots := 0, locals := 0 }) (va_Pc [.ref h0] (fun U => U.heap.size = sz ∧ va_P (dC, dI) vwCl [(h0, .inr (15, mF q 0)), (q 1, .inl ((cm 1), 1749, .inl (fun _ => 0)))] U.heap ∧ va_K (dC, dI) vwCl [((cm 1), .int)] U ∧ va_D (fun _ => True) [(h0, .inr (15, mF q 0)), (q 1, .inl ((cm 1), 1749, .inl (fun _ => 0)))])) (va_Qi (fun (r : Int32) (u : Unit) => r = 0) (fun (_ : Unit) (t : State) => va_P (dC, dI) vwCl [(h0, .inr (15, mF q 0)), (q 1, .inl ((cm 1), 1749, .inl (fun _ => 0)))] t.heap ∧ va_D (va_A [(h0, .inr (15, mF q 0)), (q 1, .inl ((cm 1), 1749, .inl (fun _ => 0)))] sz) [(h0, .inr (15, mF q 0)), (q 1, .inl ((cm 1), 1749, .inl (fun _ => 0)))]) (va_A [(h0, .inr (15, mF q 0)), (q 1, .inl ((cm 1), 1749, .inl (fun _ => 0)))] sz)) 0 0 (va_A [(h0, .inr (15, mF q 0)), (q 1, .inl ((cm 1), 1749, .inl (fun _ => 0)))] sz) := by
  refine Met.ofW (cc := cX12_hour) (maxL := 1) (ret := (some .int)) (by decide) rfl ?_
  intro p e s m args below meth c s₁ B hml hv
  obtain ⟨rfl, hsz, hP, hK, hD0⟩ := hv
  have hx := B.exec
  have hb := B.bytes
  have hr := B.returns
  have hts := atoms_spec (ws := w_m_hour) B.pre
  have hown : s.vm.findClass RX12 = some m.cls := findClass_of_methodNamed B.named
  have hlocks := B.notSynchronized
  subst hsz
  have hD := hD0.self (sz := s.heap.size)
  generalize hAe : va_A [(h0, .inr (15, mF q 0)), (q 1, .inl ((cm 1), 1749, .inl (fun _ => 0)))] s.heap.size = A at hD ⊢
  have hA : ∀ q : Nat, s.heap.size ≤ q → A q := fun q h => by rw [← hAe]; exact Or.inr h
  have hS : va_S A s.heap s.heap [] := va_S.rf
  have hP : va_P (dC, dI) vwCl [(h0, .inr (15, mF q 0)), (q 1, .inl ((cm 1), 1749, .inl (fun _ => 0)))] s.heap := hP
  have hl := lv_entry ([.ref h0]) (n := 1) (Nat.le_of_ble_eq_true rfl)
  rw [lg_entry_eq]
  generalize (lg_sl ([.ref h0]) ++ List.replicate (1 - (lg_sl ([.ref h0])).length) Slot.unset).toArray = ls at hl ⊢
  have hl : lv_has ls 1 [(0, .ref h0)] := hl
  refine lv_aload_n hx hb dX12_hour_0 rfl (lv_at hl 0 rfl) ?_
  refine va_get (D := (dC, dI)) (ci := 15) (v := .ref (q 1)) (C := RX12) (T := TX12) (N := 78) hx hb hts bF_X12 hown hK hP 0 rfl rfl 1 (by decide) (ht_at hts 0 rfl) (fun _ h9 => h9) rfl dX12_hour_1 ?_
  refine lv_sipush (v := 1429) hx hb dX12_hour_4 (by decide) ?_
  refine va_iald hx hb hK hP 1 0 rfl rfl (by unfold vp_in; decide) dX12_hour_7 ?_
  refine lv_topi (fun x1 ex1 => ?_)
  obtain rfl : 0 = x1 := (ex1).symm
  exact W.iret (v := 0) hx hb hr (fun t ht hW => ⟨⟨0, (), rfl, (by rfl), by rw [ht]; exact hP.sub (ws' := [(h0, .inr (15, mF q 0)), (q 1, .inl ((cm 1), 1749, .inl (fun _ => 0)))]) [0, 1] rfl, hD.sub (ws' := [(h0, .inr (15, mF q 0)), (q 1, .inl ((cm 1), 1749, .inl (fun _ => 0)))]) [0, 1] (by decide) rfl⟩, hS.F ht⟩) hS.2.2 dX12_hour_8
def w_m_isLand : List Cond := .code yX12_isLand cX12_isLand 2 (some .boolean) :: ([.fieldLink RX12 9 "SeaLandModel" "world" "[I"] ++ bs)
set_option maxHeartbeats 4000000 in
set_option maxRecDepth 100000 in
theorem m_isLand (l : Launch) (dC : Nat → ClassId) (dI : Nat → Nat → Nat) (h0 : Nat) (q : Nat → Nat) (cm : Nat → ClassId) (sq : Int32) (sz : Nat) (hsq : 0 ≤ sq ∧ sq ≤ 95) : Met l yX12_isLand w_m_isLand ({ frames := 0, cells := 0, slots := 0, locals := 0 }) (va_Pc [.ref h0, .int sq] (fun U => U.heap.size = sz ∧ va_P (dC, dI) vwCl [(h0, .inr (15, mF q 0)), (q 1, .inl ((cm 1), 1749, .inl (fun _ => 0)))] U.heap ∧ va_K (dC, dI) vwCl [((cm 1), .int)] U ∧ va_D (fun _ => True) [(h0, .inr (15, mF q 0)), (q 1, .inl ((cm 1), 1749, .inl (fun _ => 0)))])) (va_Qi (fun (r : Int32) (u : Unit) => r = 0) (fun (_ : Unit) (t : State) => va_P (dC, dI) vwCl [(h0, .inr (15, mF q 0)), (q 1, .inl ((cm 1), 1749, .inl (fun _ => 0)))] t.heap ∧ va_D (va_A [(h0, .inr (15, mF q 0)), (q 1, .inl ((cm 1), 1749, .inl (fun _ => 0)))] sz) [(h0, .inr (15, mF q 0)), (q 1, .inl ((cm 1), 1749, .inl (fun _ => 0)))]) (va_A [(h0, .inr (15, mF q 0)), (q 1, .inl ((cm 1), 1749, .inl (fun _ => 0)))] sz)) 0 0 (va_A [(h0, .inr (15, mF q 0)), (q 1, .inl ((cm 1), 1749, .inl (fun _ => 0)))] sz) := by
  refine Met.ofW (cc := cX12_isLand) (maxL := 2) (ret := (some .boolean)) (by decide) rfl ?_
  intro p e s m args below meth c s₁ B hml hv
  obtain ⟨rfl, hsz, hP, hK, hD0⟩ := hv
  have hx := B.exec
  have hb := B.bytes
  have hr := B.returns
  have hts := atoms_spec (ws := w_m_isLand) B.pre
  have hown : s.vm.findClass RX12 = some m.cls := findClass_of_methodNamed B.named
  have hlocks := B.notSynchronized
  subst hsz
  have hD := hD0.self (sz := s.heap.size)
  generalize hAe : va_A [(h0, .inr (15, mF q 0)), (q 1, .inl ((cm 1), 1749, .inl (fun _ => 0)))] s.heap.size = A at hD ⊢
  have hA : ∀ q : Nat, s.heap.size ≤ q → A q := fun q h => by rw [← hAe]; exact Or.inr h
  have hS : va_S A s.heap s.heap [] := va_S.rf
  have hP : va_P (dC, dI) vwCl [(h0, .inr (15, mF q 0)), (q 1, .inl ((cm 1), 1749, .inl (fun _ => 0)))] s.heap := hP
  have hl := lv_entry ([.ref h0, .int sq]) (n := 2) (Nat.le_of_ble_eq_true rfl)
  rw [lg_entry_eq]
  generalize (lg_sl ([.ref h0, .int sq]) ++ List.replicate (2 - (lg_sl ([.ref h0, .int sq])).length) Slot.unset).toArray = ls at hl ⊢
  have hl : lv_has ls 2 [(0, .ref h0), (1, .int sq)] := hl
  refine lv_aload_n hx hb dX12_isLand_0 rfl (lv_at hl 0 rfl) ?_
  refine va_get (D := (dC, dI)) (ci := 15) (v := .ref (q 1)) (C := RX12) (T := TX12) (N := 78) hx hb hts bF_X12 hown hK hP 0 rfl rfl 1 (by decide) (ht_at hts 0 rfl) (fun _ h9 => h9) rfl dX12_isLand_1 ?_
  refine lv_iconst (v := 0) hx hb dX12_isLand_4 (by decide) ?_
  refine lv_iload_n hx hb dX12_isLand_5 rfl (lv_at hl 1 rfl) ?_
  refine lv_iadd hx hb dX12_isLand_6 ?_
  refine lv_topi (fun x1 ex1 => ?_)
  refine va_iald hx hb hK hP 1 0 rfl rfl (by rw [ex1]; exact vin_add hsq (by decide) (by decide) (by decide)) dX12_isLand_7 ?_
  refine lv_topi (fun x2 ex2 => ?_)
  obtain rfl : 0 = x2 := (ex2).symm
  refine lv_iconst (v := 1) hx hb dX12_isLand_8 (by decide) ?_
  refine lv_icmp_ne (tgt := 16) hx hb dX12_isLand_9 (by decide) (fun c3 => ?_) (fun c3 => absurd c3 (by decide))
  refine lv_iconst (v := 0) hx hb dX12_isLand_16 (by decide) ?_
  exact W.zret (v := 0) hx hb hr (by decide) (fun t ht hW => ⟨⟨0, (), rfl, (by rfl), by rw [ht]; exact hP.sub (ws' := [(h0, .inr (15, mF q 0)), (q 1, .inl ((cm 1), 1749, .inl (fun _ => 0)))]) [0, 1] rfl, hD.sub (ws' := [(h0, .inr (15, mF q 0)), (q 1, .inl ((cm 1), 1749, .inl (fun _ => 0)))]) [0, 1] (by decide) rfl⟩, hS.F ht⟩) hS.2.2 dX12_isLand_17
def w_m_noWork : List Cond := .code yX12_noWork cX12_noWork 2 (some .boolean) :: ([.fieldLink RX12 9 "SeaLandModel" "world" "[I", .code yX12_in cX12_in 3 (some .boolean), .methodLink RX12 197 yX12_in, .static yX12_in, .initialized RX12] ++ bs)
set_option maxHeartbeats 4000000 in
set_option maxRecDepth 100000 in
theorem m_noWork (l : Launch) (dC : Nat → ClassId) (dI : Nat → Nat → Nat) (h0 : Nat) (q : Nat → Nat) (cm : Nat → ClassId) (w : Int32) (sz : Nat) : Met l yX12_noWork w_m_noWork ({ frames := 1, cells := 0, slots := 0, locals := 22 }) (va_Pc [.ref h0, .int w] (fun U => U.heap.size = sz ∧ va_P (dC, dI) vwCl [(h0, .inr (15, mF q 0)), (q 1, .inl ((cm 1), 1749, .inl (fun _ => 0)))] U.heap ∧ va_K (dC, dI) vwCl [((cm 1), .int)] U ∧ va_D (fun _ => True) [(h0, .inr (15, mF q 0)), (q 1, .inl ((cm 1), 1749, .inl (fun _ => 0)))])) (va_Qi (fun (r : Int32) (u : Unit) => r = 1) (fun (_ : Unit) (t : State) => va_P (dC, dI) vwCl [(h0, .inr (15, mF q 0)), (q 1, .inl ((cm 1), 1749, .inl (fun _ => 0)))] t.heap ∧ va_D (va_A [(h0, .inr (15, mF q 0)), (q 1, .inl ((cm 1), 1749, .inl (fun _ => 0)))] sz) [(h0, .inr (15, mF q 0)), (q 1, .inl ((cm 1), 1749, .inl (fun _ => 0)))]) (va_A [(h0, .inr (15, mF q 0)), (q 1, .inl ((cm 1), 1749, .inl (fun _ => 0)))] sz)) 0 0 (va_A [(h0, .inr (15, mF q 0)), (q 1, .inl ((cm 1), 1749, .inl (fun _ => 0)))] sz) := by
  refine Met.ofW (cc := cX12_noWork) (maxL := 2) (ret := (some .boolean)) (by decide) rfl ?_
  intro p e s m args below meth c s₁ B hml hv
  obtain ⟨rfl, hsz, hP, hK, hD0⟩ := hv
  have hx := B.exec
  have hb := B.bytes
  have hr := B.returns
  have hts := atoms_spec (ws := w_m_noWork) B.pre
  have hown : s.vm.findClass RX12 = some m.cls := findClass_of_methodNamed B.named
  have hlocks := B.notSynchronized
  subst hsz
  have hD := hD0.self (sz := s.heap.size)
  generalize hAe : va_A [(h0, .inr (15, mF q 0)), (q 1, .inl ((cm 1), 1749, .inl (fun _ => 0)))] s.heap.size = A at hD ⊢
  have hA : ∀ q : Nat, s.heap.size ≤ q → A q := fun q h => by rw [← hAe]; exact Or.inr h
  have hS : va_S A s.heap s.heap [] := va_S.rf
  have hP : va_P (dC, dI) vwCl [(h0, .inr (15, mF q 0)), (q 1, .inl ((cm 1), 1749, .inl (fun _ => 0)))] s.heap := hP
  have hl := lv_entry ([.ref h0, .int w]) (n := 2) (Nat.le_of_ble_eq_true rfl)
  rw [lg_entry_eq]
  generalize (lg_sl ([.ref h0, .int w]) ++ List.replicate (2 - (lg_sl ([.ref h0, .int w])).length) Slot.unset).toArray = ls at hl ⊢
  have hl : lv_has ls 2 [(0, .ref h0), (1, .int w)] := hl
  refine lv_iload_n hx hb dX12_noWork_0 rfl (lv_at hl 1 rfl) ?_
  refine lv_iconst (v := 0) hx hb dX12_noWork_1 (by decide) ?_
  refine lv_aload_n hx hb dX12_noWork_2 rfl (lv_at hl 0 rfl) ?_
  refine va_get (D := (dC, dI)) (ci := 15) (v := .ref (q 1)) (C := RX12) (T := TX12) (N := 78) hx hb hts bF_X12 hown hK hP 0 rfl rfl 1 (by decide) (ht_at hts 0 rfl) (fun _ h9 => h9) rfl dX12_noWork_3 ?_
  refine lv_sipush (v := 1428) hx hb dX12_noWork_6 (by decide) ?_
  refine va_iald hx hb hK hP 1 0 rfl rfl (by unfold vp_in; decide) dX12_noWork_9 ?_
  refine lv_topi (fun x1 ex1 => ?_)
  obtain rfl : 0 = x1 := (ex1).symm
  refine lv_iconst (v := 1) hx hb dX12_noWork_10 (by decide) ?_
  refine lv_isub hx hb dX12_noWork_11 ?_
  refine lv_topi (fun x2 ex2 => ?_)
  obtain rfl : x2 = (-1) := ex2.trans (by decide)
  have hPc := hP.sub (ws' := []) [] rfl
  have hDc := hD.sub (ws' := []) [] (by decide) rfl
  have hKc := hK.sub (tys' := []) [] rfl
  have hFc := va_free (wc := []) hD hS hA [] rfl
  refine va_calli (va_runS (As := [.int w, .int 0, .int (-1)]) (rest := []) ⟨hx, hb, hml, hown, hts⟩ (c_min_ l dC dI w 0 (-1) s.heap.size ) (va_cwS 3 hts (goodIn_app (goodIn_r _ [3, 4, 5] (by decide +kernel) (by decide +kernel)) (goodIn_ca (goodIn_r _ [2] (by decide +kernel) (by decide +kernel)) (bs_in _ _))) rfl rfl rfl (by decide +kernel) ⟨(Nat.le_of_ble_eq_true rfl), (Nat.le_of_ble_eq_true rfl)⟩) ⟨fun a U g mk q => by obtain ⟨q0, q1, qP, qK, qD⟩ := q; exact ⟨q0, q1, qP, va_K.moved (u := U) (U := U.calling g mk a) (Vm.Alike.refl U.vm) qK, qD⟩, fun U hU hW => ⟨rfl, by rw [hU], by rw [hU]; exact hPc, va_K.moved hW.alike hKc, hDc.weaken (fun _ _ _ _ => trivial)⟩⟩ rfl rfl hl.1 rfl (lv_room (Nat.le_of_ble_eq_true rfl)) dX12_noWork_12 ⟨(Nat.le_of_ble_eq_true rfl), (Nat.le_of_ble_eq_true rfl)⟩) hS (fun q _ h => hFc q h) hFc (fun r4 u t H1 locs ht hvm hw5 hB hz1 hk1 hS => ?_)
  have hP1 : va_P (dC, dI) vwCl [] H1 := nilP
  have hD1 : va_D (va_A [] s.heap.size) [] := nilD
  have hK := hK
  obtain ⟨hP, hD⟩ := va_join (wr := [(h0, .inr (15, mF q 0)), (q 1, .inl ((cm 1), 1749, .inl (fun _ => 0)))]) (w1 := []) hP hD [] [0, 1] rfl rfl (by decide) (by decide) hk1 hFc hP1 hD1
  generalize H1 = H at hP hS ⊢
  have hP : va_P (dC, dI) vwCl [(h0, .inr (15, mF q 0)), (q 1, .inl ((cm 1), 1749, .inl (fun _ => 0)))] H := hP
  have hD : va_D A [(h0, .inr (15, mF q 0)), (q 1, .inl ((cm 1), 1749, .inl (fun _ => 0)))] := hD
  try dsimp only at hw5
  have hc6 : ¬ ((0 : Int32) ≤ w ∧ w ≤ (-1 : Int32)) := no01
  rw [if_neg hc6] at hw5
  subst hw5
  refine lv_if_ne (tgt := 22) hx hb dX12_noWork_15 (by decide) (fun c7 => absurd c7 (by decide)) (fun c7 => ?_)
  refine lv_iconst (v := 1) hx hb dX12_noWork_18 (by decide) ?_
  refine lv_goto (tgt := 23) hx hb dX12_noWork_19 (by decide) ?_
  exact W.zret (v := 1) hx hb hr (by decide) (fun t ht hW => ⟨⟨1, (), rfl, (by rfl), by rw [ht]; exact hP.sub (ws' := [(h0, .inr (15, mF q 0)), (q 1, .inl ((cm 1), 1749, .inl (fun _ => 0)))]) [0, 1] rfl, hD.sub (ws' := [(h0, .inr (15, mF q 0)), (q 1, .inl ((cm 1), 1749, .inl (fun _ => 0)))]) [0, 1] (by decide) rfl⟩, hS.F ht⟩) hS.2.2 dX12_noWork_23
def w_m_nobody : List Cond := .code yX12_nobody cX12_nobody 2 (some .boolean) :: ([.fieldLink RX12 495 "SeaLandModel" "settlers" "I", .code yX12_in cX12_in 3 (some .boolean), .methodLink RX12 197 yX12_in, .static yX12_in, .initialized RX12] ++ bs)
set_option maxHeartbeats 4000000 in
set_option maxRecDepth 100000 in
theorem m_nobody (l : Launch) (dC : Nat → ClassId) (dI : Nat → Nat → Nat) (h0 : Nat) (q : Nat → Nat) (cm : Nat → ClassId) (w : Int32) (sz : Nat) : Met l yX12_nobody w_m_nobody ({ frames := 1, cells := 0, slots := 0, locals := 22 }) (va_Pc [.ref h0, .int w] (fun U => U.heap.size = sz ∧ va_P (dC, dI) vwCl [(h0, .inr (15, mF q 0))] U.heap ∧ va_K (dC, dI) vwCl [] U ∧ va_D (fun _ => True) [(h0, .inr (15, mF q 0))])) (va_Qi (fun (r : Int32) (u : Unit) => r = 1) (fun (_ : Unit) (t : State) => va_P (dC, dI) vwCl [(h0, .inr (15, mF q 0))] t.heap ∧ va_D (va_A [(h0, .inr (15, mF q 0))] sz) [(h0, .inr (15, mF q 0))]) (va_A [(h0, .inr (15, mF q 0))] sz)) 0 0 (va_A [(h0, .inr (15, mF q 0))] sz) := by
  refine Met.ofW (cc := cX12_nobody) (maxL := 2) (ret := (some .boolean)) (by decide) rfl ?_
  intro p e s m args below meth c s₁ B hml hv
  obtain ⟨rfl, hsz, hP, hK, hD0⟩ := hv
  have hx := B.exec
  have hb := B.bytes
  have hr := B.returns
  have hts := atoms_spec (ws := w_m_nobody) B.pre
  have hown : s.vm.findClass RX12 = some m.cls := findClass_of_methodNamed B.named
  have hlocks := B.notSynchronized
  subst hsz
  have hD := hD0.self (sz := s.heap.size)
  generalize hAe : va_A [(h0, .inr (15, mF q 0))] s.heap.size = A at hD ⊢
  have hA : ∀ q : Nat, s.heap.size ≤ q → A q := fun q h => by rw [← hAe]; exact Or.inr h
  have hS : va_S A s.heap s.heap [] := va_S.rf
  have hP : va_P (dC, dI) vwCl [(h0, .inr (15, mF q 0))] s.heap := hP
  have hl := lv_entry ([.ref h0, .int w]) (n := 2) (Nat.le_of_ble_eq_true rfl)
  rw [lg_entry_eq]
  generalize (lg_sl ([.ref h0, .int w]) ++ List.replicate (2 - (lg_sl ([.ref h0, .int w])).length) Slot.unset).toArray = ls at hl ⊢
  have hl : lv_has ls 2 [(0, .ref h0), (1, .int w)] := hl
  refine lv_iload_n hx hb dX12_nobody_0 rfl (lv_at hl 1 rfl) ?_
  refine lv_iconst (v := 0) hx hb dX12_nobody_1 (by decide) ?_
  refine lv_aload_n hx hb dX12_nobody_2 rfl (lv_at hl 0 rfl) ?_
  refine va_get (D := (dC, dI)) (ci := 15) (v := .int 0) (C := RX12) (T := TX12) (N := 78) hx hb hts bF_X12 hown hK hP 0 rfl rfl 42 (by decide) (ht_at hts 0 rfl) (fun _ h9 => h9) rfl dX12_nobody_3 ?_
  refine lv_iconst (v := 1) hx hb dX12_nobody_6 (by decide) ?_
  refine lv_isub hx hb dX12_nobody_7 ?_
  refine lv_topi (fun x1 ex1 => ?_)
  obtain rfl : x1 = (-1) := ex1.trans (by decide)
  have hPc := hP.sub (ws' := []) [] rfl
  have hDc := hD.sub (ws' := []) [] (by decide) rfl
  have hKc := hK.sub (tys' := []) [] rfl
  have hFc := va_free (wc := []) hD hS hA [] rfl
  refine va_calli (va_runS (As := [.int w, .int 0, .int (-1)]) (rest := []) ⟨hx, hb, hml, hown, hts⟩ (c_min_ l dC dI w 0 (-1) s.heap.size ) (va_cwS 3 hts (goodIn_app (goodIn_r _ [3, 4, 5] (by decide +kernel) (by decide +kernel)) (goodIn_ca (goodIn_r _ [2] (by decide +kernel) (by decide +kernel)) (bs_in _ _))) rfl rfl rfl (by decide +kernel) ⟨(Nat.le_of_ble_eq_true rfl), (Nat.le_of_ble_eq_true rfl)⟩) ⟨fun a U g mk q => by obtain ⟨q0, q1, qP, qK, qD⟩ := q; exact ⟨q0, q1, qP, va_K.moved (u := U) (U := U.calling g mk a) (Vm.Alike.refl U.vm) qK, qD⟩, fun U hU hW => ⟨rfl, by rw [hU], by rw [hU]; exact hPc, va_K.moved hW.alike hKc, hDc.weaken (fun _ _ _ _ => trivial)⟩⟩ rfl rfl hl.1 rfl (lv_room (Nat.le_of_ble_eq_true rfl)) dX12_nobody_8 ⟨(Nat.le_of_ble_eq_true rfl), (Nat.le_of_ble_eq_true rfl)⟩) hS (fun q _ h => hFc q h) hFc (fun r3 u t H1 locs ht hvm hw4 hB hz1 hk1 hS => ?_)
  have hP1 : va_P (dC, dI) vwCl [] H1 := nilP
  have hD1 : va_D (va_A [] s.heap.size) [] := nilD
  have hK := hK
  obtain ⟨hP, hD⟩ := va_join (wr := [(h0, .inr (15, mF q 0))]) (w1 := []) hP hD [] [0] rfl rfl (by decide) (by decide) hk1 hFc hP1 hD1
  generalize H1 = H at hP hS ⊢
  have hP : va_P (dC, dI) vwCl [(h0, .inr (15, mF q 0))] H := hP
  have hD : va_D A [(h0, .inr (15, mF q 0))] := hD
  try dsimp only at hw4
  have hc5 : ¬ ((0 : Int32) ≤ w ∧ w ≤ (-1 : Int32)) := no01
  rw [if_neg hc5] at hw4
  subst hw4
  refine lv_if_ne (tgt := 18) hx hb dX12_nobody_11 (by decide) (fun c6 => absurd c6 (by decide)) (fun c6 => ?_)
  refine lv_iconst (v := 1) hx hb dX12_nobody_14 (by decide) ?_
  refine lv_goto (tgt := 19) hx hb dX12_nobody_15 (by decide) ?_
  exact W.zret (v := 1) hx hb hr (by decide) (fun t ht hW => ⟨⟨1, (), rfl, (by rfl), by rw [ht]; exact hP.sub (ws' := [(h0, .inr (15, mF q 0))]) [0] rfl, hD.sub (ws' := [(h0, .inr (15, mF q 0))]) [0] (by decide) rfl⟩, hS.F ht⟩) hS.2.2 dX12_nobody_19
def w_m_noFarm : List Cond := .code yX12_noFarm cX12_noFarm 2 (some .boolean) :: ([.fieldLink RX12 498 "SeaLandModel" "farms" "I", .code yX12_in cX12_in 3 (some .boolean), .methodLink RX12 197 yX12_in, .static yX12_in, .initialized RX12] ++ bs)
set_option maxHeartbeats 4000000 in
set_option maxRecDepth 100000 in
theorem m_noFarm (l : Launch) (dC : Nat → ClassId) (dI : Nat → Nat → Nat) (h0 : Nat) (q : Nat → Nat) (cm : Nat → ClassId) (w : Int32) (sz : Nat) : Met l yX12_noFarm w_m_noFarm ({ frames := 1, cells := 0, slots := 0, locals := 22 }) (va_Pc [.ref h0, .int w] (fun U => U.heap.size = sz ∧ va_P (dC, dI) vwCl [(h0, .inr (15, mF q 0))] U.heap ∧ va_K (dC, dI) vwCl [] U ∧ va_D (fun _ => True) [(h0, .inr (15, mF q 0))])) (va_Qi (fun (r : Int32) (u : Unit) => r = 1) (fun (_ : Unit) (t : State) => va_P (dC, dI) vwCl [(h0, .inr (15, mF q 0))] t.heap ∧ va_D (va_A [(h0, .inr (15, mF q 0))] sz) [(h0, .inr (15, mF q 0))]) (va_A [(h0, .inr (15, mF q 0))] sz)) 0 0 (va_A [(h0, .inr (15, mF q 0))] sz) := by
  refine Met.ofW (cc := cX12_noFarm) (maxL := 2) (ret := (some .boolean)) (by decide) rfl ?_
  intro p e s m args below meth c s₁ B hml hv
  obtain ⟨rfl, hsz, hP, hK, hD0⟩ := hv
  have hx := B.exec
  have hb := B.bytes
  have hr := B.returns
  have hts := atoms_spec (ws := w_m_noFarm) B.pre
  have hown : s.vm.findClass RX12 = some m.cls := findClass_of_methodNamed B.named
  have hlocks := B.notSynchronized
  subst hsz
  have hD := hD0.self (sz := s.heap.size)
  generalize hAe : va_A [(h0, .inr (15, mF q 0))] s.heap.size = A at hD ⊢
  have hA : ∀ q : Nat, s.heap.size ≤ q → A q := fun q h => by rw [← hAe]; exact Or.inr h
  have hS : va_S A s.heap s.heap [] := va_S.rf
  have hP : va_P (dC, dI) vwCl [(h0, .inr (15, mF q 0))] s.heap := hP
  have hl := lv_entry ([.ref h0, .int w]) (n := 2) (Nat.le_of_ble_eq_true rfl)
  rw [lg_entry_eq]
  generalize (lg_sl ([.ref h0, .int w]) ++ List.replicate (2 - (lg_sl ([.ref h0, .int w])).length) Slot.unset).toArray = ls at hl ⊢
  have hl : lv_has ls 2 [(0, .ref h0), (1, .int w)] := hl
  refine lv_iload_n hx hb dX12_noFarm_0 rfl (lv_at hl 1 rfl) ?_
  refine lv_iconst (v := 0) hx hb dX12_noFarm_1 (by decide) ?_
  refine lv_aload_n hx hb dX12_noFarm_2 rfl (lv_at hl 0 rfl) ?_
  refine va_get (D := (dC, dI)) (ci := 15) (v := .int 0) (C := RX12) (T := TX12) (N := 78) hx hb hts bF_X12 hown hK hP 0 rfl rfl 47 (by decide) (ht_at hts 0 rfl) (fun _ h9 => h9) rfl dX12_noFarm_3 ?_
  refine lv_iconst (v := 1) hx hb dX12_noFarm_6 (by decide) ?_
  refine lv_isub hx hb dX12_noFarm_7 ?_
  refine lv_topi (fun x1 ex1 => ?_)
  obtain rfl : x1 = (-1) := ex1.trans (by decide)
  have hPc := hP.sub (ws' := []) [] rfl
  have hDc := hD.sub (ws' := []) [] (by decide) rfl
  have hKc := hK.sub (tys' := []) [] rfl
  have hFc := va_free (wc := []) hD hS hA [] rfl
  refine va_calli (va_runS (As := [.int w, .int 0, .int (-1)]) (rest := []) ⟨hx, hb, hml, hown, hts⟩ (c_min_ l dC dI w 0 (-1) s.heap.size ) (va_cwS 3 hts (goodIn_app (goodIn_r _ [3, 4, 5] (by decide +kernel) (by decide +kernel)) (goodIn_ca (goodIn_r _ [2] (by decide +kernel) (by decide +kernel)) (bs_in _ _))) rfl rfl rfl (by decide +kernel) ⟨(Nat.le_of_ble_eq_true rfl), (Nat.le_of_ble_eq_true rfl)⟩) ⟨fun a U g mk q => by obtain ⟨q0, q1, qP, qK, qD⟩ := q; exact ⟨q0, q1, qP, va_K.moved (u := U) (U := U.calling g mk a) (Vm.Alike.refl U.vm) qK, qD⟩, fun U hU hW => ⟨rfl, by rw [hU], by rw [hU]; exact hPc, va_K.moved hW.alike hKc, hDc.weaken (fun _ _ _ _ => trivial)⟩⟩ rfl rfl hl.1 rfl (lv_room (Nat.le_of_ble_eq_true rfl)) dX12_noFarm_8 ⟨(Nat.le_of_ble_eq_true rfl), (Nat.le_of_ble_eq_true rfl)⟩) hS (fun q _ h => hFc q h) hFc (fun r3 u t H1 locs ht hvm hw4 hB hz1 hk1 hS => ?_)
  have hP1 : va_P (dC, dI) vwCl [] H1 := nilP
  have hD1 : va_D (va_A [] s.heap.size) [] := nilD
  have hK := hK
  obtain ⟨hP, hD⟩ := va_join (wr := [(h0, .inr (15, mF q 0))]) (w1 := []) hP hD [] [0] rfl rfl (by decide) (by decide) hk1 hFc hP1 hD1
  generalize H1 = H at hP hS ⊢
  have hP : va_P (dC, dI) vwCl [(h0, .inr (15, mF q 0))] H := hP
  have hD : va_D A [(h0, .inr (15, mF q 0))] := hD
  try dsimp only at hw4
  have hc5 : ¬ ((0 : Int32) ≤ w ∧ w ≤ (-1 : Int32)) := no01
  rw [if_neg hc5] at hw4
  subst hw4
  refine lv_if_ne (tgt := 18) hx hb dX12_noFarm_11 (by decide) (fun c6 => absurd c6 (by decide)) (fun c6 => ?_)
  refine lv_iconst (v := 1) hx hb dX12_noFarm_14 (by decide) ?_
  refine lv_goto (tgt := 19) hx hb dX12_noFarm_15 (by decide) ?_
  exact W.zret (v := 1) hx hb hr (by decide) (fun t ht hW => ⟨⟨1, (), rfl, (by rfl), by rw [ht]; exact hP.sub (ws' := [(h0, .inr (15, mF q 0))]) [0] rfl, hD.sub (ws' := [(h0, .inr (15, mF q 0))]) [0] (by decide) rfl⟩, hS.F ht⟩) hS.2.2 dX12_noFarm_19
def w_m_noContract : List Cond := .code yX12_noContract cX12_noContract 2 (some .boolean) :: ([.fieldLink RX12 533 "SeaLandModel" "contracts" "I", .code yX12_in cX12_in 3 (some .boolean), .methodLink RX12 197 yX12_in, .static yX12_in, .initialized RX12] ++ bs)
set_option maxHeartbeats 4000000 in
set_option maxRecDepth 100000 in
theorem m_noContract (l : Launch) (dC : Nat → ClassId) (dI : Nat → Nat → Nat) (h0 : Nat) (q : Nat → Nat) (cm : Nat → ClassId) (w : Int32) (sz : Nat) : Met l yX12_noContract w_m_noContract ({ frames := 1, cells := 0, slots := 0, locals := 22 }) (va_Pc [.ref h0, .int w] (fun U => U.heap.size = sz ∧ va_P (dC, dI) vwCl [(h0, .inr (15, mF q 0))] U.heap ∧ va_K (dC, dI) vwCl [] U ∧ va_D (fun _ => True) [(h0, .inr (15, mF q 0))])) (va_Qi (fun (r : Int32) (u : Unit) => r = 1) (fun (_ : Unit) (t : State) => va_P (dC, dI) vwCl [(h0, .inr (15, mF q 0))] t.heap ∧ va_D (va_A [(h0, .inr (15, mF q 0))] sz) [(h0, .inr (15, mF q 0))]) (va_A [(h0, .inr (15, mF q 0))] sz)) 0 0 (va_A [(h0, .inr (15, mF q 0))] sz) := by
  refine Met.ofW (cc := cX12_noContract) (maxL := 2) (ret := (some .boolean)) (by decide) rfl ?_
  intro p e s m args below meth c s₁ B hml hv
  obtain ⟨rfl, hsz, hP, hK, hD0⟩ := hv
  have hx := B.exec
  have hb := B.bytes
  have hr := B.returns
  have hts := atoms_spec (ws := w_m_noContract) B.pre
  have hown : s.vm.findClass RX12 = some m.cls := findClass_of_methodNamed B.named
  have hlocks := B.notSynchronized
  subst hsz
  have hD := hD0.self (sz := s.heap.size)
  generalize hAe : va_A [(h0, .inr (15, mF q 0))] s.heap.size = A at hD ⊢
  have hA : ∀ q : Nat, s.heap.size ≤ q → A q := fun q h => by rw [← hAe]; exact Or.inr h
  have hS : va_S A s.heap s.heap [] := va_S.rf
  have hP : va_P (dC, dI) vwCl [(h0, .inr (15, mF q 0))] s.heap := hP
  have hl := lv_entry ([.ref h0, .int w]) (n := 2) (Nat.le_of_ble_eq_true rfl)
  rw [lg_entry_eq]
  generalize (lg_sl ([.ref h0, .int w]) ++ List.replicate (2 - (lg_sl ([.ref h0, .int w])).length) Slot.unset).toArray = ls at hl ⊢
  have hl : lv_has ls 2 [(0, .ref h0), (1, .int w)] := hl
  refine lv_iload_n hx hb dX12_noContract_0 rfl (lv_at hl 1 rfl) ?_
  refine lv_iconst (v := 0) hx hb dX12_noContract_1 (by decide) ?_
  refine lv_aload_n hx hb dX12_noContract_2 rfl (lv_at hl 0 rfl) ?_
  refine va_get (D := (dC, dI)) (ci := 15) (v := .int 0) (C := RX12) (T := TX12) (N := 78) hx hb hts bF_X12 hown hK hP 0 rfl rfl 64 (by decide) (ht_at hts 0 rfl) (fun _ h9 => h9) rfl dX12_noContract_3 ?_
  refine lv_iconst (v := 1) hx hb dX12_noContract_6 (by decide) ?_
  refine lv_isub hx hb dX12_noContract_7 ?_
  refine lv_topi (fun x1 ex1 => ?_)
  obtain rfl : x1 = (-1) := ex1.trans (by decide)
  have hPc := hP.sub (ws' := []) [] rfl
  have hDc := hD.sub (ws' := []) [] (by decide) rfl
  have hKc := hK.sub (tys' := []) [] rfl
  have hFc := va_free (wc := []) hD hS hA [] rfl
  refine va_calli (va_runS (As := [.int w, .int 0, .int (-1)]) (rest := []) ⟨hx, hb, hml, hown, hts⟩ (c_min_ l dC dI w 0 (-1) s.heap.size ) (va_cwS 3 hts (goodIn_app (goodIn_r _ [3, 4, 5] (by decide +kernel) (by decide +kernel)) (goodIn_ca (goodIn_r _ [2] (by decide +kernel) (by decide +kernel)) (bs_in _ _))) rfl rfl rfl (by decide +kernel) ⟨(Nat.le_of_ble_eq_true rfl), (Nat.le_of_ble_eq_true rfl)⟩) ⟨fun a U g mk q => by obtain ⟨q0, q1, qP, qK, qD⟩ := q; exact ⟨q0, q1, qP, va_K.moved (u := U) (U := U.calling g mk a) (Vm.Alike.refl U.vm) qK, qD⟩, fun U hU hW => ⟨rfl, by rw [hU], by rw [hU]; exact hPc, va_K.moved hW.alike hKc, hDc.weaken (fun _ _ _ _ => trivial)⟩⟩ rfl rfl hl.1 rfl (lv_room (Nat.le_of_ble_eq_true rfl)) dX12_noContract_8 ⟨(Nat.le_of_ble_eq_true rfl), (Nat.le_of_ble_eq_true rfl)⟩) hS (fun q _ h => hFc q h) hFc (fun r3 u t H1 locs ht hvm hw4 hB hz1 hk1 hS => ?_)
  have hP1 : va_P (dC, dI) vwCl [] H1 := nilP
  have hD1 : va_D (va_A [] s.heap.size) [] := nilD
  have hK := hK
  obtain ⟨hP, hD⟩ := va_join (wr := [(h0, .inr (15, mF q 0))]) (w1 := []) hP hD [] [0] rfl rfl (by decide) (by decide) hk1 hFc hP1 hD1
  generalize H1 = H at hP hS ⊢
  have hP : va_P (dC, dI) vwCl [(h0, .inr (15, mF q 0))] H := hP
  have hD : va_D A [(h0, .inr (15, mF q 0))] := hD
  try dsimp only at hw4
  have hc5 : ¬ ((0 : Int32) ≤ w ∧ w ≤ (-1 : Int32)) := no01
  rw [if_neg hc5] at hw4
  subst hw4
  refine lv_if_ne (tgt := 18) hx hb dX12_noContract_11 (by decide) (fun c6 => absurd c6 (by decide)) (fun c6 => ?_)
  refine lv_iconst (v := 1) hx hb dX12_noContract_14 (by decide) ?_
  refine lv_goto (tgt := 19) hx hb dX12_noContract_15 (by decide) ?_
  exact W.zret (v := 1) hx hb hr (by decide) (fun t ht hW => ⟨⟨1, (), rfl, (by rfl), by rw [ht]; exact hP.sub (ws' := [(h0, .inr (15, mF q 0))]) [0] rfl, hD.sub (ws' := [(h0, .inr (15, mF q 0))]) [0] (by decide) rfl⟩, hS.F ht⟩) hS.2.2 dX12_noContract_19
def w_m_telling : List Cond := .code yX12_telling cX12_telling 6 (some .int) :: ([.fieldLink RX12 9 "SeaLandModel" "world" "[I"] ++ bs)
set_option maxHeartbeats 4000000 in
set_option maxRecDepth 100000 in
theorem m_telling (l : Launch) (dC : Nat → ClassId) (dI : Nat → Nat → Nat) (h0 : Nat) (q : Nat → Nat) (cm : Nat → ClassId) (cn li h : Int32) (sz : Nat) (hcn : vp_in cn 1749) : Met l yX12_telling w_m_telling ({ frames := 0, cells := 0, slots := 0, locals := 0 }) (va_Pc [.ref h0, .int cn, .int li, .int h] (fun U => U.heap.size = sz ∧ va_P (dC, dI) vwCl [(h0, .inr (15, mF q 0)), (q 1, .inl ((cm 1), 1749, .inl (fun _ => 0)))] U.heap ∧ va_K (dC, dI) vwCl [((cm 1), .int)] U ∧ va_D (fun _ => True) [(h0, .inr (15, mF q 0)), (q 1, .inl ((cm 1), 1749, .inl (fun _ => 0)))])) (va_Qi (fun (r : Int32) (u : Unit) => r = -1) (fun (_ : Unit) (t : State) => va_P (dC, dI) vwCl [(h0, .inr (15, mF q 0)), (q 1, .inl ((cm 1), 1749, .inl (fun _ => 0)))] t.heap ∧ va_D (va_A [(h0, .inr (15, mF q 0)), (q 1, .inl ((cm 1), 1749, .inl (fun _ => 0)))] sz) [(h0, .inr (15, mF q 0)), (q 1, .inl ((cm 1), 1749, .inl (fun _ => 0)))]) (va_A [(h0, .inr (15, mF q 0)), (q 1, .inl ((cm 1), 1749, .inl (fun _ => 0)))] sz)) 0 0 (va_A [(h0, .inr (15, mF q 0)), (q 1, .inl ((cm 1), 1749, .inl (fun _ => 0)))] sz) := by
  refine Met.ofW (cc := cX12_telling) (maxL := 6) (ret := (some .int)) (by decide) rfl ?_
  intro p e s m args below meth c s₁ B hml hv
  obtain ⟨rfl, hsz, hP, hK, hD0⟩ := hv
  have hx := B.exec
  have hb := B.bytes
  have hr := B.returns
  have hts := atoms_spec (ws := w_m_telling) B.pre
  have hown : s.vm.findClass RX12 = some m.cls := findClass_of_methodNamed B.named
  have hlocks := B.notSynchronized
  subst hsz
  have hD := hD0.self (sz := s.heap.size)
  generalize hAe : va_A [(h0, .inr (15, mF q 0)), (q 1, .inl ((cm 1), 1749, .inl (fun _ => 0)))] s.heap.size = A at hD ⊢
  have hA : ∀ q : Nat, s.heap.size ≤ q → A q := fun q h => by rw [← hAe]; exact Or.inr h
  have hS : va_S A s.heap s.heap [] := va_S.rf
  have hP : va_P (dC, dI) vwCl [(h0, .inr (15, mF q 0)), (q 1, .inl ((cm 1), 1749, .inl (fun _ => 0)))] s.heap := hP
  have hl := lv_entry ([.ref h0, .int cn, .int li, .int h]) (n := 6) (Nat.le_of_ble_eq_true rfl)
  rw [lg_entry_eq]
  generalize (lg_sl ([.ref h0, .int cn, .int li, .int h]) ++ List.replicate (6 - (lg_sl ([.ref h0, .int cn, .int li, .int h])).length) Slot.unset).toArray = ls at hl ⊢
  have hl : lv_has ls 6 [(0, .ref h0), (1, .int cn), (2, .int li), (3, .int h)] := hl
  refine lv_iconst (v := (-1)) hx hb dX12_telling_0 (by decide) ?_
  refine lv_istore (lv' := [(4, .int (-1)), (0, .ref h0), (1, .int cn), (2, .int li), (3, .int h)]) hx hb dX12_telling_1 hl (by decide) rfl (fun ls hl => ?_)
  refine lv_iload_n hx hb dX12_telling_3 rfl (lv_at hl 3 rfl) ?_
  refine lv_istore (lv' := [(5, .int li), (4, .int (-1)), (0, .ref h0), (1, .int cn), (2, .int li), (3, .int h)]) hx hb dX12_telling_4 hl (by decide) rfl (fun ls hl => ?_)
  refine lv_iload hx hb dX12_telling_6 (lv_at hl 0 rfl) ?_
  refine lv_iload_n hx hb dX12_telling_8 rfl (lv_at hl 4 rfl) ?_
  refine lv_iconst (v := 2) hx hb dX12_telling_9 (by decide) ?_
  refine lv_aload_n hx hb dX12_telling_10 rfl (lv_at hl 2 rfl) ?_
  refine va_get (D := (dC, dI)) (ci := 15) (v := .ref (q 1)) (C := RX12) (T := TX12) (N := 78) hx hb hts bF_X12 hown hK hP 0 rfl rfl 1 (by decide) (ht_at hts 0 rfl) (fun _ h9 => h9) rfl dX12_telling_11 ?_
  refine lv_iload_n hx hb dX12_telling_14 rfl (lv_at hl 3 rfl) ?_
  refine va_iald hx hb hK hP 1 0 rfl rfl hcn dX12_telling_15 ?_
  refine lv_topi (fun x1 ex1 => ?_)
  obtain rfl : 0 = x1 := (ex1).symm
  refine lv_imul hx hb dX12_telling_16 ?_
  refine lv_topi (fun x2 ex2 => ?_)
  obtain rfl : x2 = 0 := ex2.trans (by decide)
  refine lv_iadd hx hb dX12_telling_17 ?_
  refine lv_topi (fun x3 ex3 => ?_)
  refine lv_icmp_ge (tgt := 64) hx hb dX12_telling_18 (by decide) (fun c4 => ?_) (fun c4 => absurd (tell_le ex3) c4)
  refine lv_iload hx hb dX12_telling_64 (lv_at hl 1 rfl) ?_
  exact W.iret (v := (-1)) hx hb hr (fun t ht hW => ⟨⟨(-1), (), rfl, (by rfl), by rw [ht]; exact hP.sub (ws' := [(h0, .inr (15, mF q 0)), (q 1, .inl ((cm 1), 1749, .inl (fun _ => 0)))]) [0, 1] rfl, hD.sub (ws' := [(h0, .inr (15, mF q 0)), (q 1, .inl ((cm 1), 1749, .inl (fun _ => 0)))]) [0, 1] (by decide) rfl⟩, hS.F ht⟩) hS.2.2 dX12_telling_66
def w_m_wind : List Cond := .code yX12_wind cX12_wind 7 (some .int) :: ([.code yX12_telling cX12_telling 6 (some .int), .fieldLink RX12 9 "SeaLandModel" "world" "[I", .methodLink RX12 243 yX12_telling, .instanceMethod yX12_telling, .selects RX12 yX12_telling yX12_telling, .initialized RX12] ++ bs)
set_option maxHeartbeats 4000000 in
set_option maxRecDepth 100000 in
theorem m_wind (l : Launch) (dC : Nat → ClassId) (dI : Nat → Nat → Nat) (h0 : Nat) (q : Nat → Nat) (cm : Nat → ClassId) (h : Int32) (sz : Nat) : Met l yX12_wind w_m_wind ({ frames := 1, cells := 0, slots := 0, locals := 25 }) (va_Pc [.ref h0, .int h] (fun U => U.heap.size = sz ∧ va_P (dC, dI) vwCl [(h0, .inr (15, mF q 0)), (q 1, .inl ((cm 1), 1749, .inl (fun _ => 0)))] U.heap ∧ va_K (dC, dI) vwCl [((cm 1), .int)] U ∧ va_D (fun _ => True) [(h0, .inr (15, mF q 0)), (q 1, .inl ((cm 1), 1749, .inl (fun _ => 0)))])) (va_Qi (fun (r : Int32) (u : Unit) => r = 0) (fun (_ : Unit) (t : State) => va_P (dC, dI) vwCl [(h0, .inr (15, mF q 0)), (q 1, .inl ((cm 1), 1749, .inl (fun _ => 0)))] t.heap ∧ va_D (va_A [(h0, .inr (15, mF q 0)), (q 1, .inl ((cm 1), 1749, .inl (fun _ => 0)))] sz) [(h0, .inr (15, mF q 0)), (q 1, .inl ((cm 1), 1749, .inl (fun _ => 0)))]) (va_A [(h0, .inr (15, mF q 0)), (q 1, .inl ((cm 1), 1749, .inl (fun _ => 0)))] sz)) 0 0 (va_A [(h0, .inr (15, mF q 0)), (q 1, .inl ((cm 1), 1749, .inl (fun _ => 0)))] sz) := by
  refine Met.ofW (cc := cX12_wind) (maxL := 7) (ret := (some .int)) (by decide) rfl ?_
  intro p e s m args below meth c s₁ B hml hv
  obtain ⟨rfl, hsz, hP, hK, hD0⟩ := hv
  have hx := B.exec
  have hb := B.bytes
  have hr := B.returns
  have hts := atoms_spec (ws := w_m_wind) B.pre
  have hown : s.vm.findClass RX12 = some m.cls := findClass_of_methodNamed B.named
  have hlocks := B.notSynchronized
  subst hsz
  have hD := hD0.self (sz := s.heap.size)
  generalize hAe : va_A [(h0, .inr (15, mF q 0)), (q 1, .inl ((cm 1), 1749, .inl (fun _ => 0)))] s.heap.size = A at hD ⊢
  have hA : ∀ q : Nat, s.heap.size ≤ q → A q := fun q h => by rw [← hAe]; exact Or.inr h
  have hS : va_S A s.heap s.heap [] := va_S.rf
  have hP : va_P (dC, dI) vwCl [(h0, .inr (15, mF q 0)), (q 1, .inl ((cm 1), 1749, .inl (fun _ => 0)))] s.heap := hP
  have hl := lv_entry ([.ref h0, .int h]) (n := 7) (Nat.le_of_ble_eq_true rfl)
  rw [lg_entry_eq]
  generalize (lg_sl ([.ref h0, .int h]) ++ List.replicate (7 - (lg_sl ([.ref h0, .int h])).length) Slot.unset).toArray = ls at hl ⊢
  have hl : lv_has ls 7 [(0, .ref h0), (1, .int h)] := hl
  refine lv_aload_n hx hb dX12_wind_0 rfl (lv_at hl 0 rfl) ?_
  refine lv_sipush (v := 1503) hx hb dX12_wind_1 (by decide) ?_
  refine lv_sipush (v := 1504) hx hb dX12_wind_4 (by decide) ?_
  refine lv_iload_n hx hb dX12_wind_7 rfl (lv_at hl 1 rfl) ?_
  have hPc := hP.sub (ws' := [(h0, .inr (15, mF q 0)), (q 1, .inl ((cm 1), 1749, .inl (fun _ => 0)))]) [0, 1] rfl
  have hDc := hD.sub (ws' := [(h0, .inr (15, mF q 0)), (q 1, .inl ((cm 1), 1749, .inl (fun _ => 0)))]) [0, 1] (by decide) rfl
  have hKc := hK.sub (tys' := [((cm 1), .int)]) [0] rfl
  have hFc := va_free (wc := [(h0, .inr (15, mF q 0)), (q 1, .inl ((cm 1), 1749, .inl (fun _ => 0)))]) hD hS hA [0, 1] rfl
  refine va_calli (va_runV (As := [.int 1503, .int 1504, .int h]) (rest := []) ⟨hx, hb, hml, hown, hts⟩ (m_telling l dC dI h0 q cm 1503 1504 h s.heap.size (by unfold vp_in; decide)) (cwV 3 hts (goodIn_app (goodIn_r _ [3, 4, 5, 6] (by decide +kernel) (by decide +kernel)) (goodIn_ca (goodIn_r _ [1, 2] (by decide +kernel) (by decide +kernel)) (bs_in _ _))) rfl rfl rfl (by decide +kernel) ⟨(Nat.le_of_ble_eq_true rfl), (Nat.le_of_ble_eq_true rfl)⟩) ⟨fun a U g mk q => by obtain ⟨q0, q1, qP, qK, qD⟩ := q; exact ⟨q0, q1, qP, va_K.moved (u := U) (U := U.calling g mk a) (Vm.Alike.refl U.vm) qK, qD⟩, va_recv hKc hPc (ci := 15) (q0 := 0) rfl rfl, fun U hU hW => ⟨rfl, by rw [hU], by rw [hU]; exact hPc, va_K.moved hW.alike hKc, hDc.weaken (fun _ _ _ _ => trivial)⟩⟩ rfl rfl hl.1 rfl (lv_room (Nat.le_of_ble_eq_true rfl)) dX12_wind_8 ⟨(Nat.le_of_ble_eq_true rfl), (Nat.le_of_ble_eq_true rfl)⟩) hS (fun q _ h => hFc q h) hFc (fun r2 u t H1 locs ht hvm hw3 hB hz1 hk1 hS => ?_)
  obtain ⟨hP1, hD1⟩ := hB
  rw [ht] at hP1
  obtain ⟨hP, hD⟩ := va_join (wr := []) (w1 := [(h0, .inr (15, mF q 0)), (q 1, .inl ((cm 1), 1749, .inl (fun _ => 0)))]) hP hD [0, 1] [] rfl rfl (by decide) (by decide) hk1 hFc hP1 hD1
  generalize H1 = H at hP hS ⊢
  have hP : va_P (dC, dI) vwCl [(h0, .inr (15, mF q 0)), (q 1, .inl ((cm 1), 1749, .inl (fun _ => 0)))] H := hP
  have hD : va_D A [(h0, .inr (15, mF q 0)), (q 1, .inl ((cm 1), 1749, .inl (fun _ => 0)))] := hD
  try dsimp only at hw3
  obtain rfl : (-1) = r2 := (hw3).symm
  refine lv_istore_n (lv' := [(2, .int (-1)), (0, .ref h0), (1, .int h)]) hx hb dX12_wind_11 rfl hl (by decide) rfl (fun ls hl => ?_)
  refine lv_iload_n hx hb dX12_wind_12 rfl (lv_at hl 0 rfl) ?_
  refine lv_if_ge (tgt := 18) hx hb dX12_wind_13 (by decide) (fun c4 => absurd c4 (by decide)) (fun c4 => ?_)
  refine lv_iconst (v := 0) hx hb dX12_wind_16 (by decide) ?_
  exact W.iret (v := 0) hx hb hr (fun t ht hW => ⟨⟨0, (), rfl, (by rfl), by rw [ht]; exact hP.sub (ws' := [(h0, .inr (15, mF q 0)), (q 1, .inl ((cm 1), 1749, .inl (fun _ => 0)))]) [0, 1] rfl, hD.sub (ws' := [(h0, .inr (15, mF q 0)), (q 1, .inl ((cm 1), 1749, .inl (fun _ => 0)))]) [0, 1] (by decide) rfl⟩, hS.F ht⟩) hS.2.2 dX12_wind_17
def w_m_rain : List Cond := .code yX12_rain cX12_rain 3 (some .int) :: ([.code yX12_telling cX12_telling 6 (some .int), .fieldLink RX12 9 "SeaLandModel" "world" "[I", .methodLink RX12 243 yX12_telling, .instanceMethod yX12_telling, .selects RX12 yX12_telling yX12_telling, .initialized RX12] ++ bs)
set_option maxHeartbeats 4000000 in
set_option maxRecDepth 100000 in
theorem m_rain (l : Launch) (dC : Nat → ClassId) (dI : Nat → Nat → Nat) (h0 : Nat) (q : Nat → Nat) (cm : Nat → ClassId) (h : Int32) (sz : Nat) : Met l yX12_rain w_m_rain ({ frames := 1, cells := 0, slots := 0, locals := 25 }) (va_Pc [.ref h0, .int h] (fun U => U.heap.size = sz ∧ va_P (dC, dI) vwCl [(h0, .inr (15, mF q 0)), (q 1, .inl ((cm 1), 1749, .inl (fun _ => 0)))] U.heap ∧ va_K (dC, dI) vwCl [((cm 1), .int)] U ∧ va_D (fun _ => True) [(h0, .inr (15, mF q 0)), (q 1, .inl ((cm 1), 1749, .inl (fun _ => 0)))])) (va_Qi (fun (r : Int32) (u : Unit) => r = 0) (fun (_ : Unit) (t : State) => va_P (dC, dI) vwCl [(h0, .inr (15, mF q 0)), (q 1, .inl ((cm 1), 1749, .inl (fun _ => 0)))] t.heap ∧ va_D (va_A [(h0, .inr (15, mF q 0)), (q 1, .inl ((cm 1), 1749, .inl (fun _ => 0)))] sz) [(h0, .inr (15, mF q 0)), (q 1, .inl ((cm 1), 1749, .inl (fun _ => 0)))]) (va_A [(h0, .inr (15, mF q 0)), (q 1, .inl ((cm 1), 1749, .inl (fun _ => 0)))] sz)) 0 0 (va_A [(h0, .inr (15, mF q 0)), (q 1, .inl ((cm 1), 1749, .inl (fun _ => 0)))] sz) := by
  refine Met.ofW (cc := cX12_rain) (maxL := 3) (ret := (some .int)) (by decide) rfl ?_
  intro p e s m args below meth c s₁ B hml hv
  obtain ⟨rfl, hsz, hP, hK, hD0⟩ := hv
  have hx := B.exec
  have hb := B.bytes
  have hr := B.returns
  have hts := atoms_spec (ws := w_m_rain) B.pre
  have hown : s.vm.findClass RX12 = some m.cls := findClass_of_methodNamed B.named
  have hlocks := B.notSynchronized
  subst hsz
  have hD := hD0.self (sz := s.heap.size)
  generalize hAe : va_A [(h0, .inr (15, mF q 0)), (q 1, .inl ((cm 1), 1749, .inl (fun _ => 0)))] s.heap.size = A at hD ⊢
  have hA : ∀ q : Nat, s.heap.size ≤ q → A q := fun q h => by rw [← hAe]; exact Or.inr h
  have hS : va_S A s.heap s.heap [] := va_S.rf
  have hP : va_P (dC, dI) vwCl [(h0, .inr (15, mF q 0)), (q 1, .inl ((cm 1), 1749, .inl (fun _ => 0)))] s.heap := hP
  have hl := lv_entry ([.ref h0, .int h]) (n := 3) (Nat.le_of_ble_eq_true rfl)
  rw [lg_entry_eq]
  generalize (lg_sl ([.ref h0, .int h]) ++ List.replicate (3 - (lg_sl ([.ref h0, .int h])).length) Slot.unset).toArray = ls at hl ⊢
  have hl : lv_has ls 3 [(0, .ref h0), (1, .int h)] := hl
  refine lv_aload_n hx hb dX12_rain_0 rfl (lv_at hl 0 rfl) ?_
  refine lv_sipush (v := 1624) hx hb dX12_rain_1 (by decide) ?_
  refine lv_sipush (v := 1625) hx hb dX12_rain_4 (by decide) ?_
  refine lv_iload_n hx hb dX12_rain_7 rfl (lv_at hl 1 rfl) ?_
  have hPc := hP.sub (ws' := [(h0, .inr (15, mF q 0)), (q 1, .inl ((cm 1), 1749, .inl (fun _ => 0)))]) [0, 1] rfl
  have hDc := hD.sub (ws' := [(h0, .inr (15, mF q 0)), (q 1, .inl ((cm 1), 1749, .inl (fun _ => 0)))]) [0, 1] (by decide) rfl
  have hKc := hK.sub (tys' := [((cm 1), .int)]) [0] rfl
  have hFc := va_free (wc := [(h0, .inr (15, mF q 0)), (q 1, .inl ((cm 1), 1749, .inl (fun _ => 0)))]) hD hS hA [0, 1] rfl
  refine va_calli (va_runV (As := [.int 1624, .int 1625, .int h]) (rest := []) ⟨hx, hb, hml, hown, hts⟩ (m_telling l dC dI h0 q cm 1624 1625 h s.heap.size (by unfold vp_in; decide)) (cwV 3 hts (goodIn_app (goodIn_r _ [3, 4, 5, 6] (by decide +kernel) (by decide +kernel)) (goodIn_ca (goodIn_r _ [1, 2] (by decide +kernel) (by decide +kernel)) (bs_in _ _))) rfl rfl rfl (by decide +kernel) ⟨(Nat.le_of_ble_eq_true rfl), (Nat.le_of_ble_eq_true rfl)⟩) ⟨fun a U g mk q => by obtain ⟨q0, q1, qP, qK, qD⟩ := q; exact ⟨q0, q1, qP, va_K.moved (u := U) (U := U.calling g mk a) (Vm.Alike.refl U.vm) qK, qD⟩, va_recv hKc hPc (ci := 15) (q0 := 0) rfl rfl, fun U hU hW => ⟨rfl, by rw [hU], by rw [hU]; exact hPc, va_K.moved hW.alike hKc, hDc.weaken (fun _ _ _ _ => trivial)⟩⟩ rfl rfl hl.1 rfl (lv_room (Nat.le_of_ble_eq_true rfl)) dX12_rain_8 ⟨(Nat.le_of_ble_eq_true rfl), (Nat.le_of_ble_eq_true rfl)⟩) hS (fun q _ h => hFc q h) hFc (fun r2 u t H1 locs ht hvm hw3 hB hz1 hk1 hS => ?_)
  obtain ⟨hP1, hD1⟩ := hB
  rw [ht] at hP1
  obtain ⟨hP, hD⟩ := va_join (wr := []) (w1 := [(h0, .inr (15, mF q 0)), (q 1, .inl ((cm 1), 1749, .inl (fun _ => 0)))]) hP hD [0, 1] [] rfl rfl (by decide) (by decide) hk1 hFc hP1 hD1
  generalize H1 = H at hP hS ⊢
  have hP : va_P (dC, dI) vwCl [(h0, .inr (15, mF q 0)), (q 1, .inl ((cm 1), 1749, .inl (fun _ => 0)))] H := hP
  have hD : va_D A [(h0, .inr (15, mF q 0)), (q 1, .inl ((cm 1), 1749, .inl (fun _ => 0)))] := hD
  try dsimp only at hw3
  obtain rfl : (-1) = r2 := (hw3).symm
  refine lv_istore_n (lv' := [(2, .int (-1)), (0, .ref h0), (1, .int h)]) hx hb dX12_rain_11 rfl hl (by decide) rfl (fun ls hl => ?_)
  refine lv_iload_n hx hb dX12_rain_12 rfl (lv_at hl 0 rfl) ?_
  refine lv_if_ge (tgt := 20) hx hb dX12_rain_13 (by decide) (fun c4 => absurd c4 (by decide)) (fun c4 => ?_)
  refine lv_iconst (v := 0) hx hb dX12_rain_16 (by decide) ?_
  refine lv_goto (tgt := 28) hx hb dX12_rain_17 (by decide) ?_
  exact W.iret (v := 0) hx hb hr (fun t ht hW => ⟨⟨0, (), rfl, (by rfl), by rw [ht]; exact hP.sub (ws' := [(h0, .inr (15, mF q 0)), (q 1, .inl ((cm 1), 1749, .inl (fun _ => 0)))]) [0, 1] rfl, hD.sub (ws' := [(h0, .inr (15, mF q 0)), (q 1, .inl ((cm 1), 1749, .inl (fun _ => 0)))]) [0, 1] (by decide) rfl⟩, hS.F ht⟩) hS.2.2 dX12_rain_28
def w_m_outside : List Cond := .code yX12_outside cX12_outside 4 (some .int) :: ([.fieldLink RX12 9 "SeaLandModel" "world" "[I"] ++ bs)
set_option maxHeartbeats 4000000 in
set_option maxRecDepth 100000 in
theorem m_outside (l : Launch) (dC : Nat → ClassId) (dI : Nat → Nat → Nat) (h0 : Nat) (q : Nat → Nat) (cm : Nat → ClassId) (h : Int32) (sz : Nat) (hh0 : 0 ≤ h) : Met l yX12_outside w_m_outside ({ frames := 0, cells := 0, slots := 0, locals := 0 }) (va_Pc [.ref h0, .int h] (fun U => U.heap.size = sz ∧ va_P (dC, dI) vwCl [(h0, .inr (15, mF q 0)), (q 1, .inl ((cm 1), 1749, .inl (fun _ => 0)))] U.heap ∧ va_K (dC, dI) vwCl [((cm 1), .int)] U ∧ va_D (fun _ => True) [(h0, .inr (15, mF q 0)), (q 1, .inl ((cm 1), 1749, .inl (fun _ => 0)))])) (va_Qi (fun (r : Int32) (u : Unit) => r = 0) (fun (_ : Unit) (t : State) => va_P (dC, dI) vwCl [(h0, .inr (15, mF q 0)), (q 1, .inl ((cm 1), 1749, .inl (fun _ => 0)))] t.heap ∧ va_D (va_A [(h0, .inr (15, mF q 0)), (q 1, .inl ((cm 1), 1749, .inl (fun _ => 0)))] sz) [(h0, .inr (15, mF q 0)), (q 1, .inl ((cm 1), 1749, .inl (fun _ => 0)))]) (va_A [(h0, .inr (15, mF q 0)), (q 1, .inl ((cm 1), 1749, .inl (fun _ => 0)))] sz)) 0 0 (va_A [(h0, .inr (15, mF q 0)), (q 1, .inl ((cm 1), 1749, .inl (fun _ => 0)))] sz) := by
  refine Met.ofW (cc := cX12_outside) (maxL := 4) (ret := (some .int)) (by decide) rfl ?_
  intro p e s m args below meth c s₁ B hml hv
  obtain ⟨rfl, hsz, hP, hK, hD0⟩ := hv
  have hx := B.exec
  have hb := B.bytes
  have hr := B.returns
  have hts := atoms_spec (ws := w_m_outside) B.pre
  have hown : s.vm.findClass RX12 = some m.cls := findClass_of_methodNamed B.named
  have hlocks := B.notSynchronized
  subst hsz
  have hD := hD0.self (sz := s.heap.size)
  generalize hAe : va_A [(h0, .inr (15, mF q 0)), (q 1, .inl ((cm 1), 1749, .inl (fun _ => 0)))] s.heap.size = A at hD ⊢
  have hA : ∀ q : Nat, s.heap.size ≤ q → A q := fun q h => by rw [← hAe]; exact Or.inr h
  have hS : va_S A s.heap s.heap [] := va_S.rf
  have hP : va_P (dC, dI) vwCl [(h0, .inr (15, mF q 0)), (q 1, .inl ((cm 1), 1749, .inl (fun _ => 0)))] s.heap := hP
  have hl := lv_entry ([.ref h0, .int h]) (n := 4) (Nat.le_of_ble_eq_true rfl)
  rw [lg_entry_eq]
  generalize (lg_sl ([.ref h0, .int h]) ++ List.replicate (4 - (lg_sl ([.ref h0, .int h])).length) Slot.unset).toArray = ls at hl ⊢
  have hl : lv_has ls 4 [(0, .ref h0), (1, .int h)] := hl
  refine lv_aload_n hx hb dX12_outside_0 rfl (lv_at hl 0 rfl) ?_
  refine va_get (D := (dC, dI)) (ci := 15) (v := .ref (q 1)) (C := RX12) (T := TX12) (N := 78) hx hb hts bF_X12 hown hK hP 0 rfl rfl 1 (by decide) (ht_at hts 0 rfl) (fun _ h9 => h9) rfl dX12_outside_1 ?_
  refine lv_sipush (v := 1430) hx hb dX12_outside_4 (by decide) ?_
  refine lv_iload_n hx hb dX12_outside_7 rfl (lv_at hl 1 rfl) ?_
  refine lv_bipush (v := 12) hx hb dX12_outside_8 (by decide) ?_
  refine lv_irem hx hb dX12_outside_10 (by decide) ?_
  refine lv_topi (fun x1 ex1 => ?_)
  refine lv_iadd hx hb dX12_outside_11 ?_
  refine lv_topi (fun x2 ex2 => ?_)
  refine va_iald hx hb hK hP 1 0 rfl rfl (by rw [ex2]; exact vin_add (mod12 hh0 ex1) (by decide) (by decide) (by decide)) dX12_outside_12 ?_
  refine lv_topi (fun x3 ex3 => ?_)
  obtain rfl : 0 = x3 := (ex3).symm
  refine lv_istore_n (lv' := [(2, .int 0), (0, .ref h0), (1, .int h)]) hx hb dX12_outside_13 rfl hl (by decide) rfl (fun ls hl => ?_)
  refine lv_sipush (v := 1443) hx hb dX12_outside_14 (by decide) ?_
  refine lv_istore_n (lv' := [(3, .int 1443), (2, .int 0), (0, .ref h0), (1, .int h)]) hx hb dX12_outside_17 rfl hl (by decide) rfl (fun ls hl => ?_)
  refine lv_iload_n hx hb dX12_outside_18 rfl (lv_at hl 0 rfl) ?_
  refine lv_sipush (v := 1443) hx hb dX12_outside_19 (by decide) ?_
  refine lv_iconst (v := 3) hx hb dX12_outside_22 (by decide) ?_
  refine lv_aload_n hx hb dX12_outside_23 rfl (lv_at hl 2 rfl) ?_
  refine va_get (D := (dC, dI)) (ci := 15) (v := .ref (q 1)) (C := RX12) (T := TX12) (N := 78) hx hb hts bF_X12 hown hK hP 0 rfl rfl 1 (by decide) (ht_at hts 0 rfl) (fun _ h9 => h9) rfl dX12_outside_24 ?_
  refine lv_sipush (v := 1442) hx hb dX12_outside_27 (by decide) ?_
  refine va_iald hx hb hK hP 1 0 rfl rfl (by unfold vp_in; decide) dX12_outside_30 ?_
  refine lv_topi (fun x4 ex4 => ?_)
  obtain rfl : 0 = x4 := (ex4).symm
  refine lv_imul hx hb dX12_outside_31 ?_
  refine lv_topi (fun x5 ex5 => ?_)
  obtain rfl : x5 = 0 := ex5.trans (by decide)
  refine lv_iadd hx hb dX12_outside_32 ?_
  refine lv_topi (fun x6 ex6 => ?_)
  obtain rfl : x6 = 1443 := ex6.trans (by decide)
  refine lv_icmp_ge (tgt := 78) hx hb dX12_outside_33 (by decide) (fun c7 => ?_) (fun c7 => absurd c7 (by decide))
  refine lv_iload_n hx hb dX12_outside_78 rfl (lv_at hl 1 rfl) ?_
  exact W.iret (v := 0) hx hb hr (fun t ht hW => ⟨⟨0, (), rfl, (by rfl), by rw [ht]; exact hP.sub (ws' := [(h0, .inr (15, mF q 0)), (q 1, .inl ((cm 1), 1749, .inl (fun _ => 0)))]) [0, 1] rfl, hD.sub (ws' := [(h0, .inr (15, mF q 0)), (q 1, .inl ((cm 1), 1749, .inl (fun _ => 0)))]) [0, 1] (by decide) rfl⟩, hS.F ht⟩) hS.2.2 dX12_outside_79
def w_m_lastOf : List Cond := .code yX12_lastOf cX12_lastOf 5 (some .int) :: ([.fieldLink RX12 42 "SeaLandModel" "lines" "[I"] ++ bs)
set_option maxHeartbeats 4000000 in
set_option maxRecDepth 100000 in
theorem m_lastOf (l : Launch) (dC : Nat → ClassId) (dI : Nat → Nat → Nat) (h0 : Nat) (q : Nat → Nat) (cm : Nat → ClassId) (kd wo : Int32) (sz : Nat) : Met l yX12_lastOf w_m_lastOf ({ frames := 0, cells := 0, slots := 0, locals := 0 }) (va_Pc [.ref h0, .int kd, .int wo] (fun U => U.heap.size = sz ∧ va_P (dC, dI) vwCl [(h0, .inr (15, mF q 0)), (q 18, .inl ((cm 18), 3, .inl (fun _ => 0)))] U.heap ∧ va_K (dC, dI) vwCl [((cm 18), .int)] U ∧ va_D (fun _ => True) [(h0, .inr (15, mF q 0)), (q 18, .inl ((cm 18), 3, .inl (fun _ => 0)))])) (va_Qi (fun (r : Int32) (u : Unit) => r = wo) (fun (_ : Unit) (t : State) => va_P (dC, dI) vwCl [(h0, .inr (15, mF q 0)), (q 18, .inl ((cm 18), 3, .inl (fun _ => 0)))] t.heap ∧ va_D (va_A [(h0, .inr (15, mF q 0)), (q 18, .inl ((cm 18), 3, .inl (fun _ => 0)))] sz) [(h0, .inr (15, mF q 0)), (q 18, .inl ((cm 18), 3, .inl (fun _ => 0)))]) (va_A [(h0, .inr (15, mF q 0)), (q 18, .inl ((cm 18), 3, .inl (fun _ => 0)))] sz)) 0 0 (va_A [(h0, .inr (15, mF q 0)), (q 18, .inl ((cm 18), 3, .inl (fun _ => 0)))] sz) := by
  refine Met.ofW (cc := cX12_lastOf) (maxL := 5) (ret := (some .int)) (by decide) rfl ?_
  intro p e s m args below meth c s₁ B hml hv
  obtain ⟨rfl, hsz, hP, hK, hD0⟩ := hv
  have hx := B.exec
  have hb := B.bytes
  have hr := B.returns
  have hts := atoms_spec (ws := w_m_lastOf) B.pre
  have hown : s.vm.findClass RX12 = some m.cls := findClass_of_methodNamed B.named
  have hlocks := B.notSynchronized
  subst hsz
  have hD := hD0.self (sz := s.heap.size)
  generalize hAe : va_A [(h0, .inr (15, mF q 0)), (q 18, .inl ((cm 18), 3, .inl (fun _ => 0)))] s.heap.size = A at hD ⊢
  have hA : ∀ q : Nat, s.heap.size ≤ q → A q := fun q h => by rw [← hAe]; exact Or.inr h
  have hS : va_S A s.heap s.heap [] := va_S.rf
  have hP : va_P (dC, dI) vwCl [(h0, .inr (15, mF q 0)), (q 18, .inl ((cm 18), 3, .inl (fun _ => 0)))] s.heap := hP
  have hl := lv_entry ([.ref h0, .int kd, .int wo]) (n := 5) (Nat.le_of_ble_eq_true rfl)
  rw [lg_entry_eq]
  generalize (lg_sl ([.ref h0, .int kd, .int wo]) ++ List.replicate (5 - (lg_sl ([.ref h0, .int kd, .int wo])).length) Slot.unset).toArray = ls at hl ⊢
  have hl : lv_has ls 5 [(0, .ref h0), (1, .int kd), (2, .int wo)] := hl
  refine lv_iload_n hx hb dX12_lastOf_0 rfl (lv_at hl 2 rfl) ?_
  refine lv_istore_n (lv' := [(3, .int wo), (0, .ref h0), (1, .int kd), (2, .int wo)]) hx hb dX12_lastOf_1 rfl hl (by decide) rfl (fun ls hl => ?_)
  refine lv_iconst (v := 0) hx hb dX12_lastOf_2 (by decide) ?_
  refine lv_istore (lv' := [(4, .int 0), (3, .int wo), (0, .ref h0), (1, .int kd), (2, .int wo)]) hx hb dX12_lastOf_3 hl (by decide) rfl (fun ls hl => ?_)
  refine lv_iload hx hb dX12_lastOf_5 (lv_at hl 0 rfl) ?_
  refine lv_aload_n hx hb dX12_lastOf_7 rfl (lv_at hl 2 rfl) ?_
  refine va_get (D := (dC, dI)) (ci := 15) (v := .ref (q 18)) (C := RX12) (T := TX12) (N := 78) hx hb hts bF_X12 hown hK hP 0 rfl rfl 18 (by decide) (ht_at hts 0 rfl) (fun _ h9 => h9) rfl dX12_lastOf_8 ?_
  refine lv_iconst (v := 0) hx hb dX12_lastOf_11 (by decide) ?_
  refine va_iald hx hb hK hP 1 0 rfl rfl (by unfold vp_in; decide) dX12_lastOf_12 ?_
  refine lv_topi (fun x1 ex1 => ?_)
  obtain rfl : 0 = x1 := (ex1).symm
  refine lv_icmp_ge (tgt := 41) hx hb dX12_lastOf_13 (by decide) (fun c2 => ?_) (fun c2 => absurd c2 (by decide))
  refine lv_iload_n hx hb dX12_lastOf_41 rfl (lv_at hl 1 rfl) ?_
  exact W.iret (v := wo) hx hb hr (fun t ht hW => ⟨⟨wo, (), rfl, (by rfl), by rw [ht]; exact hP.sub (ws' := [(h0, .inr (15, mF q 0)), (q 18, .inl ((cm 18), 3, .inl (fun _ => 0)))]) [0, 1] rfl, hD.sub (ws' := [(h0, .inr (15, mF q 0)), (q 18, .inl ((cm 18), 3, .inl (fun _ => 0)))]) [0, 1] (by decide) rfl⟩, hS.F ht⟩) hS.2.2 dX12_lastOf_42
def w_m_mayBuildOn : List Cond := .code yX12_mayBuildOn cX12_mayBuildOn 5 (some .boolean) :: ([.code yX12_lastOf cX12_lastOf 5 (some .int), .fieldLink RX12 42 "SeaLandModel" "lines" "[I", .methodLink RX12 492 yX12_lastOf, .instanceMethod yX12_lastOf, .selects RX12 yX12_lastOf yX12_lastOf, .initialized RX12, .fieldLink RX12 9 "SeaLandModel" "world" "[I"] ++ bs)
set_option maxHeartbeats 4000000 in
set_option maxRecDepth 100000 in
theorem m_mayBuildOn (l : Launch) (dC : Nat → ClassId) (dI : Nat → Nat → Nat) (h0 : Nat) (q : Nat → Nat) (cm : Nat → ClassId) (sq : Int32) (sz : Nat) : Met l yX12_mayBuildOn w_m_mayBuildOn ({ frames := 1, cells := 0, slots := 0, locals := 24 }) (va_Pc [.ref h0, .int sq] (fun U => U.heap.size = sz ∧ va_P (dC, dI) vwCl [(h0, .inr (15, mF q 0)), (q 1, .inl ((cm 1), 1749, .inl (fun _ => 0))), (q 18, .inl ((cm 18), 3, .inl (fun _ => 0)))] U.heap ∧ va_K (dC, dI) vwCl [((cm 1), .int), ((cm 18), .int)] U ∧ va_D (fun _ => True) [(h0, .inr (15, mF q 0)), (q 1, .inl ((cm 1), 1749, .inl (fun _ => 0))), (q 18, .inl ((cm 18), 3, .inl (fun _ => 0)))])) (va_Qi (fun (r : Int32) (u : Unit) => r = 1) (fun (_ : Unit) (t : State) => va_P (dC, dI) vwCl [(h0, .inr (15, mF q 0)), (q 1, .inl ((cm 1), 1749, .inl (fun _ => 0))), (q 18, .inl ((cm 18), 3, .inl (fun _ => 0)))] t.heap ∧ va_D (va_A [(h0, .inr (15, mF q 0)), (q 1, .inl ((cm 1), 1749, .inl (fun _ => 0))), (q 18, .inl ((cm 18), 3, .inl (fun _ => 0)))] sz) [(h0, .inr (15, mF q 0)), (q 1, .inl ((cm 1), 1749, .inl (fun _ => 0))), (q 18, .inl ((cm 18), 3, .inl (fun _ => 0)))]) (va_A [(h0, .inr (15, mF q 0)), (q 1, .inl ((cm 1), 1749, .inl (fun _ => 0))), (q 18, .inl ((cm 18), 3, .inl (fun _ => 0)))] sz)) 0 0 (va_A [(h0, .inr (15, mF q 0)), (q 1, .inl ((cm 1), 1749, .inl (fun _ => 0))), (q 18, .inl ((cm 18), 3, .inl (fun _ => 0)))] sz) := by
  refine Met.ofW (cc := cX12_mayBuildOn) (maxL := 5) (ret := (some .boolean)) (by decide) rfl ?_
  intro p e s m args below meth c s₁ B hml hv
  obtain ⟨rfl, hsz, hP, hK, hD0⟩ := hv
  have hx := B.exec
  have hb := B.bytes
  have hr := B.returns
  have hts := atoms_spec (ws := w_m_mayBuildOn) B.pre
  have hown : s.vm.findClass RX12 = some m.cls := findClass_of_methodNamed B.named
  have hlocks := B.notSynchronized
  subst hsz
  have hD := hD0.self (sz := s.heap.size)
  generalize hAe : va_A [(h0, .inr (15, mF q 0)), (q 1, .inl ((cm 1), 1749, .inl (fun _ => 0))), (q 18, .inl ((cm 18), 3, .inl (fun _ => 0)))] s.heap.size = A at hD ⊢
  have hA : ∀ q : Nat, s.heap.size ≤ q → A q := fun q h => by rw [← hAe]; exact Or.inr h
  have hS : va_S A s.heap s.heap [] := va_S.rf
  have hP : va_P (dC, dI) vwCl [(h0, .inr (15, mF q 0)), (q 1, .inl ((cm 1), 1749, .inl (fun _ => 0))), (q 18, .inl ((cm 18), 3, .inl (fun _ => 0)))] s.heap := hP
  have hl := lv_entry ([.ref h0, .int sq]) (n := 5) (Nat.le_of_ble_eq_true rfl)
  rw [lg_entry_eq]
  generalize (lg_sl ([.ref h0, .int sq]) ++ List.replicate (5 - (lg_sl ([.ref h0, .int sq])).length) Slot.unset).toArray = ls at hl ⊢
  have hl : lv_has ls 5 [(0, .ref h0), (1, .int sq)] := hl
  refine lv_aload_n hx hb dX12_mayBuildOn_0 rfl (lv_at hl 0 rfl) ?_
  refine lv_bipush (v := 9) hx hb dX12_mayBuildOn_1 (by decide) ?_
  refine lv_iconst (v := 0) hx hb dX12_mayBuildOn_3 (by decide) ?_
  have hPc := hP.sub (ws' := [(h0, .inr (15, mF q 0)), (q 18, .inl ((cm 18), 3, .inl (fun _ => 0)))]) [0, 2] rfl
  have hDc := hD.sub (ws' := [(h0, .inr (15, mF q 0)), (q 18, .inl ((cm 18), 3, .inl (fun _ => 0)))]) [0, 2] (by decide) rfl
  have hKc := hK.sub (tys' := [((cm 18), .int)]) [1] rfl
  have hFc := va_free (wc := [(h0, .inr (15, mF q 0)), (q 18, .inl ((cm 18), 3, .inl (fun _ => 0)))]) hD hS hA [0, 2] rfl
  refine va_calli (va_runV (As := [.int 9, .int 0]) (rest := []) ⟨hx, hb, hml, hown, hts⟩ (m_lastOf l dC dI h0 q cm 9 0 s.heap.size ) (cwV 2 hts (goodIn_app (goodIn_r _ [3, 4, 5, 6] (by decide +kernel) (by decide +kernel)) (goodIn_ca (goodIn_r _ [1, 2] (by decide +kernel) (by decide +kernel)) (bs_in _ _))) rfl rfl rfl (by decide +kernel) ⟨(Nat.le_of_ble_eq_true rfl), (Nat.le_of_ble_eq_true rfl)⟩) ⟨fun a U g mk q => by obtain ⟨q0, q1, qP, qK, qD⟩ := q; exact ⟨q0, q1, qP, va_K.moved (u := U) (U := U.calling g mk a) (Vm.Alike.refl U.vm) qK, qD⟩, va_recv hKc hPc (ci := 15) (q0 := 0) rfl rfl, fun U hU hW => ⟨rfl, by rw [hU], by rw [hU]; exact hPc, va_K.moved hW.alike hKc, hDc.weaken (fun _ _ _ _ => trivial)⟩⟩ rfl rfl hl.1 rfl (lv_room (Nat.le_of_ble_eq_true rfl)) dX12_mayBuildOn_4 ⟨(Nat.le_of_ble_eq_true rfl), (Nat.le_of_ble_eq_true rfl)⟩) hS (fun q _ h => hFc q h) hFc (fun r2 u t H1 locs ht hvm hw3 hB hz1 hk1 hS => ?_)
  obtain ⟨hP1, hD1⟩ := hB
  rw [ht] at hP1
  obtain ⟨hP, hD⟩ := va_join (wr := [(q 1, .inl ((cm 1), 1749, .inl (fun _ => 0)))]) (w1 := [(h0, .inr (15, mF q 0)), (q 18, .inl ((cm 18), 3, .inl (fun _ => 0)))]) hP hD [0, 2] [1] rfl rfl (by decide) (by decide) hk1 hFc hP1 hD1
  generalize H1 = H at hP hS ⊢
  have hP : va_P (dC, dI) vwCl [(q 1, .inl ((cm 1), 1749, .inl (fun _ => 0))), (h0, .inr (15, mF q 0)), (q 18, .inl ((cm 18), 3, .inl (fun _ => 0)))] H := hP
  have hD : va_D A [(q 1, .inl ((cm 1), 1749, .inl (fun _ => 0))), (h0, .inr (15, mF q 0)), (q 18, .inl ((cm 18), 3, .inl (fun _ => 0)))] := hD
  try dsimp only at hw3
  obtain rfl : 0 = r2 := (hw3).symm
  refine lv_istore_n (lv' := [(2, .int 0), (0, .ref h0), (1, .int sq)]) hx hb dX12_mayBuildOn_7 rfl hl (by decide) rfl (fun ls hl => ?_)
  refine lv_iconst (v := 1) hx hb dX12_mayBuildOn_8 (by decide) ?_
  refine lv_istore_n (lv' := [(3, .int 1), (2, .int 0), (0, .ref h0), (1, .int sq)]) hx hb dX12_mayBuildOn_9 rfl hl (by decide) rfl (fun ls hl => ?_)
  refine lv_iconst (v := 0) hx hb dX12_mayBuildOn_10 (by decide) ?_
  refine lv_istore (lv' := [(4, .int 0), (3, .int 1), (2, .int 0), (0, .ref h0), (1, .int sq)]) hx hb dX12_mayBuildOn_11 hl (by decide) rfl (fun ls hl => ?_)
  refine lv_iload hx hb dX12_mayBuildOn_13 (lv_at hl 0 rfl) ?_
  refine lv_aload_n hx hb dX12_mayBuildOn_15 rfl (lv_at hl 3 rfl) ?_
  refine va_get (D := (dC, dI)) (ci := 15) (v := .ref (q 1)) (C := RX12) (T := TX12) (N := 78) hx hb hts bF_X12 hown hK hP 1 rfl rfl 1 (by decide) (ht_at hts 6 rfl) (fun _ h9 => h9) rfl dX12_mayBuildOn_16 ?_
  refine lv_sipush (v := 1428) hx hb dX12_mayBuildOn_19 (by decide) ?_
  refine va_iald hx hb hK hP 0 0 rfl rfl (by unfold vp_in; decide) dX12_mayBuildOn_22 ?_
  refine lv_topi (fun x4 ex4 => ?_)
  obtain rfl : 0 = x4 := (ex4).symm
  refine lv_icmp_ge (tgt := 66) hx hb dX12_mayBuildOn_23 (by decide) (fun c5 => ?_) (fun c5 => absurd c5 (by decide))
  refine lv_iload_n hx hb dX12_mayBuildOn_66 rfl (lv_at hl 1 rfl) ?_
  exact W.zret (v := 1) hx hb hr (by decide) (fun t ht hW => ⟨⟨1, (), rfl, (by rfl), by rw [ht]; exact hP.sub (ws' := [(h0, .inr (15, mF q 0)), (q 1, .inl ((cm 1), 1749, .inl (fun _ => 0))), (q 18, .inl ((cm 18), 3, .inl (fun _ => 0)))]) [1, 0, 2] rfl, hD.sub (ws' := [(h0, .inr (15, mF q 0)), (q 1, .inl ((cm 1), 1749, .inl (fun _ => 0))), (q 18, .inl ((cm 18), 3, .inl (fun _ => 0)))]) [1, 0, 2] (by decide) rfl⟩, hS.F ht⟩) hS.2.2 dX12_mayBuildOn_67
def w_m_workOn : List Cond := .code yX12_workOn cX12_workOn 3 (some .int) :: ([.fieldLink RX12 9 "SeaLandModel" "world" "[I"] ++ bs)
set_option maxHeartbeats 4000000 in
set_option maxRecDepth 100000 in
theorem m_workOn (l : Launch) (dC : Nat → ClassId) (dI : Nat → Nat → Nat) (h0 : Nat) (q : Nat → Nat) (cm : Nat → ClassId) (sq : Int32) (sz : Nat) : Met l yX12_workOn w_m_workOn ({ frames := 0, cells := 0, slots := 0, locals := 0 }) (va_Pc [.ref h0, .int sq] (fun U => U.heap.size = sz ∧ va_P (dC, dI) vwCl [(h0, .inr (15, mF q 0)), (q 1, .inl ((cm 1), 1749, .inl (fun _ => 0)))] U.heap ∧ va_K (dC, dI) vwCl [((cm 1), .int)] U ∧ va_D (fun _ => True) [(h0, .inr (15, mF q 0)), (q 1, .inl ((cm 1), 1749, .inl (fun _ => 0)))])) (va_Qi (fun (r : Int32) (u : Unit) => r = -1) (fun (_ : Unit) (t : State) => va_P (dC, dI) vwCl [(h0, .inr (15, mF q 0)), (q 1, .inl ((cm 1), 1749, .inl (fun _ => 0)))] t.heap ∧ va_D (va_A [(h0, .inr (15, mF q 0)), (q 1, .inl ((cm 1), 1749, .inl (fun _ => 0)))] sz) [(h0, .inr (15, mF q 0)), (q 1, .inl ((cm 1), 1749, .inl (fun _ => 0)))]) (va_A [(h0, .inr (15, mF q 0)), (q 1, .inl ((cm 1), 1749, .inl (fun _ => 0)))] sz)) 0 0 (va_A [(h0, .inr (15, mF q 0)), (q 1, .inl ((cm 1), 1749, .inl (fun _ => 0)))] sz) := by
  refine Met.ofW (cc := cX12_workOn) (maxL := 3) (ret := (some .int)) (by decide) rfl ?_
  intro p e s m args below meth c s₁ B hml hv
  obtain ⟨rfl, hsz, hP, hK, hD0⟩ := hv
  have hx := B.exec
  have hb := B.bytes
  have hr := B.returns
  have hts := atoms_spec (ws := w_m_workOn) B.pre
  have hown : s.vm.findClass RX12 = some m.cls := findClass_of_methodNamed B.named
  have hlocks := B.notSynchronized
  subst hsz
  have hD := hD0.self (sz := s.heap.size)
  generalize hAe : va_A [(h0, .inr (15, mF q 0)), (q 1, .inl ((cm 1), 1749, .inl (fun _ => 0)))] s.heap.size = A at hD ⊢
  have hA : ∀ q : Nat, s.heap.size ≤ q → A q := fun q h => by rw [← hAe]; exact Or.inr h
  have hS : va_S A s.heap s.heap [] := va_S.rf
  have hP : va_P (dC, dI) vwCl [(h0, .inr (15, mF q 0)), (q 1, .inl ((cm 1), 1749, .inl (fun _ => 0)))] s.heap := hP
  have hl := lv_entry ([.ref h0, .int sq]) (n := 3) (Nat.le_of_ble_eq_true rfl)
  rw [lg_entry_eq]
  generalize (lg_sl ([.ref h0, .int sq]) ++ List.replicate (3 - (lg_sl ([.ref h0, .int sq])).length) Slot.unset).toArray = ls at hl ⊢
  have hl : lv_has ls 3 [(0, .ref h0), (1, .int sq)] := hl
  refine lv_iconst (v := 0) hx hb dX12_workOn_0 (by decide) ?_
  refine lv_istore_n (lv' := [(2, .int 0), (0, .ref h0), (1, .int sq)]) hx hb dX12_workOn_1 rfl hl (by decide) rfl (fun ls hl => ?_)
  refine lv_iload_n hx hb dX12_workOn_2 rfl (lv_at hl 0 rfl) ?_
  refine lv_aload_n hx hb dX12_workOn_3 rfl (lv_at hl 1 rfl) ?_
  refine va_get (D := (dC, dI)) (ci := 15) (v := .ref (q 1)) (C := RX12) (T := TX12) (N := 78) hx hb hts bF_X12 hown hK hP 0 rfl rfl 1 (by decide) (ht_at hts 0 rfl) (fun _ h9 => h9) rfl dX12_workOn_4 ?_
  refine lv_sipush (v := 1428) hx hb dX12_workOn_7 (by decide) ?_
  refine va_iald hx hb hK hP 1 0 rfl rfl (by unfold vp_in; decide) dX12_workOn_10 ?_
  refine lv_topi (fun x1 ex1 => ?_)
  obtain rfl : 0 = x1 := (ex1).symm
  refine lv_icmp_ge (tgt := 32) hx hb dX12_workOn_11 (by decide) (fun c2 => ?_) (fun c2 => absurd c2 (by decide))
  refine lv_iconst (v := (-1)) hx hb dX12_workOn_32 (by decide) ?_
  exact W.iret (v := (-1)) hx hb hr (fun t ht hW => ⟨⟨(-1), (), rfl, (by rfl), by rw [ht]; exact hP.sub (ws' := [(h0, .inr (15, mF q 0)), (q 1, .inl ((cm 1), 1749, .inl (fun _ => 0)))]) [0, 1] rfl, hD.sub (ws' := [(h0, .inr (15, mF q 0)), (q 1, .inl ((cm 1), 1749, .inl (fun _ => 0)))]) [0, 1] (by decide) rfl⟩, hS.F ht⟩) hS.2.2 dX12_workOn_33
def w_m_farmOf : List Cond := .code yX12_farmOf cX12_farmOf 3 (some .int) :: ([.fieldLink RX12 498 "SeaLandModel" "farms" "I"] ++ bs)
set_option maxHeartbeats 4000000 in
set_option maxRecDepth 100000 in
theorem m_farmOf (l : Launch) (dC : Nat → ClassId) (dI : Nat → Nat → Nat) (h0 : Nat) (q : Nat → Nat) (cm : Nat → ClassId) (sq : Int32) (sz : Nat) : Met l yX12_farmOf w_m_farmOf ({ frames := 0, cells := 0, slots := 0, locals := 0 }) (va_Pc [.ref h0, .int sq] (fun U => U.heap.size = sz ∧ va_P (dC, dI) vwCl [(h0, .inr (15, mF q 0))] U.heap ∧ va_K (dC, dI) vwCl [] U ∧ va_D (fun _ => True) [(h0, .inr (15, mF q 0))])) (va_Qi (fun (r : Int32) (u : Unit) => r = -1) (fun (_ : Unit) (t : State) => va_P (dC, dI) vwCl [(h0, .inr (15, mF q 0))] t.heap ∧ va_D (va_A [(h0, .inr (15, mF q 0))] sz) [(h0, .inr (15, mF q 0))]) (va_A [(h0, .inr (15, mF q 0))] sz)) 0 0 (va_A [(h0, .inr (15, mF q 0))] sz) := by
  refine Met.ofW (cc := cX12_farmOf) (maxL := 3) (ret := (some .int)) (by decide) rfl ?_
  intro p e s m args below meth c s₁ B hml hv
  obtain ⟨rfl, hsz, hP, hK, hD0⟩ := hv
  have hx := B.exec
  have hb := B.bytes
  have hr := B.returns
  have hts := atoms_spec (ws := w_m_farmOf) B.pre
  have hown : s.vm.findClass RX12 = some m.cls := findClass_of_methodNamed B.named
  have hlocks := B.notSynchronized
  subst hsz
  have hD := hD0.self (sz := s.heap.size)
  generalize hAe : va_A [(h0, .inr (15, mF q 0))] s.heap.size = A at hD ⊢
  have hA : ∀ q : Nat, s.heap.size ≤ q → A q := fun q h => by rw [← hAe]; exact Or.inr h
  have hS : va_S A s.heap s.heap [] := va_S.rf
  have hP : va_P (dC, dI) vwCl [(h0, .inr (15, mF q 0))] s.heap := hP
  have hl := lv_entry ([.ref h0, .int sq]) (n := 3) (Nat.le_of_ble_eq_true rfl)
  rw [lg_entry_eq]
  generalize (lg_sl ([.ref h0, .int sq]) ++ List.replicate (3 - (lg_sl ([.ref h0, .int sq])).length) Slot.unset).toArray = ls at hl ⊢
  have hl : lv_has ls 3 [(0, .ref h0), (1, .int sq)] := hl
  refine lv_iconst (v := 0) hx hb dX12_farmOf_0 (by decide) ?_
  refine lv_istore_n (lv' := [(2, .int 0), (0, .ref h0), (1, .int sq)]) hx hb dX12_farmOf_1 rfl hl (by decide) rfl (fun ls hl => ?_)
  refine lv_iload_n hx hb dX12_farmOf_2 rfl (lv_at hl 0 rfl) ?_
  refine lv_aload_n hx hb dX12_farmOf_3 rfl (lv_at hl 1 rfl) ?_
  refine va_get (D := (dC, dI)) (ci := 15) (v := .int 0) (C := RX12) (T := TX12) (N := 78) hx hb hts bF_X12 hown hK hP 0 rfl rfl 47 (by decide) (ht_at hts 0 rfl) (fun _ h9 => h9) rfl dX12_farmOf_4 ?_
  refine lv_icmp_ge (tgt := 37) hx hb dX12_farmOf_7 (by decide) (fun c1 => ?_) (fun c1 => absurd c1 (by decide))
  refine lv_iconst (v := (-1)) hx hb dX12_farmOf_37 (by decide) ?_
  exact W.iret (v := (-1)) hx hb hr (fun t ht hW => ⟨⟨(-1), (), rfl, (by rfl), by rw [ht]; exact hP.sub (ws' := [(h0, .inr (15, mF q 0))]) [0] rfl, hD.sub (ws' := [(h0, .inr (15, mF q 0))]) [0] (by decide) rfl⟩, hS.F ht⟩) hS.2.2 dX12_farmOf_38
def w_m_holders : List Cond := .code yX12_holders cX12_holders 3 (some .int) :: ([.fieldLink RX12 495 "SeaLandModel" "settlers" "I"] ++ bs)
set_option maxHeartbeats 4000000 in
set_option maxRecDepth 100000 in
theorem m_holders (l : Launch) (dC : Nat → ClassId) (dI : Nat → Nat → Nat) (h0 : Nat) (q : Nat → Nat) (cm : Nat → ClassId)  (sz : Nat) : Met l yX12_holders w_m_holders ({ frames := 0, cells := 0, slots := 0, locals := 0 }) (va_Pc [.ref h0] (fun U => U.heap.size = sz ∧ va_P (dC, dI) vwCl [(h0, .inr (15, mF q 0))] U.heap ∧ va_K (dC, dI) vwCl [] U ∧ va_D (fun _ => True) [(h0, .inr (15, mF q 0))])) (va_Qi (fun (r : Int32) (u : Unit) => r = 0) (fun (_ : Unit) (t : State) => va_P (dC, dI) vwCl [(h0, .inr (15, mF q 0))] t.heap ∧ va_D (va_A [(h0, .inr (15, mF q 0))] sz) [(h0, .inr (15, mF q 0))]) (va_A [(h0, .inr (15, mF q 0))] sz)) 0 0 (va_A [(h0, .inr (15, mF q 0))] sz) := by
  refine Met.ofW (cc := cX12_holders) (maxL := 3) (ret := (some .int)) (by decide) rfl ?_
  intro p e s m args below meth c s₁ B hml hv
  obtain ⟨rfl, hsz, hP, hK, hD0⟩ := hv
  have hx := B.exec
  have hb := B.bytes
  have hr := B.returns
  have hts := atoms_spec (ws := w_m_holders) B.pre
  have hown : s.vm.findClass RX12 = some m.cls := findClass_of_methodNamed B.named
  have hlocks := B.notSynchronized
  subst hsz
  have hD := hD0.self (sz := s.heap.size)
  generalize hAe : va_A [(h0, .inr (15, mF q 0))] s.heap.size = A at hD ⊢
  have hA : ∀ q : Nat, s.heap.size ≤ q → A q := fun q h => by rw [← hAe]; exact Or.inr h
  have hS : va_S A s.heap s.heap [] := va_S.rf
  have hP : va_P (dC, dI) vwCl [(h0, .inr (15, mF q 0))] s.heap := hP
  have hl := lv_entry ([.ref h0]) (n := 3) (Nat.le_of_ble_eq_true rfl)
  rw [lg_entry_eq]
  generalize (lg_sl ([.ref h0]) ++ List.replicate (3 - (lg_sl ([.ref h0])).length) Slot.unset).toArray = ls at hl ⊢
  have hl : lv_has ls 3 [(0, .ref h0)] := hl
  refine lv_iconst (v := 0) hx hb dX12_holders_0 (by decide) ?_
  refine lv_istore_n (lv' := [(1, .int 0), (0, .ref h0)]) hx hb dX12_holders_1 rfl hl (by decide) rfl (fun ls hl => ?_)
  refine lv_iconst (v := 0) hx hb dX12_holders_2 (by decide) ?_
  refine lv_istore_n (lv' := [(2, .int 0), (1, .int 0), (0, .ref h0)]) hx hb dX12_holders_3 rfl hl (by decide) rfl (fun ls hl => ?_)
  refine lv_iload_n hx hb dX12_holders_4 rfl (lv_at hl 0 rfl) ?_
  refine lv_aload_n hx hb dX12_holders_5 rfl (lv_at hl 2 rfl) ?_
  refine va_get (D := (dC, dI)) (ci := 15) (v := .int 0) (C := RX12) (T := TX12) (N := 78) hx hb hts bF_X12 hown hK hP 0 rfl rfl 42 (by decide) (ht_at hts 0 rfl) (fun _ h9 => h9) rfl dX12_holders_6 ?_
  refine lv_icmp_ge (tgt := 35) hx hb dX12_holders_9 (by decide) (fun c1 => ?_) (fun c1 => absurd c1 (by decide))
  refine lv_iload_n hx hb dX12_holders_35 rfl (lv_at hl 1 rfl) ?_
  exact W.iret (v := 0) hx hb hr (fun t ht hW => ⟨⟨0, (), rfl, (by rfl), by rw [ht]; exact hP.sub (ws' := [(h0, .inr (15, mF q 0))]) [0] rfl, hD.sub (ws' := [(h0, .inr (15, mF q 0))]) [0] (by decide) rfl⟩, hS.F ht⟩) hS.2.2 dX12_holders_36
def w_m_level : List Cond := .code yX12_level cX12_level 2 (some .int) :: ([.code yX12_isLand cX12_isLand 2 (some .boolean), .fieldLink RX12 9 "SeaLandModel" "world" "[I", .methodLink RX12 235 yX12_isLand, .instanceMethod yX12_isLand, .selects RX12 yX12_isLand yX12_isLand, .initialized RX12, .code yX12_hour cX12_hour 1 (some .int), .methodLink RX12 228 yX12_hour, .instanceMethod yX12_hour, .selects RX12 yX12_hour yX12_hour, .code yX12_outside cX12_outside 4 (some .int), .methodLink RX12 247 yX12_outside, .instanceMethod yX12_outside, .selects RX12 yX12_outside yX12_outside] ++ bs)
set_option maxHeartbeats 4000000 in
set_option maxRecDepth 100000 in
theorem m_level (l : Launch) (dC : Nat → ClassId) (dI : Nat → Nat → Nat) (h0 : Nat) (q : Nat → Nat) (cm : Nat → ClassId) (sq : Int32) (sz : Nat) (hsq : 0 ≤ sq ∧ sq ≤ 95) : Met l yX12_level w_m_level ({ frames := 1, cells := 0, slots := 0, locals := 23 }) (va_Pc [.ref h0, .int sq] (fun U => U.heap.size = sz ∧ va_P (dC, dI) vwCl [(h0, .inr (15, mF q 0)), (q 1, .inl ((cm 1), 1749, .inl (fun _ => 0)))] U.heap ∧ va_K (dC, dI) vwCl [((cm 1), .int)] U ∧ va_D (fun _ => True) [(h0, .inr (15, mF q 0)), (q 1, .inl ((cm 1), 1749, .inl (fun _ => 0)))])) (va_Qi (fun (r : Int32) (u : Unit) => r = 0) (fun (_ : Unit) (t : State) => va_P (dC, dI) vwCl [(h0, .inr (15, mF q 0)), (q 1, .inl ((cm 1), 1749, .inl (fun _ => 0)))] t.heap ∧ va_D (va_A [(h0, .inr (15, mF q 0)), (q 1, .inl ((cm 1), 1749, .inl (fun _ => 0)))] sz) [(h0, .inr (15, mF q 0)), (q 1, .inl ((cm 1), 1749, .inl (fun _ => 0)))]) (va_A [(h0, .inr (15, mF q 0)), (q 1, .inl ((cm 1), 1749, .inl (fun _ => 0)))] sz)) 0 0 (va_A [(h0, .inr (15, mF q 0)), (q 1, .inl ((cm 1), 1749, .inl (fun _ => 0)))] sz) := by
  refine Met.ofW (cc := cX12_level) (maxL := 2) (ret := (some .int)) (by decide) rfl ?_
  intro p e s m args below meth c s₁ B hml hv
  obtain ⟨rfl, hsz, hP, hK, hD0⟩ := hv
  have hx := B.exec
  have hb := B.bytes
  have hr := B.returns
  have hts := atoms_spec (ws := w_m_level) B.pre
  have hown : s.vm.findClass RX12 = some m.cls := findClass_of_methodNamed B.named
  have hlocks := B.notSynchronized
  subst hsz
  have hD := hD0.self (sz := s.heap.size)
  generalize hAe : va_A [(h0, .inr (15, mF q 0)), (q 1, .inl ((cm 1), 1749, .inl (fun _ => 0)))] s.heap.size = A at hD ⊢
  have hA : ∀ q : Nat, s.heap.size ≤ q → A q := fun q h => by rw [← hAe]; exact Or.inr h
  have hS : va_S A s.heap s.heap [] := va_S.rf
  have hP : va_P (dC, dI) vwCl [(h0, .inr (15, mF q 0)), (q 1, .inl ((cm 1), 1749, .inl (fun _ => 0)))] s.heap := hP
  have hl := lv_entry ([.ref h0, .int sq]) (n := 2) (Nat.le_of_ble_eq_true rfl)
  rw [lg_entry_eq]
  generalize (lg_sl ([.ref h0, .int sq]) ++ List.replicate (2 - (lg_sl ([.ref h0, .int sq])).length) Slot.unset).toArray = ls at hl ⊢
  have hl : lv_has ls 2 [(0, .ref h0), (1, .int sq)] := hl
  refine lv_aload_n hx hb dX12_level_0 rfl (lv_at hl 0 rfl) ?_
  refine lv_iload_n hx hb dX12_level_1 rfl (lv_at hl 1 rfl) ?_
  have hPc := hP.sub (ws' := [(h0, .inr (15, mF q 0)), (q 1, .inl ((cm 1), 1749, .inl (fun _ => 0)))]) [0, 1] rfl
  have hDc := hD.sub (ws' := [(h0, .inr (15, mF q 0)), (q 1, .inl ((cm 1), 1749, .inl (fun _ => 0)))]) [0, 1] (by decide) rfl
  have hKc := hK.sub (tys' := [((cm 1), .int)]) [0] rfl
  have hFc := va_free (wc := [(h0, .inr (15, mF q 0)), (q 1, .inl ((cm 1), 1749, .inl (fun _ => 0)))]) hD hS hA [0, 1] rfl
  refine va_calli (va_runV (As := [.int sq]) (rest := []) ⟨hx, hb, hml, hown, hts⟩ (m_isLand l dC dI h0 q cm sq s.heap.size hsq) (cwV 1 hts (goodIn_app (goodIn_r _ [3, 4, 5, 6] (by decide +kernel) (by decide +kernel)) (goodIn_ca (goodIn_r _ [1, 2] (by decide +kernel) (by decide +kernel)) (bs_in _ _))) rfl rfl rfl (by decide +kernel) ⟨(Nat.le_of_ble_eq_true rfl), (Nat.le_of_ble_eq_true rfl)⟩) ⟨fun a U g mk q => by obtain ⟨q0, q1, qP, qK, qD⟩ := q; exact ⟨q0, q1, qP, va_K.moved (u := U) (U := U.calling g mk a) (Vm.Alike.refl U.vm) qK, qD⟩, va_recv hKc hPc (ci := 15) (q0 := 0) rfl rfl, fun U hU hW => ⟨rfl, by rw [hU], by rw [hU]; exact hPc, va_K.moved hW.alike hKc, hDc.weaken (fun _ _ _ _ => trivial)⟩⟩ rfl rfl hl.1 rfl (lv_room (Nat.le_of_ble_eq_true rfl)) dX12_level_2 ⟨(Nat.le_of_ble_eq_true rfl), (Nat.le_of_ble_eq_true rfl)⟩) hS (fun q _ h => hFc q h) hFc (fun r2 u t H1 locs ht hvm hw3 hB hz1 hk1 hS => ?_)
  obtain ⟨hP1, hD1⟩ := hB
  rw [ht] at hP1
  obtain ⟨hP, hD⟩ := va_join (wr := []) (w1 := [(h0, .inr (15, mF q 0)), (q 1, .inl ((cm 1), 1749, .inl (fun _ => 0)))]) hP hD [0, 1] [] rfl rfl (by decide) (by decide) hk1 hFc hP1 hD1
  generalize H1 = H at hP hS ⊢
  have hP : va_P (dC, dI) vwCl [(h0, .inr (15, mF q 0)), (q 1, .inl ((cm 1), 1749, .inl (fun _ => 0)))] H := hP
  have hD : va_D A [(h0, .inr (15, mF q 0)), (q 1, .inl ((cm 1), 1749, .inl (fun _ => 0)))] := hD
  try dsimp only at hw3
  obtain rfl : 0 = r2 := (hw3).symm
  refine lv_if_eq (tgt := 31) hx hb dX12_level_5 (by decide) (fun c4 => ?_) (fun c4 => absurd c4 (by decide))
  refine lv_aload_n hx hb dX12_level_31 rfl (lv_at hl 0 rfl) ?_
  refine lv_aload_n hx hb dX12_level_32 rfl (lv_at hl 0 rfl) ?_
  have hPc := hP.sub (ws' := [(h0, .inr (15, mF q 0)), (q 1, .inl ((cm 1), 1749, .inl (fun _ => 0)))]) [0, 1] rfl
  have hDc := hD.sub (ws' := [(h0, .inr (15, mF q 0)), (q 1, .inl ((cm 1), 1749, .inl (fun _ => 0)))]) [0, 1] (by decide) rfl
  have hKc := hK.sub (tys' := [((cm 1), .int)]) [0] rfl
  have hFc := va_free (wc := [(h0, .inr (15, mF q 0)), (q 1, .inl ((cm 1), 1749, .inl (fun _ => 0)))]) hD hS hA [0, 1] rfl
  refine va_calli (va_runV (As := []) (rest := [.ref h0]) ⟨hx, hb, hml, hown, hts⟩ (m_hour l dC dI h0 q cm H.size ) (cwV 0 hts (goodIn_app (goodIn_r _ [8, 9, 10, 6] (by decide +kernel) (by decide +kernel)) (goodIn_ca (goodIn_r _ [7, 2] (by decide +kernel) (by decide +kernel)) (bs_in _ _))) rfl rfl rfl (by decide +kernel) ⟨(Nat.le_of_ble_eq_true rfl), (Nat.le_of_ble_eq_true rfl)⟩) ⟨fun a U g mk q => by obtain ⟨q0, q1, qP, qK, qD⟩ := q; exact ⟨q0, q1, qP, va_K.moved (u := U) (U := U.calling g mk a) (Vm.Alike.refl U.vm) qK, qD⟩, va_recv hKc hPc (ci := 15) (q0 := 0) rfl rfl, fun U hU hW => ⟨rfl, by rw [hU], by rw [hU]; exact hPc, va_K.moved hW.alike hKc, hDc.weaken (fun _ _ _ _ => trivial)⟩⟩ rfl rfl hl.1 rfl (lv_room (Nat.le_of_ble_eq_true rfl)) dX12_level_33 ⟨(Nat.le_of_ble_eq_true rfl), (Nat.le_of_ble_eq_true rfl)⟩) hS (fun q _ h => hFc q h) hFc (fun r6 u t H1 locs ht hvm hw7 hB hz1 hk1 hS => ?_)
  obtain ⟨hP1, hD1⟩ := hB
  rw [ht] at hP1
  obtain ⟨hP, hD⟩ := va_join (wr := []) (w1 := [(h0, .inr (15, mF q 0)), (q 1, .inl ((cm 1), 1749, .inl (fun _ => 0)))]) hP hD [0, 1] [] rfl rfl (by decide) (by decide) hk1 hFc hP1 hD1
  generalize H1 = H at hP hS ⊢
  have hP : va_P (dC, dI) vwCl [(h0, .inr (15, mF q 0)), (q 1, .inl ((cm 1), 1749, .inl (fun _ => 0)))] H := hP
  have hD : va_D A [(h0, .inr (15, mF q 0)), (q 1, .inl ((cm 1), 1749, .inl (fun _ => 0)))] := hD
  try dsimp only at hw7
  obtain rfl : 0 = r6 := (hw7).symm
  have hPc := hP.sub (ws' := [(h0, .inr (15, mF q 0)), (q 1, .inl ((cm 1), 1749, .inl (fun _ => 0)))]) [0, 1] rfl
  have hDc := hD.sub (ws' := [(h0, .inr (15, mF q 0)), (q 1, .inl ((cm 1), 1749, .inl (fun _ => 0)))]) [0, 1] (by decide) rfl
  have hKc := hK.sub (tys' := [((cm 1), .int)]) [0] rfl
  have hFc := va_free (wc := [(h0, .inr (15, mF q 0)), (q 1, .inl ((cm 1), 1749, .inl (fun _ => 0)))]) hD hS hA [0, 1] rfl
  refine va_calli (va_runV (As := [.int 0]) (rest := []) ⟨hx, hb, hml, hown, hts⟩ (m_outside l dC dI h0 q cm 0 H.size (by decide)) (cwV 1 hts (goodIn_app (goodIn_r _ [12, 13, 14, 6] (by decide +kernel) (by decide +kernel)) (goodIn_ca (goodIn_r _ [11, 2] (by decide +kernel) (by decide +kernel)) (bs_in _ _))) rfl rfl rfl (by decide +kernel) ⟨(Nat.le_of_ble_eq_true rfl), (Nat.le_of_ble_eq_true rfl)⟩) ⟨fun a U g mk q => by obtain ⟨q0, q1, qP, qK, qD⟩ := q; exact ⟨q0, q1, qP, va_K.moved (u := U) (U := U.calling g mk a) (Vm.Alike.refl U.vm) qK, qD⟩, va_recv hKc hPc (ci := 15) (q0 := 0) rfl rfl, fun U hU hW => ⟨rfl, by rw [hU], by rw [hU]; exact hPc, va_K.moved hW.alike hKc, hDc.weaken (fun _ _ _ _ => trivial)⟩⟩ rfl rfl hl.1 rfl (lv_room (Nat.le_of_ble_eq_true rfl)) dX12_level_36 ⟨(Nat.le_of_ble_eq_true rfl), (Nat.le_of_ble_eq_true rfl)⟩) hS (fun q _ h => hFc q h) hFc (fun r9 u t H1 locs ht hvm hw10 hB hz1 hk1 hS => ?_)
  obtain ⟨hP1, hD1⟩ := hB
  rw [ht] at hP1
  obtain ⟨hP, hD⟩ := va_join (wr := []) (w1 := [(h0, .inr (15, mF q 0)), (q 1, .inl ((cm 1), 1749, .inl (fun _ => 0)))]) hP hD [0, 1] [] rfl rfl (by decide) (by decide) hk1 hFc hP1 hD1
  generalize H1 = H at hP hS ⊢
  have hP : va_P (dC, dI) vwCl [(h0, .inr (15, mF q 0)), (q 1, .inl ((cm 1), 1749, .inl (fun _ => 0)))] H := hP
  have hD : va_D A [(h0, .inr (15, mF q 0)), (q 1, .inl ((cm 1), 1749, .inl (fun _ => 0)))] := hD
  try dsimp only at hw10
  obtain rfl : 0 = r9 := (hw10).symm
  exact W.iret (v := 0) hx hb hr (fun t ht hW => ⟨⟨0, (), rfl, (by rfl), by rw [ht]; exact hP.sub (ws' := [(h0, .inr (15, mF q 0)), (q 1, .inl ((cm 1), 1749, .inl (fun _ => 0)))]) [0, 1] rfl, hD.sub (ws' := [(h0, .inr (15, mF q 0)), (q 1, .inl ((cm 1), 1749, .inl (fun _ => 0)))]) [0, 1] (by decide) rfl⟩, hS.F ht⟩) hS.2.2 dX12_level_39
def w_m_noPlace : List Cond := .code yX12_noPlace cX12_noPlace 2 (some .boolean) :: ([.code yX12_isLand cX12_isLand 2 (some .boolean), .fieldLink RX12 9 "SeaLandModel" "world" "[I", .methodLink RX12 235 yX12_isLand, .instanceMethod yX12_isLand, .selects RX12 yX12_isLand yX12_isLand, .initialized RX12] ++ bs)
set_option maxHeartbeats 4000000 in
set_option maxRecDepth 100000 in
theorem m_noPlace (l : Launch) (dC : Nat → ClassId) (dI : Nat → Nat → Nat) (h0 : Nat) (q : Nat → Nat) (cm : Nat → ClassId) (sq : Int32) (sz : Nat) (hsq : 0 ≤ sq ∧ sq ≤ 95) : Met l yX12_noPlace w_m_noPlace ({ frames := 1, cells := 0, slots := 0, locals := 21 }) (va_Pc [.ref h0, .int sq] (fun U => U.heap.size = sz ∧ va_P (dC, dI) vwCl [(h0, .inr (15, mF q 0)), (q 1, .inl ((cm 1), 1749, .inl (fun _ => 0)))] U.heap ∧ va_K (dC, dI) vwCl [((cm 1), .int)] U ∧ va_D (fun _ => True) [(h0, .inr (15, mF q 0)), (q 1, .inl ((cm 1), 1749, .inl (fun _ => 0)))])) (va_Qi (fun (r : Int32) (u : Unit) => r = 1) (fun (_ : Unit) (t : State) => va_P (dC, dI) vwCl [(h0, .inr (15, mF q 0)), (q 1, .inl ((cm 1), 1749, .inl (fun _ => 0)))] t.heap ∧ va_D (va_A [(h0, .inr (15, mF q 0)), (q 1, .inl ((cm 1), 1749, .inl (fun _ => 0)))] sz) [(h0, .inr (15, mF q 0)), (q 1, .inl ((cm 1), 1749, .inl (fun _ => 0)))]) (va_A [(h0, .inr (15, mF q 0)), (q 1, .inl ((cm 1), 1749, .inl (fun _ => 0)))] sz)) 0 0 (va_A [(h0, .inr (15, mF q 0)), (q 1, .inl ((cm 1), 1749, .inl (fun _ => 0)))] sz) := by
  refine Met.ofW (cc := cX12_noPlace) (maxL := 2) (ret := (some .boolean)) (by decide) rfl ?_
  intro p e s m args below meth c s₁ B hml hv
  obtain ⟨rfl, hsz, hP, hK, hD0⟩ := hv
  have hx := B.exec
  have hb := B.bytes
  have hr := B.returns
  have hts := atoms_spec (ws := w_m_noPlace) B.pre
  have hown : s.vm.findClass RX12 = some m.cls := findClass_of_methodNamed B.named
  have hlocks := B.notSynchronized
  subst hsz
  have hD := hD0.self (sz := s.heap.size)
  generalize hAe : va_A [(h0, .inr (15, mF q 0)), (q 1, .inl ((cm 1), 1749, .inl (fun _ => 0)))] s.heap.size = A at hD ⊢
  have hA : ∀ q : Nat, s.heap.size ≤ q → A q := fun q h => by rw [← hAe]; exact Or.inr h
  have hS : va_S A s.heap s.heap [] := va_S.rf
  have hP : va_P (dC, dI) vwCl [(h0, .inr (15, mF q 0)), (q 1, .inl ((cm 1), 1749, .inl (fun _ => 0)))] s.heap := hP
  have hl := lv_entry ([.ref h0, .int sq]) (n := 2) (Nat.le_of_ble_eq_true rfl)
  rw [lg_entry_eq]
  generalize (lg_sl ([.ref h0, .int sq]) ++ List.replicate (2 - (lg_sl ([.ref h0, .int sq])).length) Slot.unset).toArray = ls at hl ⊢
  have hl : lv_has ls 2 [(0, .ref h0), (1, .int sq)] := hl
  refine lv_aload_n hx hb dX12_noPlace_0 rfl (lv_at hl 0 rfl) ?_
  refine lv_iload_n hx hb dX12_noPlace_1 rfl (lv_at hl 1 rfl) ?_
  have hPc := hP.sub (ws' := [(h0, .inr (15, mF q 0)), (q 1, .inl ((cm 1), 1749, .inl (fun _ => 0)))]) [0, 1] rfl
  have hDc := hD.sub (ws' := [(h0, .inr (15, mF q 0)), (q 1, .inl ((cm 1), 1749, .inl (fun _ => 0)))]) [0, 1] (by decide) rfl
  have hKc := hK.sub (tys' := [((cm 1), .int)]) [0] rfl
  have hFc := va_free (wc := [(h0, .inr (15, mF q 0)), (q 1, .inl ((cm 1), 1749, .inl (fun _ => 0)))]) hD hS hA [0, 1] rfl
  refine va_calli (va_runV (As := [.int sq]) (rest := []) ⟨hx, hb, hml, hown, hts⟩ (m_isLand l dC dI h0 q cm sq s.heap.size hsq) (cwV 1 hts (goodIn_app (goodIn_r _ [3, 4, 5, 6] (by decide +kernel) (by decide +kernel)) (goodIn_ca (goodIn_r _ [1, 2] (by decide +kernel) (by decide +kernel)) (bs_in _ _))) rfl rfl rfl (by decide +kernel) ⟨(Nat.le_of_ble_eq_true rfl), (Nat.le_of_ble_eq_true rfl)⟩) ⟨fun a U g mk q => by obtain ⟨q0, q1, qP, qK, qD⟩ := q; exact ⟨q0, q1, qP, va_K.moved (u := U) (U := U.calling g mk a) (Vm.Alike.refl U.vm) qK, qD⟩, va_recv hKc hPc (ci := 15) (q0 := 0) rfl rfl, fun U hU hW => ⟨rfl, by rw [hU], by rw [hU]; exact hPc, va_K.moved hW.alike hKc, hDc.weaken (fun _ _ _ _ => trivial)⟩⟩ rfl rfl hl.1 rfl (lv_room (Nat.le_of_ble_eq_true rfl)) dX12_noPlace_2 ⟨(Nat.le_of_ble_eq_true rfl), (Nat.le_of_ble_eq_true rfl)⟩) hS (fun q _ h => hFc q h) hFc (fun r2 u t H1 locs ht hvm hw3 hB hz1 hk1 hS => ?_)
  obtain ⟨hP1, hD1⟩ := hB
  rw [ht] at hP1
  obtain ⟨hP, hD⟩ := va_join (wr := []) (w1 := [(h0, .inr (15, mF q 0)), (q 1, .inl ((cm 1), 1749, .inl (fun _ => 0)))]) hP hD [0, 1] [] rfl rfl (by decide) (by decide) hk1 hFc hP1 hD1
  generalize H1 = H at hP hS ⊢
  have hP : va_P (dC, dI) vwCl [(h0, .inr (15, mF q 0)), (q 1, .inl ((cm 1), 1749, .inl (fun _ => 0)))] H := hP
  have hD : va_D A [(h0, .inr (15, mF q 0)), (q 1, .inl ((cm 1), 1749, .inl (fun _ => 0)))] := hD
  try dsimp only at hw3
  obtain rfl : 0 = r2 := (hw3).symm
  refine lv_if_eq (tgt := 16) hx hb dX12_noPlace_5 (by decide) (fun c4 => ?_) (fun c4 => absurd c4 (by decide))
  refine lv_iconst (v := 1) hx hb dX12_noPlace_16 (by decide) ?_
  refine lv_goto (tgt := 21) hx hb dX12_noPlace_17 (by decide) ?_
  exact W.zret (v := 1) hx hb hr (by decide) (fun t ht hW => ⟨⟨1, (), rfl, (by rfl), by rw [ht]; exact hP.sub (ws' := [(h0, .inr (15, mF q 0)), (q 1, .inl ((cm 1), 1749, .inl (fun _ => 0)))]) [0, 1] rfl, hD.sub (ws' := [(h0, .inr (15, mF q 0)), (q 1, .inl ((cm 1), 1749, .inl (fun _ => 0)))]) [0, 1] (by decide) rfl⟩, hS.F ht⟩) hS.2.2 dX12_noPlace_21
def w_m_nextOne : List Cond := .code yX12_nextOne cX12_nextOne 3 (some .int) :: ([.fieldLink RX12 495 "SeaLandModel" "settlers" "I"] ++ bs)
set_option maxHeartbeats 4000000 in
set_option maxRecDepth 100000 in
theorem m_nextOne (l : Launch) (dC : Nat → ClassId) (dI : Nat → Nat → Nat) (h0 : Nat) (q : Nat → Nat) (cm : Nat → ClassId)  (sz : Nat) : Met l yX12_nextOne w_m_nextOne ({ frames := 0, cells := 0, slots := 0, locals := 0 }) (va_Pc [.ref h0] (fun U => U.heap.size = sz ∧ va_P (dC, dI) vwCl [(h0, .inr (15, mF q 0))] U.heap ∧ va_K (dC, dI) vwCl [] U ∧ va_D (fun _ => True) [(h0, .inr (15, mF q 0))])) (va_Qi (fun (r : Int32) (u : Unit) => r = -1) (fun (_ : Unit) (t : State) => va_P (dC, dI) vwCl [(h0, .inr (15, mF q 0))] t.heap ∧ va_D (va_A [(h0, .inr (15, mF q 0))] sz) [(h0, .inr (15, mF q 0))]) (va_A [(h0, .inr (15, mF q 0))] sz)) 0 0 (va_A [(h0, .inr (15, mF q 0))] sz) := by
  refine Met.ofW (cc := cX12_nextOne) (maxL := 3) (ret := (some .int)) (by decide) rfl ?_
  intro p e s m args below meth c s₁ B hml hv
  obtain ⟨rfl, hsz, hP, hK, hD0⟩ := hv
  have hx := B.exec
  have hb := B.bytes
  have hr := B.returns
  have hts := atoms_spec (ws := w_m_nextOne) B.pre
  have hown : s.vm.findClass RX12 = some m.cls := findClass_of_methodNamed B.named
  have hlocks := B.notSynchronized
  subst hsz
  have hD := hD0.self (sz := s.heap.size)
  generalize hAe : va_A [(h0, .inr (15, mF q 0))] s.heap.size = A at hD ⊢
  have hA : ∀ q : Nat, s.heap.size ≤ q → A q := fun q h => by rw [← hAe]; exact Or.inr h
  have hS : va_S A s.heap s.heap [] := va_S.rf
  have hP : va_P (dC, dI) vwCl [(h0, .inr (15, mF q 0))] s.heap := hP
  have hl := lv_entry ([.ref h0]) (n := 3) (Nat.le_of_ble_eq_true rfl)
  rw [lg_entry_eq]
  generalize (lg_sl ([.ref h0]) ++ List.replicate (3 - (lg_sl ([.ref h0])).length) Slot.unset).toArray = ls at hl ⊢
  have hl : lv_has ls 3 [(0, .ref h0)] := hl
  refine lv_iconst (v := (-1)) hx hb dX12_nextOne_0 (by decide) ?_
  refine lv_istore_n (lv' := [(1, .int (-1)), (0, .ref h0)]) hx hb dX12_nextOne_1 rfl hl (by decide) rfl (fun ls hl => ?_)
  refine lv_iconst (v := 0) hx hb dX12_nextOne_2 (by decide) ?_
  refine lv_istore_n (lv' := [(2, .int 0), (1, .int (-1)), (0, .ref h0)]) hx hb dX12_nextOne_3 rfl hl (by decide) rfl (fun ls hl => ?_)
  refine lv_iload_n hx hb dX12_nextOne_4 rfl (lv_at hl 0 rfl) ?_
  refine lv_aload_n hx hb dX12_nextOne_5 rfl (lv_at hl 2 rfl) ?_
  refine va_get (D := (dC, dI)) (ci := 15) (v := .int 0) (C := RX12) (T := TX12) (N := 78) hx hb hts bF_X12 hown hK hP 0 rfl rfl 42 (by decide) (ht_at hts 0 rfl) (fun _ h9 => h9) rfl dX12_nextOne_6 ?_
  refine lv_icmp_ge (tgt := 83) hx hb dX12_nextOne_9 (by decide) (fun c1 => ?_) (fun c1 => absurd c1 (by decide))
  refine lv_iload_n hx hb dX12_nextOne_83 rfl (lv_at hl 1 rfl) ?_
  exact W.iret (v := (-1)) hx hb hr (fun t ht hW => ⟨⟨(-1), (), rfl, (by rfl), by rw [ht]; exact hP.sub (ws' := [(h0, .inr (15, mF q 0))]) [0] rfl, hD.sub (ws' := [(h0, .inr (15, mF q 0))]) [0] (by decide) rfl⟩, hS.F ht⟩) hS.2.2 dX12_nextOne_84
def w_m_bestFarm : List Cond := .code yX12_bestFarm cX12_bestFarm 3 (some .int) :: ([.fieldLink RX12 498 "SeaLandModel" "farms" "I"] ++ bs)
set_option maxHeartbeats 4000000 in
set_option maxRecDepth 100000 in
theorem m_bestFarm (l : Launch) (dC : Nat → ClassId) (dI : Nat → Nat → Nat) (h0 : Nat) (q : Nat → Nat) (cm : Nat → ClassId)  (sz : Nat) : Met l yX12_bestFarm w_m_bestFarm ({ frames := 0, cells := 0, slots := 0, locals := 0 }) (va_Pc [.ref h0] (fun U => U.heap.size = sz ∧ va_P (dC, dI) vwCl [(h0, .inr (15, mF q 0))] U.heap ∧ va_K (dC, dI) vwCl [] U ∧ va_D (fun _ => True) [(h0, .inr (15, mF q 0))])) (va_Qi (fun (r : Int32) (u : Unit) => r = -1) (fun (_ : Unit) (t : State) => va_P (dC, dI) vwCl [(h0, .inr (15, mF q 0))] t.heap ∧ va_D (va_A [(h0, .inr (15, mF q 0))] sz) [(h0, .inr (15, mF q 0))]) (va_A [(h0, .inr (15, mF q 0))] sz)) 0 0 (va_A [(h0, .inr (15, mF q 0))] sz) := by
  refine Met.ofW (cc := cX12_bestFarm) (maxL := 3) (ret := (some .int)) (by decide) rfl ?_
  intro p e s m args below meth c s₁ B hml hv
  obtain ⟨rfl, hsz, hP, hK, hD0⟩ := hv
  have hx := B.exec
  have hb := B.bytes
  have hr := B.returns
  have hts := atoms_spec (ws := w_m_bestFarm) B.pre
  have hown : s.vm.findClass RX12 = some m.cls := findClass_of_methodNamed B.named
  have hlocks := B.notSynchronized
  subst hsz
  have hD := hD0.self (sz := s.heap.size)
  generalize hAe : va_A [(h0, .inr (15, mF q 0))] s.heap.size = A at hD ⊢
  have hA : ∀ q : Nat, s.heap.size ≤ q → A q := fun q h => by rw [← hAe]; exact Or.inr h
  have hS : va_S A s.heap s.heap [] := va_S.rf
  have hP : va_P (dC, dI) vwCl [(h0, .inr (15, mF q 0))] s.heap := hP
  have hl := lv_entry ([.ref h0]) (n := 3) (Nat.le_of_ble_eq_true rfl)
  rw [lg_entry_eq]
  generalize (lg_sl ([.ref h0]) ++ List.replicate (3 - (lg_sl ([.ref h0])).length) Slot.unset).toArray = ls at hl ⊢
  have hl : lv_has ls 3 [(0, .ref h0)] := hl
  refine lv_iconst (v := (-1)) hx hb dX12_bestFarm_0 (by decide) ?_
  refine lv_istore_n (lv' := [(1, .int (-1)), (0, .ref h0)]) hx hb dX12_bestFarm_1 rfl hl (by decide) rfl (fun ls hl => ?_)
  refine lv_iconst (v := 0) hx hb dX12_bestFarm_2 (by decide) ?_
  refine lv_istore_n (lv' := [(2, .int 0), (1, .int (-1)), (0, .ref h0)]) hx hb dX12_bestFarm_3 rfl hl (by decide) rfl (fun ls hl => ?_)
  refine lv_iload_n hx hb dX12_bestFarm_4 rfl (lv_at hl 0 rfl) ?_
  refine lv_aload_n hx hb dX12_bestFarm_5 rfl (lv_at hl 2 rfl) ?_
  refine va_get (D := (dC, dI)) (ci := 15) (v := .int 0) (C := RX12) (T := TX12) (N := 78) hx hb hts bF_X12 hown hK hP 0 rfl rfl 47 (by decide) (ht_at hts 0 rfl) (fun _ h9 => h9) rfl dX12_bestFarm_6 ?_
  refine lv_icmp_ge (tgt := 46) hx hb dX12_bestFarm_9 (by decide) (fun c1 => ?_) (fun c1 => absurd c1 (by decide))
  refine lv_iload_n hx hb dX12_bestFarm_46 rfl (lv_at hl 1 rfl) ?_
  exact W.iret (v := (-1)) hx hb hr (fun t ht hW => ⟨⟨(-1), (), rfl, (by rfl), by rw [ht]; exact hP.sub (ws' := [(h0, .inr (15, mF q 0))]) [0] rfl, hD.sub (ws' := [(h0, .inr (15, mF q 0))]) [0] (by decide) rfl⟩, hS.F ht⟩) hS.2.2 dX12_bestFarm_47
