theorem cl_add {c i : Nat} {x : Int32} (e : x = nI c + nI i) (h : c + i < 2 ^ 31) : x.toNatClampNeg = c + i := by rw [e, nI_add]; exact nI_clamp h
def w_mg_isLand : List Cond := .code yX12_isLand cX12_isLand 2 (some .boolean) :: ([.fieldLink RX12 9 "SeaLandModel" "world" "[I"] ++ bs)
set_option maxHeartbeats 4000000 in
set_option maxRecDepth 100000 in
theorem mg_isLand (l : Launch) (dC : Nat → ClassId) (dI : Nat → Nat → Nat) (h0 : Nat) (q : Nat → Nat) (cm : Nat → ClassId) (fs : List Value) (g : Nat → Int32) (sq : Int32) (sz : Nat) (hw : fs[1]? = some (.ref (q 1))) (hsq : 0 ≤ sq ∧ sq ≤ 95) (hz : g sq.toNatClampNeg = 0) : Met l yX12_isLand w_mg_isLand ({ frames := 0, cells := 0, slots := 0, locals := 0 }) (va_Pc [.ref h0, .int sq] (fun U => U.heap.size = sz ∧ va_P (dC, dI) vwCl [(h0, .inr (15, fs)), (q 1, .inl ((cm 1), 1749, .inl g))] U.heap ∧ va_K (dC, dI) vwCl [((cm 1), .int)] U ∧ va_D (fun _ => True) [(h0, .inr (15, fs)), (q 1, .inl ((cm 1), 1749, .inl g))])) (va_Qi (fun (r : Int32) (u : Unit) => r = 0) (fun (_ : Unit) (t : State) => va_P (dC, dI) vwCl [(h0, .inr (15, fs)), (q 1, .inl ((cm 1), 1749, .inl g))] t.heap ∧ va_D (va_A [(h0, .inr (15, fs)), (q 1, .inl ((cm 1), 1749, .inl g))] sz) [(h0, .inr (15, fs)), (q 1, .inl ((cm 1), 1749, .inl g))]) (va_A [(h0, .inr (15, fs)), (q 1, .inl ((cm 1), 1749, .inl g))] sz)) 0 0 (va_A [(h0, .inr (15, fs)), (q 1, .inl ((cm 1), 1749, .inl g))] sz) := by
  refine Met.ofW (cc := cX12_isLand) (maxL := 2) (ret := (some .boolean)) (by decide) rfl ?_
  intro p e s m args below meth c s₁ B hml hv
  obtain ⟨rfl, hsz, hP, hK, hD0⟩ := hv
  have hx := B.exec
  have hb := B.bytes
  have hr := B.returns
  have hts := atoms_spec (ws := w_mg_isLand) B.pre
  have hown : s.vm.findClass RX12 = some m.cls := findClass_of_methodNamed B.named
  have hlocks := B.notSynchronized
  subst hsz
  have hD := hD0.self (sz := s.heap.size)
  generalize hAe : va_A [(h0, .inr (15, fs)), (q 1, .inl ((cm 1), 1749, .inl g))] s.heap.size = A at hD ⊢
  have hA : ∀ q : Nat, s.heap.size ≤ q → A q := fun q h => by rw [← hAe]; exact Or.inr h
  have hS : va_S A s.heap s.heap [] := va_S.rf
  have hP : va_P (dC, dI) vwCl [(h0, .inr (15, fs)), (q 1, .inl ((cm 1), 1749, .inl g))] s.heap := hP
  have hl := lv_entry ([.ref h0, .int sq]) (n := 2) (Nat.le_of_ble_eq_true rfl)
  rw [lg_entry_eq]
  generalize (lg_sl ([.ref h0, .int sq]) ++ List.replicate (2 - (lg_sl ([.ref h0, .int sq])).length) Slot.unset).toArray = ls at hl ⊢
  have hl : lv_has ls 2 [(0, .ref h0), (1, .int sq)] := hl
  refine lv_aload_n hx hb dX12_isLand_0 rfl (lv_at hl 0 rfl) ?_
  refine va_get (D := (dC, dI)) (ci := 15) (v := .ref (q 1)) (C := RX12) (T := TX12) (N := 78) hx hb hts bF_X12 hown hK hP 0 rfl rfl 1 (by decide) (ht_at hts 0 rfl) (fun _ h9 => h9) hw dX12_isLand_1 ?_
  refine lv_iconst (v := 0) hx hb dX12_isLand_4 (by decide) ?_
  refine lv_iload_n hx hb dX12_isLand_5 rfl (lv_at hl 1 rfl) ?_
  refine lv_iadd hx hb dX12_isLand_6 ?_
  refine lv_topi (fun x1 ex1 => ?_)
  refine va_iald hx hb hK hP 1 0 rfl rfl (by rw [ex1]; exact vin_add hsq (by decide) (by decide) (by decide)) dX12_isLand_7 ?_
  refine lv_topi (fun x2 ex2 => ?_)
  obtain rfl : 0 = x2 := (ex2.trans (by rw [ex1, Int32.zero_add]; exact hz)).symm
  refine lv_iconst (v := 1) hx hb dX12_isLand_8 (by decide) ?_
  refine lv_icmp_ne (tgt := 16) hx hb dX12_isLand_9 (by decide) (fun c3 => ?_) (fun c3 => absurd c3 (by decide))
  refine lv_iconst (v := 0) hx hb dX12_isLand_16 (by decide) ?_
  exact W.zret (v := 0) hx hb hr (by decide) (fun t ht hW => ⟨⟨0, (), rfl, (by rfl), by rw [ht]; exact hP.sub (ws' := [(h0, .inr (15, fs)), (q 1, .inl ((cm 1), 1749, .inl g))]) [0, 1] rfl, hD.sub (ws' := [(h0, .inr (15, fs)), (q 1, .inl ((cm 1), 1749, .inl g))]) [0, 1] (by decide) rfl⟩, hS.F ht⟩) hS.2.2 dX12_isLand_17
def w_m_land : List Cond := .code yX12_land cX12_land 8 (some .int) :: ([.fieldLink RX12 194 "SeaLandModel" "thrown" "I", .code yX12_noSquare cX12_noSquare 1 (some .boolean), .code yX12_in cX12_in 3 (some .boolean), .methodLink RX12 197 yX12_in, .static yX12_in, .initialized RX12, .methodLink RX12 220 yX12_noSquare, .static yX12_noSquare, .code yX12_throwsIf cX12_throwsIf 3 (some .boolean), .methodLink RX12 224 yX12_throwsIf, .instanceMethod yX12_throwsIf, .selects RX12 yX12_throwsIf yX12_throwsIf, .code yX12_hour cX12_hour 1 (some .int), .fieldLink RX12 9 "SeaLandModel" "world" "[I", .methodLink RX12 228 yX12_hour, .instanceMethod yX12_hour, .selects RX12 yX12_hour yX12_hour, .fieldLink RX12 238 "SeaLandModel" "rows" "I", .code yX12_isIn cX12_isIn 5 (some .boolean), .methodLink RX12 207 Lib.Math.min.name, .static Lib.Math.min.name, .initialized "java/lang/Math", .code Lib.Math.min.name Lib.Math.min.code 2 (some .int), .methodLink RX12 211 Lib.Math.max.name, .static Lib.Math.max.name, .code Lib.Math.max.name Lib.Math.max.code 2 (some .int), .methodLink RX12 232 yX12_isIn, .static yX12_isIn, .code yX12_isLand cX12_isLand 2 (some .boolean), .methodLink RX12 235 yX12_isLand, .instanceMethod yX12_isLand, .selects RX12 yX12_isLand yX12_isLand] ++ bs)
set_option maxHeartbeats 4000000 in
set_option maxRecDepth 100000 in
theorem m_land (l : Launch) (dC : Nat → ClassId) (dI : Nat → Nat → Nat) (h0 : Nat) (q : Nat → Nat) (cm : Nat → ClassId) (p0 p1 p2 p3 p4 : Int32) (sz : Nat) : Met l yX12_land w_m_land ({ frames := 2, cells := 0, slots := 0, locals := 64 }) (va_Pc [.ref h0, .int p0, .int p1, .int p2, .int p3, .int p4] (fun U => U.heap.size = sz ∧ va_P (dC, dI) vwCl [(h0, .inr (15, mF q 0)), (q 1, .inl ((cm 1), 1749, .inl (fun _ => 0)))] U.heap ∧ va_K (dC, dI) vwCl [((cm 1), .int)] U ∧ va_D (fun _ => True) [(h0, .inr (15, mF q 0)), (q 1, .inl ((cm 1), 1749, .inl (fun _ => 0)))])) (va_Qi (fun (r : Int32) (u : List Value) => u[0]? = some (.int (T_land p0 p1 p2 p3 p4).1) ∧ ((T_land p0 p1 p2 p3 p4).1 = 0 → r = (T_land p0 p1 p2 p3 p4).2)) (fun (fs : List Value) (t : State) => va_P (dC, dI) vwCl [(h0, .inr (15, fs))] t.heap ∧ va_D (va_A [(h0, .inr (15, mF q 0)), (q 1, .inl ((cm 1), 1749, .inl (fun _ => 0)))] sz) [(h0, .inr (15, fs))]) (va_A [(h0, .inr (15, mF q 0)), (q 1, .inl ((cm 1), 1749, .inl (fun _ => 0)))] sz)) 0 0 (va_A [(h0, .inr (15, mF q 0)), (q 1, .inl ((cm 1), 1749, .inl (fun _ => 0)))] sz) := by
  refine Met.ofW (cc := cX12_land) (maxL := 8) (ret := (some .int)) (by decide) rfl ?_
  intro p e s m args below meth c s₁ B hml hv
  obtain ⟨rfl, hsz, hP, hK, hD0⟩ := hv
  have hx := B.exec
  have hb := B.bytes
  have hr := B.returns
  have hts := atoms_spec (ws := w_m_land) B.pre
  have hown : s.vm.findClass RX12 = some m.cls := findClass_of_methodNamed B.named
  have hlocks := B.notSynchronized
  subst hsz
  have hD := hD0.self (sz := s.heap.size)
  generalize hAe : va_A [(h0, .inr (15, mF q 0)), (q 1, .inl ((cm 1), 1749, .inl (fun _ => 0)))] s.heap.size = A at hD ⊢
  have hA : ∀ q : Nat, s.heap.size ≤ q → A q := fun q h => by rw [← hAe]; exact Or.inr h
  have hS : va_S A s.heap s.heap [] := va_S.rf
  have hP : va_P (dC, dI) vwCl [(h0, .inr (15, mF q 0)), (q 1, .inl ((cm 1), 1749, .inl (fun _ => 0)))] s.heap := hP
  have hl := lv_entry ([.ref h0, .int p0, .int p1, .int p2, .int p3, .int p4]) (n := 8) (Nat.le_of_ble_eq_true rfl)
  rw [lg_entry_eq]
  generalize (lg_sl ([.ref h0, .int p0, .int p1, .int p2, .int p3, .int p4]) ++ List.replicate (8 - (lg_sl ([.ref h0, .int p0, .int p1, .int p2, .int p3, .int p4])).length) Slot.unset).toArray = ls at hl ⊢
  have hl : lv_has ls 8 [(0, .ref h0), (1, .int p0), (2, .int p1), (3, .int p2), (4, .int p3), (5, .int p4)] := hl
  refine lv_aload_n hx hb dX12_land_0 rfl (lv_at hl 0 rfl) ?_
  refine lv_iconst (v := 0) hx hb dX12_land_1 (by decide) ?_
  refine va_put (D := (dC, dI)) (ci := 15) (v := .int 0) (ty := .int) (C := RX12) (T := TX12) (N := 78) hx hb hts bF_X12 tyX12 tyX12_ok nmX12 hown hK hP hD hS 0 rfl rfl 0 (by decide) (ht_at hts 0 rfl) (fun _ h9 => h9) rfl (by decide +kernel) rfl rfl (Nat.le_of_ble_eq_true rfl) dX12_land_2 (fun H locs hP hD hS => ?_)
  have hP : va_P (dC, dI) vwCl [(h0, .inr (15, mF q 0)), (q 1, .inl ((cm 1), 1749, .inl (fun _ => 0)))] H := hP
  have hD : va_D A [(h0, .inr (15, mF q 0)), (q 1, .inl ((cm 1), 1749, .inl (fun _ => 0)))] := hD
  refine lv_aload_n hx hb dX12_land_5 rfl (lv_at hl 0 rfl) ?_
  refine lv_iload_n hx hb dX12_land_6 rfl (lv_at hl 1 rfl) ?_
  have hPc := hP.sub (ws' := []) [] rfl
  have hDc := hD.sub (ws' := []) [] (by decide) rfl
  have hKc := hK.sub (tys' := []) [] rfl
  have hFc := va_free (wc := []) hD hS hA [] rfl
  refine va_calli (va_runS (As := [.int p0]) (rest := [.ref h0]) ⟨hx, hb, hml, hown, hts⟩ (c_m_noSquare l dC dI p0 H.size ) (va_cwS 1 hts (goodIn_app (goodIn_r _ [7, 8, 6] (by decide +kernel) (by decide +kernel)) (goodIn_ca (goodIn_r _ [2, 3, 4, 5, 6] (by decide +kernel) (by decide +kernel)) (bs_in _ _))) rfl rfl rfl (by decide +kernel) ⟨(Nat.le_of_ble_eq_true rfl), (Nat.le_of_ble_eq_true rfl)⟩) ⟨fun a U g mk q => by obtain ⟨q0, q1, qP, qK, qD⟩ := q; exact ⟨q0, q1, qP, va_K.moved (u := U) (U := U.calling g mk a) (Vm.Alike.refl U.vm) qK, qD⟩, fun U hU hW => ⟨rfl, by rw [hU], by rw [hU]; exact hPc, va_K.moved hW.alike hKc, hDc.weaken (fun _ _ _ _ => trivial)⟩⟩ rfl rfl hl.1 rfl (lv_room (Nat.le_of_ble_eq_true rfl)) dX12_land_7 ⟨(Nat.le_of_ble_eq_true rfl), (Nat.le_of_ble_eq_true rfl)⟩) hS (fun q _ h => hFc q h) hFc (fun r2 u t H1 locs ht hvm hw3 hB hz1 hk1 hS => ?_)
  have hP1 : va_P (dC, dI) vwCl [] H1 := nilP
  have hD1 : va_D (va_A [] H.size) [] := nilD
  have hK := hK
  obtain ⟨hP, hD⟩ := va_join (wr := [(h0, .inr (15, mF q 0)), (q 1, .inl ((cm 1), 1749, .inl (fun _ => 0)))]) (w1 := []) hP hD [] [0, 1] rfl rfl (by decide) (by decide) hk1 hFc hP1 hD1
  generalize H1 = H at hP hS ⊢
  have hP : va_P (dC, dI) vwCl [(h0, .inr (15, mF q 0)), (q 1, .inl ((cm 1), 1749, .inl (fun _ => 0)))] H := hP
  have hD : va_D A [(h0, .inr (15, mF q 0)), (q 1, .inl ((cm 1), 1749, .inl (fun _ => 0)))] := hD
  try dsimp only at hw3
  by_cases hc4 : 0 ≤ p0 ∧ p0 ≤ 95
  · rw [if_pos hc4] at hw3
    subst hw3
    refine lv_if_ne (tgt := 20) hx hb dX12_land_10 (by decide) (fun c5 => absurd c5 (by decide)) (fun c5 => ?_)
    refine lv_iload_n hx hb dX12_land_13 rfl (lv_at hl 2 rfl) ?_
    have hPc := hP.sub (ws' := []) [] rfl
    have hDc := hD.sub (ws' := []) [] (by decide) rfl
    have hKc := hK.sub (tys' := []) [] rfl
    have hFc := va_free (wc := []) hD hS hA [] rfl
    refine va_calli (va_runS (As := [.int p1]) (rest := [.ref h0]) ⟨hx, hb, hml, hown, hts⟩ (c_m_noSquare l dC dI p1 H.size ) (va_cwS 1 hts (goodIn_app (goodIn_r _ [7, 8, 6] (by decide +kernel) (by decide +kernel)) (goodIn_ca (goodIn_r _ [2, 3, 4, 5, 6] (by decide +kernel) (by decide +kernel)) (bs_in _ _))) rfl rfl rfl (by decide +kernel) ⟨(Nat.le_of_ble_eq_true rfl), (Nat.le_of_ble_eq_true rfl)⟩) ⟨fun a U g mk q => by obtain ⟨q0, q1, qP, qK, qD⟩ := q; exact ⟨q0, q1, qP, va_K.moved (u := U) (U := U.calling g mk a) (Vm.Alike.refl U.vm) qK, qD⟩, fun U hU hW => ⟨rfl, by rw [hU], by rw [hU]; exact hPc, va_K.moved hW.alike hKc, hDc.weaken (fun _ _ _ _ => trivial)⟩⟩ rfl rfl hl.1 rfl (lv_room (Nat.le_of_ble_eq_true rfl)) dX12_land_14 ⟨(Nat.le_of_ble_eq_true rfl), (Nat.le_of_ble_eq_true rfl)⟩) hS (fun q _ h => hFc q h) hFc (fun r7 u t H1 locs ht hvm hw8 hB hz1 hk1 hS => ?_)
    have hP1 : va_P (dC, dI) vwCl [] H1 := nilP
    have hD1 : va_D (va_A [] H.size) [] := nilD
    have hK := hK
    obtain ⟨hP, hD⟩ := va_join (wr := [(h0, .inr (15, mF q 0)), (q 1, .inl ((cm 1), 1749, .inl (fun _ => 0)))]) (w1 := []) hP hD [] [0, 1] rfl rfl (by decide) (by decide) hk1 hFc hP1 hD1
    generalize H1 = H at hP hS ⊢
    have hP : va_P (dC, dI) vwCl [(h0, .inr (15, mF q 0)), (q 1, .inl ((cm 1), 1749, .inl (fun _ => 0)))] H := hP
    have hD : va_D A [(h0, .inr (15, mF q 0)), (q 1, .inl ((cm 1), 1749, .inl (fun _ => 0)))] := hD
    try dsimp only at hw8
    by_cases hc9 : 0 ≤ p1 ∧ p1 ≤ 95
    · rw [if_pos hc9] at hw8
      subst hw8
      refine lv_if_eq (tgt := 24) hx hb dX12_land_17 (by decide) (fun c10 => ?_) (fun c10 => absurd c10 (by decide))
      refine lv_iconst (v := 0) hx hb dX12_land_24 (by decide) ?_
      refine lv_iconst (v := 1) hx hb dX12_land_25 (by decide) ?_
      have hPc := hP.sub (ws' := [(h0, .inr (15, mF q 0))]) [0] rfl
      have hDc := hD.sub (ws' := [(h0, .inr (15, mF q 0))]) [0] (by decide) rfl
      have hKc := hK.sub (tys' := []) [] rfl
      have hFc := va_free (wc := [(h0, .inr (15, mF q 0))]) hD hS hA [0] rfl
      refine va_calli (va_runV (As := [.int 0, .int 1]) (rest := []) ⟨hx, hb, hml, hown, hts⟩ (c_m_throwsIf0 l dC dI h0 (mF q 0) 1 H.size ) (cwV 2 hts (goodIn_app (goodIn_r _ [10, 11, 12, 6] (by decide +kernel) (by decide +kernel)) (goodIn_ca (goodIn_r _ [9] (by decide +kernel) (by decide +kernel)) (bs_in _ _))) rfl rfl rfl (by decide +kernel) ⟨(Nat.le_of_ble_eq_true rfl), (Nat.le_of_ble_eq_true rfl)⟩) ⟨fun a U g mk q => by obtain ⟨q0, q1, qP, qK, qD⟩ := q; exact ⟨q0, q1, qP, va_K.moved (u := U) (U := U.calling g mk a) (Vm.Alike.refl U.vm) qK, qD⟩, va_recv hKc hPc (ci := 15) (q0 := 0) rfl rfl, fun U hU hW => ⟨rfl, by rw [hU], by rw [hU]; exact hPc, va_K.moved hW.alike hKc, hDc.weaken (fun _ _ _ _ => trivial)⟩⟩ rfl rfl hl.1 rfl (lv_room (Nat.le_of_ble_eq_true rfl)) dX12_land_26 ⟨(Nat.le_of_ble_eq_true rfl), (Nat.le_of_ble_eq_true rfl)⟩) hS (fun q _ h => hFc q h) hFc (fun r12 u t H1 locs ht hvm hw13 hB hz1 hk1 hS => ?_)
      obtain ⟨hP1, hD1⟩ := hB
      rw [ht] at hP1
      obtain ⟨hP, hD⟩ := va_join (wr := [(q 1, .inl ((cm 1), 1749, .inl (fun _ => 0)))]) (w1 := [(h0, .inr (15, mF q 0))]) hP hD [0] [1] rfl rfl (by decide) (by decide) hk1 hFc hP1 hD1
      generalize H1 = H at hP hS ⊢
      have hP : va_P (dC, dI) vwCl [(q 1, .inl ((cm 1), 1749, .inl (fun _ => 0))), (h0, .inr (15, mF q 0))] H := hP
      have hD : va_D A [(q 1, .inl ((cm 1), 1749, .inl (fun _ => 0))), (h0, .inr (15, mF q 0))] := hD
      try dsimp only at hw13
      obtain rfl : 0 = r12 := (hw13).symm
      refine lv_if_ne (tgt := 99) hx hb dX12_land_29 (by decide) (fun c14 => absurd c14 (by decide)) (fun c14 => ?_)
      refine lv_aload_n hx hb dX12_land_32 rfl (lv_at hl 0 rfl) ?_
      refine lv_iload_n hx hb dX12_land_33 rfl (lv_at hl 3 rfl) ?_
      refine lv_sipush (v := (-900)) hx hb dX12_land_34 (by decide) ?_
      refine lv_sipush (v := 300) hx hb dX12_land_37 (by decide) ?_
      have hPc := hP.sub (ws' := []) [] rfl
      have hDc := hD.sub (ws' := []) [] (by decide) rfl
      have hKc := hK.sub (tys' := []) [] rfl
      have hFc := va_free (wc := []) hD hS hA [] rfl
      refine va_calli (va_runS (As := [.int p2, .int (-900), .int 300]) (rest := [.ref h0]) ⟨hx, hb, hml, hown, hts⟩ (c_min_ l dC dI p2 (-900) 300 H.size ) (va_cwS 3 hts (goodIn_app (goodIn_r _ [4, 5, 6] (by decide +kernel) (by decide +kernel)) (goodIn_ca (goodIn_r _ [3] (by decide +kernel) (by decide +kernel)) (bs_in _ _))) rfl rfl rfl (by decide +kernel) ⟨(Nat.le_of_ble_eq_true rfl), (Nat.le_of_ble_eq_true rfl)⟩) ⟨fun a U g mk q => by obtain ⟨q0, q1, qP, qK, qD⟩ := q; exact ⟨q0, q1, qP, va_K.moved (u := U) (U := U.calling g mk a) (Vm.Alike.refl U.vm) qK, qD⟩, fun U hU hW => ⟨rfl, by rw [hU], by rw [hU]; exact hPc, va_K.moved hW.alike hKc, hDc.weaken (fun _ _ _ _ => trivial)⟩⟩ rfl rfl hl.1 rfl (lv_room (Nat.le_of_ble_eq_true rfl)) dX12_land_40 ⟨(Nat.le_of_ble_eq_true rfl), (Nat.le_of_ble_eq_true rfl)⟩) hS (fun q _ h => hFc q h) hFc (fun r16 u t H1 locs ht hvm hw17 hB hz1 hk1 hS => ?_)
      have hP1 : va_P (dC, dI) vwCl [] H1 := nilP
      have hD1 : va_D (va_A [] H.size) [] := nilD
      have hK := hK
      obtain ⟨hP, hD⟩ := va_join (wr := [(q 1, .inl ((cm 1), 1749, .inl (fun _ => 0))), (h0, .inr (15, mF q 0))]) (w1 := []) hP hD [] [0, 1] rfl rfl (by decide) (by decide) hk1 hFc hP1 hD1
      generalize H1 = H at hP hS ⊢
      have hP : va_P (dC, dI) vwCl [(q 1, .inl ((cm 1), 1749, .inl (fun _ => 0))), (h0, .inr (15, mF q 0))] H := hP
      have hD : va_D A [(q 1, .inl ((cm 1), 1749, .inl (fun _ => 0))), (h0, .inr (15, mF q 0))] := hD
      try dsimp only at hw17
      by_cases hc18 : (-900 : Int32) ≤ p2 ∧ p2 ≤ (300 : Int32)
      · rw [if_pos hc18] at hw17
        subst hw17
        refine lv_if_eq (tgt := 67) hx hb dX12_land_43 (by decide) (fun c19 => absurd c19 (by decide)) (fun c19 => ?_)
        refine lv_iload hx hb dX12_land_46 (lv_at hl 4 rfl) ?_
        refine lv_iconst (v := 0) hx hb dX12_land_48 (by decide) ?_
        refine lv_iconst (v := 2) hx hb dX12_land_49 (by decide) ?_
        have hPc := hP.sub (ws' := []) [] rfl
        have hDc := hD.sub (ws' := []) [] (by decide) rfl
        have hKc := hK.sub (tys' := []) [] rfl
        have hFc := va_free (wc := []) hD hS hA [] rfl
        refine va_calli (va_runS (As := [.int p3, .int 0, .int 2]) (rest := [.ref h0]) ⟨hx, hb, hml, hown, hts⟩ (c_min_ l dC dI p3 0 2 H.size ) (va_cwS 3 hts (goodIn_app (goodIn_r _ [4, 5, 6] (by decide +kernel) (by decide +kernel)) (goodIn_ca (goodIn_r _ [3] (by decide +kernel) (by decide +kernel)) (bs_in _ _))) rfl rfl rfl (by decide +kernel) ⟨(Nat.le_of_ble_eq_true rfl), (Nat.le_of_ble_eq_true rfl)⟩) ⟨fun a U g mk q => by obtain ⟨q0, q1, qP, qK, qD⟩ := q; exact ⟨q0, q1, qP, va_K.moved (u := U) (U := U.calling g mk a) (Vm.Alike.refl U.vm) qK, qD⟩, fun U hU hW => ⟨rfl, by rw [hU], by rw [hU]; exact hPc, va_K.moved hW.alike hKc, hDc.weaken (fun _ _ _ _ => trivial)⟩⟩ rfl rfl hl.1 rfl (lv_room (Nat.le_of_ble_eq_true rfl)) dX12_land_50 ⟨(Nat.le_of_ble_eq_true rfl), (Nat.le_of_ble_eq_true rfl)⟩) hS (fun q _ h => hFc q h) hFc (fun r21 u t H1 locs ht hvm hw22 hB hz1 hk1 hS => ?_)
        have hP1 : va_P (dC, dI) vwCl [] H1 := nilP
        have hD1 : va_D (va_A [] H.size) [] := nilD
        have hK := hK
        obtain ⟨hP, hD⟩ := va_join (wr := [(q 1, .inl ((cm 1), 1749, .inl (fun _ => 0))), (h0, .inr (15, mF q 0))]) (w1 := []) hP hD [] [0, 1] rfl rfl (by decide) (by decide) hk1 hFc hP1 hD1
        generalize H1 = H at hP hS ⊢
        have hP : va_P (dC, dI) vwCl [(q 1, .inl ((cm 1), 1749, .inl (fun _ => 0))), (h0, .inr (15, mF q 0))] H := hP
        have hD : va_D A [(q 1, .inl ((cm 1), 1749, .inl (fun _ => 0))), (h0, .inr (15, mF q 0))] := hD
        try dsimp only at hw22
        by_cases hc23 : (0 : Int32) ≤ p3 ∧ p3 ≤ (2 : Int32)
        · rw [if_pos hc23] at hw22
          subst hw22
          refine lv_if_eq (tgt := 67) hx hb dX12_land_53 (by decide) (fun c24 => absurd c24 (by decide)) (fun c24 => ?_)
          refine lv_iload hx hb dX12_land_56 (lv_at hl 5 rfl) ?_
          refine lv_iconst (v := 0) hx hb dX12_land_58 (by decide) ?_
          refine lv_bipush (v := 20) hx hb dX12_land_59 (by decide) ?_
          have hPc := hP.sub (ws' := []) [] rfl
          have hDc := hD.sub (ws' := []) [] (by decide) rfl
          have hKc := hK.sub (tys' := []) [] rfl
          have hFc := va_free (wc := []) hD hS hA [] rfl
          refine va_calli (va_runS (As := [.int p4, .int 0, .int 20]) (rest := [.ref h0]) ⟨hx, hb, hml, hown, hts⟩ (c_min_ l dC dI p4 0 20 H.size ) (va_cwS 3 hts (goodIn_app (goodIn_r _ [4, 5, 6] (by decide +kernel) (by decide +kernel)) (goodIn_ca (goodIn_r _ [3] (by decide +kernel) (by decide +kernel)) (bs_in _ _))) rfl rfl rfl (by decide +kernel) ⟨(Nat.le_of_ble_eq_true rfl), (Nat.le_of_ble_eq_true rfl)⟩) ⟨fun a U g mk q => by obtain ⟨q0, q1, qP, qK, qD⟩ := q; exact ⟨q0, q1, qP, va_K.moved (u := U) (U := U.calling g mk a) (Vm.Alike.refl U.vm) qK, qD⟩, fun U hU hW => ⟨rfl, by rw [hU], by rw [hU]; exact hPc, va_K.moved hW.alike hKc, hDc.weaken (fun _ _ _ _ => trivial)⟩⟩ rfl rfl hl.1 rfl (lv_room (Nat.le_of_ble_eq_true rfl)) dX12_land_61 ⟨(Nat.le_of_ble_eq_true rfl), (Nat.le_of_ble_eq_true rfl)⟩) hS (fun q _ h => hFc q h) hFc (fun r26 u t H1 locs ht hvm hw27 hB hz1 hk1 hS => ?_)
          have hP1 : va_P (dC, dI) vwCl [] H1 := nilP
          have hD1 : va_D (va_A [] H.size) [] := nilD
          have hK := hK
          obtain ⟨hP, hD⟩ := va_join (wr := [(q 1, .inl ((cm 1), 1749, .inl (fun _ => 0))), (h0, .inr (15, mF q 0))]) (w1 := []) hP hD [] [0, 1] rfl rfl (by decide) (by decide) hk1 hFc hP1 hD1
          generalize H1 = H at hP hS ⊢
          have hP : va_P (dC, dI) vwCl [(q 1, .inl ((cm 1), 1749, .inl (fun _ => 0))), (h0, .inr (15, mF q 0))] H := hP
          have hD : va_D A [(q 1, .inl ((cm 1), 1749, .inl (fun _ => 0))), (h0, .inr (15, mF q 0))] := hD
          try dsimp only at hw27
          by_cases hc28 : (0 : Int32) ≤ p4 ∧ p4 ≤ (20 : Int32)
          · rw [if_pos hc28] at hw27
            subst hw27
            refine lv_if_ne (tgt := 71) hx hb dX12_land_64 (by decide) (fun c29 => ?_) (fun c29 => absurd c29 (by decide))
            refine lv_iconst (v := 0) hx hb dX12_land_71 (by decide) ?_
            refine lv_iconst (v := 2) hx hb dX12_land_72 (by decide) ?_
            have hPc := hP.sub (ws' := [(h0, .inr (15, mF q 0))]) [1] rfl
            have hDc := hD.sub (ws' := [(h0, .inr (15, mF q 0))]) [1] (by decide) rfl
            have hKc := hK.sub (tys' := []) [] rfl
            have hFc := va_free (wc := [(h0, .inr (15, mF q 0))]) hD hS hA [1] rfl
            refine va_calli (va_runV (As := [.int 0, .int 2]) (rest := []) ⟨hx, hb, hml, hown, hts⟩ (c_m_throwsIf0 l dC dI h0 (mF q 0) 2 H.size ) (cwV 2 hts (goodIn_app (goodIn_r _ [10, 11, 12, 6] (by decide +kernel) (by decide +kernel)) (goodIn_ca (goodIn_r _ [9] (by decide +kernel) (by decide +kernel)) (bs_in _ _))) rfl rfl rfl (by decide +kernel) ⟨(Nat.le_of_ble_eq_true rfl), (Nat.le_of_ble_eq_true rfl)⟩) ⟨fun a U g mk q => by obtain ⟨q0, q1, qP, qK, qD⟩ := q; exact ⟨q0, q1, qP, va_K.moved (u := U) (U := U.calling g mk a) (Vm.Alike.refl U.vm) qK, qD⟩, va_recv hKc hPc (ci := 15) (q0 := 0) rfl rfl, fun U hU hW => ⟨rfl, by rw [hU], by rw [hU]; exact hPc, va_K.moved hW.alike hKc, hDc.weaken (fun _ _ _ _ => trivial)⟩⟩ rfl rfl hl.1 rfl (lv_room (Nat.le_of_ble_eq_true rfl)) dX12_land_73 ⟨(Nat.le_of_ble_eq_true rfl), (Nat.le_of_ble_eq_true rfl)⟩) hS (fun q _ h => hFc q h) hFc (fun r31 u t H1 locs ht hvm hw32 hB hz1 hk1 hS => ?_)
            obtain ⟨hP1, hD1⟩ := hB
            rw [ht] at hP1
            obtain ⟨hP, hD⟩ := va_join (wr := [(q 1, .inl ((cm 1), 1749, .inl (fun _ => 0)))]) (w1 := [(h0, .inr (15, mF q 0))]) hP hD [1] [0] rfl rfl (by decide) (by decide) hk1 hFc hP1 hD1
            generalize H1 = H at hP hS ⊢
            have hP : va_P (dC, dI) vwCl [(q 1, .inl ((cm 1), 1749, .inl (fun _ => 0))), (h0, .inr (15, mF q 0))] H := hP
            have hD : va_D A [(q 1, .inl ((cm 1), 1749, .inl (fun _ => 0))), (h0, .inr (15, mF q 0))] := hD
            try dsimp only at hw32
            obtain rfl : 0 = r31 := (hw32).symm
            refine lv_if_ne (tgt := 99) hx hb dX12_land_76 (by decide) (fun c33 => absurd c33 (by decide)) (fun c33 => ?_)
            refine lv_aload_n hx hb dX12_land_79 rfl (lv_at hl 0 rfl) ?_
            refine lv_aload_n hx hb dX12_land_80 rfl (lv_at hl 0 rfl) ?_
            have hPc := hP.sub (ws' := [(h0, .inr (15, mF q 0)), (q 1, .inl ((cm 1), 1749, .inl (fun _ => 0)))]) [1, 0] rfl
            have hDc := hD.sub (ws' := [(h0, .inr (15, mF q 0)), (q 1, .inl ((cm 1), 1749, .inl (fun _ => 0)))]) [1, 0] (by decide) rfl
            have hKc := hK.sub (tys' := [((cm 1), .int)]) [0] rfl
            have hFc := va_free (wc := [(h0, .inr (15, mF q 0)), (q 1, .inl ((cm 1), 1749, .inl (fun _ => 0)))]) hD hS hA [1, 0] rfl
            refine va_calli (va_runV (As := []) (rest := [.ref h0]) ⟨hx, hb, hml, hown, hts⟩ (m_hour l dC dI h0 q cm H.size ) (cwV 0 hts (goodIn_app (goodIn_r _ [15, 16, 17, 6] (by decide +kernel) (by decide +kernel)) (goodIn_ca (goodIn_r _ [13, 14] (by decide +kernel) (by decide +kernel)) (bs_in _ _))) rfl rfl rfl (by decide +kernel) ⟨(Nat.le_of_ble_eq_true rfl), (Nat.le_of_ble_eq_true rfl)⟩) ⟨fun a U g mk q => by obtain ⟨q0, q1, qP, qK, qD⟩ := q; exact ⟨q0, q1, qP, va_K.moved (u := U) (U := U.calling g mk a) (Vm.Alike.refl U.vm) qK, qD⟩, va_recv hKc hPc (ci := 15) (q0 := 0) rfl rfl, fun U hU hW => ⟨rfl, by rw [hU], by rw [hU]; exact hPc, va_K.moved hW.alike hKc, hDc.weaken (fun _ _ _ _ => trivial)⟩⟩ rfl rfl hl.1 rfl (lv_room (Nat.le_of_ble_eq_true rfl)) dX12_land_81 ⟨(Nat.le_of_ble_eq_true rfl), (Nat.le_of_ble_eq_true rfl)⟩) hS (fun q _ h => hFc q h) hFc (fun r35 u t H1 locs ht hvm hw36 hB hz1 hk1 hS => ?_)
            obtain ⟨hP1, hD1⟩ := hB
            rw [ht] at hP1
            obtain ⟨hP, hD⟩ := va_join (wr := []) (w1 := [(h0, .inr (15, mF q 0)), (q 1, .inl ((cm 1), 1749, .inl (fun _ => 0)))]) hP hD [1, 0] [] rfl rfl (by decide) (by decide) hk1 hFc hP1 hD1
            generalize H1 = H at hP hS ⊢
            have hP : va_P (dC, dI) vwCl [(h0, .inr (15, mF q 0)), (q 1, .inl ((cm 1), 1749, .inl (fun _ => 0)))] H := hP
            have hD : va_D A [(h0, .inr (15, mF q 0)), (q 1, .inl ((cm 1), 1749, .inl (fun _ => 0)))] := hD
            try dsimp only at hw36
            obtain rfl : 0 = r35 := (hw36).symm
            refine lv_if_le (tgt := 91) hx hb dX12_land_84 (by decide) (fun c37 => ?_) (fun c37 => absurd c37 (by decide))
            refine lv_iconst (v := 0) hx hb dX12_land_91 (by decide) ?_
            refine lv_iconst (v := 3) hx hb dX12_land_92 (by decide) ?_
            have hPc := hP.sub (ws' := [(h0, .inr (15, mF q 0))]) [0] rfl
            have hDc := hD.sub (ws' := [(h0, .inr (15, mF q 0))]) [0] (by decide) rfl
            have hKc := hK.sub (tys' := []) [] rfl
            have hFc := va_free (wc := [(h0, .inr (15, mF q 0))]) hD hS hA [0] rfl
            refine va_calli (va_runV (As := [.int 0, .int 3]) (rest := []) ⟨hx, hb, hml, hown, hts⟩ (c_m_throwsIf0 l dC dI h0 (mF q 0) 3 H.size ) (cwV 2 hts (goodIn_app (goodIn_r _ [10, 11, 12, 6] (by decide +kernel) (by decide +kernel)) (goodIn_ca (goodIn_r _ [9] (by decide +kernel) (by decide +kernel)) (bs_in _ _))) rfl rfl rfl (by decide +kernel) ⟨(Nat.le_of_ble_eq_true rfl), (Nat.le_of_ble_eq_true rfl)⟩) ⟨fun a U g mk q => by obtain ⟨q0, q1, qP, qK, qD⟩ := q; exact ⟨q0, q1, qP, va_K.moved (u := U) (U := U.calling g mk a) (Vm.Alike.refl U.vm) qK, qD⟩, va_recv hKc hPc (ci := 15) (q0 := 0) rfl rfl, fun U hU hW => ⟨rfl, by rw [hU], by rw [hU]; exact hPc, va_K.moved hW.alike hKc, hDc.weaken (fun _ _ _ _ => trivial)⟩⟩ rfl rfl hl.1 rfl (lv_room (Nat.le_of_ble_eq_true rfl)) dX12_land_93 ⟨(Nat.le_of_ble_eq_true rfl), (Nat.le_of_ble_eq_true rfl)⟩) hS (fun q _ h => hFc q h) hFc (fun r39 u t H1 locs ht hvm hw40 hB hz1 hk1 hS => ?_)
            obtain ⟨hP1, hD1⟩ := hB
            rw [ht] at hP1
            obtain ⟨hP, hD⟩ := va_join (wr := [(q 1, .inl ((cm 1), 1749, .inl (fun _ => 0)))]) (w1 := [(h0, .inr (15, mF q 0))]) hP hD [0] [1] rfl rfl (by decide) (by decide) hk1 hFc hP1 hD1
            generalize H1 = H at hP hS ⊢
            have hP : va_P (dC, dI) vwCl [(q 1, .inl ((cm 1), 1749, .inl (fun _ => 0))), (h0, .inr (15, mF q 0))] H := hP
            have hD : va_D A [(q 1, .inl ((cm 1), 1749, .inl (fun _ => 0))), (h0, .inr (15, mF q 0))] := hD
            try dsimp only at hw40
            obtain rfl : 0 = r39 := (hw40).symm
            refine lv_if_eq (tgt := 101) hx hb dX12_land_96 (by decide) (fun c41 => ?_) (fun c41 => absurd c41 (by decide))
            refine lv_iconst (v := 0) hx hb dX12_land_101 (by decide) ?_
            refine lv_istore (lv' := [(6, .int 0), (0, .ref h0), (1, .int p0), (2, .int p1), (3, .int p2), (4, .int p3), (5, .int p4)]) hx hb dX12_land_102 hl (by decide) rfl (fun ls hl => ?_)
            refine lv_iconst (v := 0) hx hb dX12_land_104 (by decide) ?_
            refine lv_istore (lv' := [(7, .int 0), (6, .int 0), (0, .ref h0), (1, .int p0), (2, .int p1), (3, .int p2), (4, .int p3), (5, .int p4)]) hx hb dX12_land_105 hl (by decide) rfl (fun ls hl => ?_)
            have key42 : ∀ (n42 i : Nat), i + n42 = 96 → ∀ (w : Nat → Int32), ∀ (hg : ∀ j, i ≤ j → j < 96 → w j = 0), ∀ (H : Heap) (locs : List Loc), va_P (dC, dI) vwCl [(q 1, .inl ((cm 1), 1749, .inl w)), (h0, .inr (15, mF q 0))] H → va_D A [(q 1, .inl ((cm 1), 1749, .inl w)), (h0, .inr (15, mF q 0))] → va_S A s.heap H locs → ∀ ls : Array Slot, lv_has ls 8 [(7, .int (nI i)), (6, .int (rc p0 p1 i)), (0, .ref h0), (1, .int p0), (2, .int p1), (3, .int p2), (4, .int p3), (5, .int p4)] → W p l e (headSpec w_m_land ({ frames := 2, cells := 0, slots := 0, locals := 64 })).room s m #[.ref h0, .int p0, .int p1, .int p2, .int p3, .int p4] below meth c H locs 0 0 (MQ below (va_Qi (fun (r : Int32) (u : List Value) => u[0]? = some (.int (T_land p0 p1 p2 p3 p4).1) ∧ ((T_land p0 p1 p2 p3 p4).1 = 0 → r = (T_land p0 p1 p2 p3 p4).2)) (fun (fs : List Value) (t : State) => va_P (dC, dI) vwCl [(h0, .inr (15, fs))] t.heap ∧ va_D A [(h0, .inr (15, fs))]) A) #[.ref h0, .int p0, .int p1, .int p2, .int p3, .int p4] s 0 0 A) (F0 m 107 ls []) := by
              intro n42
              induction n42 with
              | zero =>
                intro i hn42 w hg H locs hP hD hS ls hl
                obtain rfl : 96 = i := by omega
                refine lv_iload hx hb dX12_land_107 (lv_at hl 0 rfl) ?_
                refine lv_bipush (v := 96) hx hb dX12_land_109 (by decide) ?_
                refine lv_icmp_ge (tgt := 245) hx hb dX12_land_111 (by decide) (fun c43 => ?_) (fun c43 => absurd c43 (by decide))
                refine lv_aload_n hx hb dX12_land_245 rfl (lv_at hl 2 rfl) ?_
                refine lv_iconst (v := 0) hx hb dX12_land_246 (by decide) ?_
                refine va_put (D := (dC, dI)) (ci := 15) (v := .int 0) (ty := .int) (C := RX12) (T := TX12) (N := 78) hx hb hts bF_X12 tyX12 tyX12_ok nmX12 hown hK hP hD hS 1 rfl rfl 9 (by decide) (ht_at hts 17 rfl) (fun _ h9 => h9) rfl (by decide +kernel) rfl rfl (Nat.le_of_ble_eq_true rfl) dX12_land_247 (fun H locs hP hD hS => ?_)
                have hP : va_P (dC, dI) vwCl [(q 1, .inl ((cm 1), 1749, .inl w)), (h0, .inr (15, mF q 0))] H := hP
                have hD : va_D A [(q 1, .inl ((cm 1), 1749, .inl w)), (h0, .inr (15, mF q 0))] := hD
                refine lv_iload hx hb dX12_land_250 (lv_at hl 1 rfl) ?_
                exact W.iret (v := rc p0 p1 96) hx hb hr (fun t ht hW => ⟨⟨rc p0 p1 96, (mF q 0), rfl, (by unfold T_land; rw [if_pos hc4, if_pos hc9, if_pos hc18, if_pos hc23, if_pos hc28]; (first | exact ⟨rfl, fun _ => rfl⟩ | exact ⟨rfl, fun h => absurd h (by decide)⟩)), by rw [ht]; exact hP.sub (ws' := [(h0, .inr (15, mF q 0))]) [1] rfl, hD.sub (ws' := [(h0, .inr (15, mF q 0))]) [1] (by decide) rfl⟩, hS.F ht⟩) hS.2.2 dX12_land_252
              | succ n42 ih42 =>
                intro i hn42 w hg H locs hP hD hS ls hl
                have hlt44 : i < 96 := by omega
                refine lv_iload hx hb dX12_land_107 (lv_at hl 0 rfl) ?_
                refine lv_bipush (v := 96) hx hb dX12_land_109 (by decide) ?_
                refine lv_icmp_ge (tgt := 245) hx hb dX12_land_111 (by decide) (fun c45 => absurd c45 (nI_ge (b := 96) hlt44 (by decide))) (fun c45 => ?_)
                refine lv_iload hx hb dX12_land_114 (lv_at hl 0 rfl) ?_
                refine lv_iload_n hx hb dX12_land_116 rfl (lv_at hl 3 rfl) ?_
                refine lv_iload_n hx hb dX12_land_117 rfl (lv_at hl 4 rfl) ?_
                have hPc := hP.sub (ws' := []) [] rfl
                have hDc := hD.sub (ws' := []) [] (by decide) rfl
                have hKc := hK.sub (tys' := []) [] rfl
                have hFc := va_free (wc := []) hD hS hA [] rfl
                refine va_calli (va_runS (As := [.int (nI i), .int p0, .int p1]) (rest := []) ⟨hx, hb, hml, hown, hts⟩ (m_isIn l dC dI (nI i) p0 p1 H.size ) (va_cwS 3 hts (goodIn_app (goodIn_r _ [27, 28, 6] (by decide +kernel) (by decide +kernel)) (goodIn_ca (goodIn_r _ [19, 20, 21, 22, 23, 24, 25, 26, 3, 4, 5, 6] (by decide +kernel) (by decide +kernel)) (bs_in _ _))) rfl rfl rfl (by decide +kernel) ⟨(Nat.le_of_ble_eq_true rfl), (Nat.le_of_ble_eq_true rfl)⟩) ⟨fun a U g mk q => by obtain ⟨q0, q1, qP, qK, qD⟩ := q; exact ⟨q0, q1, qP, va_K.moved (u := U) (U := U.calling g mk a) (Vm.Alike.refl U.vm) qK, qD⟩, fun U hU hW => ⟨rfl, by rw [hU], by rw [hU]; exact hPc, va_K.moved hW.alike hKc, hDc.weaken (fun _ _ _ _ => trivial)⟩⟩ rfl rfl hl.1 rfl (lv_room (Nat.le_of_ble_eq_true rfl)) dX12_land_118 ⟨(Nat.le_of_ble_eq_true rfl), (Nat.le_of_ble_eq_true rfl)⟩) hS (fun q _ h => hFc q h) hFc (fun r47 u t H1 locs ht hvm hw48 hB hz1 hk1 hS => ?_)
                have hP1 : va_P (dC, dI) vwCl [] H1 := nilP
                have hD1 : va_D (va_A [] H.size) [] := nilD
                have hK := hK
                obtain ⟨hP, hD⟩ := va_join (wr := [(q 1, .inl ((cm 1), 1749, .inl w)), (h0, .inr (15, mF q 0))]) (w1 := []) hP hD [] [0, 1] rfl rfl (by decide) (by decide) hk1 hFc hP1 hD1
                generalize H1 = H at hP hS ⊢
                have hP : va_P (dC, dI) vwCl [(q 1, .inl ((cm 1), 1749, .inl w)), (h0, .inr (15, mF q 0))] H := hP
                have hD : va_D A [(q 1, .inl ((cm 1), 1749, .inl w)), (h0, .inr (15, mF q 0))] := hD
                try dsimp only at hw48
                rcases hw48 with ⟨rfl, hc49⟩ | ⟨rfl, hc49⟩
                · refine lv_if_ne (tgt := 127) hx hb dX12_land_121 (by decide) (fun c50 => ?_) (fun c50 => absurd c50 (by decide))
                  refine lv_iload hx hb dX12_land_127 (lv_at hl 1 rfl) ?_
                  refine lv_aload_n hx hb dX12_land_129 rfl (lv_at hl 2 rfl) ?_
                  refine lv_iload hx hb dX12_land_130 (lv_at hl 0 rfl) ?_
                  have hPc := hP.sub (ws' := [(h0, .inr (15, mF q 0)), (q 1, .inl ((cm 1), 1749, .inl w))]) [1, 0] rfl
                  have hDc := hD.sub (ws' := [(h0, .inr (15, mF q 0)), (q 1, .inl ((cm 1), 1749, .inl w))]) [1, 0] (by decide) rfl
                  have hKc := hK.sub (tys' := [((cm 1), .int)]) [0] rfl
                  have hFc := va_free (wc := [(h0, .inr (15, mF q 0)), (q 1, .inl ((cm 1), 1749, .inl w))]) hD hS hA [1, 0] rfl
                  refine va_calli (va_runV (As := [.int (nI i)]) (rest := [.int (rc p0 p1 i)]) ⟨hx, hb, hml, hown, hts⟩ (mg_isLand l dC dI h0 q cm (mF q 0) w (nI i) H.size rfl ⟨nI_pos' (by omega), nI_le (b := 95) (by omega) (by decide)⟩ (hg _ (by rw [nI_clamp (by omega)]; exact Nat.le_refl _) (by rw [nI_clamp (by omega)]; omega))) (cwV 1 hts (goodIn_app (goodIn_r _ [30, 31, 32, 6] (by decide +kernel) (by decide +kernel)) (goodIn_ca (goodIn_r _ [29, 14] (by decide +kernel) (by decide +kernel)) (bs_in _ _))) rfl rfl rfl (by decide +kernel) ⟨(Nat.le_of_ble_eq_true rfl), (Nat.le_of_ble_eq_true rfl)⟩) ⟨fun a U g mk q => by obtain ⟨q0, q1, qP, qK, qD⟩ := q; exact ⟨q0, q1, qP, va_K.moved (u := U) (U := U.calling g mk a) (Vm.Alike.refl U.vm) qK, qD⟩, va_recv hKc hPc (ci := 15) (q0 := 0) rfl rfl, fun U hU hW => ⟨rfl, by rw [hU], by rw [hU]; exact hPc, va_K.moved hW.alike hKc, hDc.weaken (fun _ _ _ _ => trivial)⟩⟩ rfl rfl hl.1 rfl (lv_room (Nat.le_of_ble_eq_true rfl)) dX12_land_132 ⟨(Nat.le_of_ble_eq_true rfl), (Nat.le_of_ble_eq_true rfl)⟩) hS (fun q _ h => hFc q h) hFc (fun r52 u t H1 locs ht hvm hw53 hB hz1 hk1 hS => ?_)
                  obtain ⟨hP1, hD1⟩ := hB
                  rw [ht] at hP1
                  obtain ⟨hP, hD⟩ := va_join (wr := []) (w1 := [(h0, .inr (15, mF q 0)), (q 1, .inl ((cm 1), 1749, .inl w))]) hP hD [1, 0] [] rfl rfl (by decide) (by decide) hk1 hFc hP1 hD1
                  generalize H1 = H at hP hS ⊢
                  have hP : va_P (dC, dI) vwCl [(h0, .inr (15, mF q 0)), (q 1, .inl ((cm 1), 1749, .inl w))] H := hP
                  have hD : va_D A [(h0, .inr (15, mF q 0)), (q 1, .inl ((cm 1), 1749, .inl w))] := hD
                  try dsimp only at hw53
                  obtain rfl : 0 = r52 := (hw53).symm
                  refine lv_if_eq (tgt := 142) hx hb dX12_land_135 (by decide) (fun c54 => ?_) (fun c54 => absurd c54 (by decide))
                  refine lv_iconst (v := 1) hx hb dX12_land_142 (by decide) ?_
                  refine lv_iadd hx hb dX12_land_143 ?_
                  refine lv_topi (fun x55 ex55 => ?_)
                  refine lv_istore (lv' := [(6, .int x55), (7, .int (nI i)), (0, .ref h0), (1, .int p0), (2, .int p1), (3, .int p2), (4, .int p3), (5, .int p4)]) hx hb dX12_land_144 hl (by decide) rfl (fun ls hl => ?_)
                  refine lv_aload_n hx hb dX12_land_146 rfl (lv_at hl 2 rfl) ?_
                  refine va_get (D := (dC, dI)) (ci := 15) (v := .ref (q 1)) (C := RX12) (T := TX12) (N := 78) hx hb hts bF_X12 hown hK hP 0 rfl rfl 1 (by decide) (ht_at hts 13 rfl) (fun _ h9 => h9) rfl dX12_land_147 ?_
                  refine lv_sipush (v := 1748) hx hb dX12_land_150 (by decide) ?_
                  refine lv_dup2_11 hx hb dX12_land_153 rfl rfl ?_
                  refine va_iald hx hb hK hP 1 0 rfl rfl (by unfold vp_in; decide) dX12_land_154 ?_
                  refine lv_topi (fun x56 ex56 => ?_)
                  refine lv_aload_n hx hb dX12_land_155 rfl (lv_at hl 2 rfl) ?_
                  refine va_get (D := (dC, dI)) (ci := 15) (v := .ref (q 1)) (C := RX12) (T := TX12) (N := 78) hx hb hts bF_X12 hown hK hP 0 rfl rfl 1 (by decide) (ht_at hts 13 rfl) (fun _ h9 => h9) rfl dX12_land_156 ?_
                  refine lv_sipush (v := 384) hx hb dX12_land_159 (by decide) ?_
                  refine lv_iload hx hb dX12_land_162 (lv_at hl 1 rfl) ?_
                  refine lv_iadd hx hb dX12_land_164 ?_
                  refine lv_topi (fun x57 ex57 => ?_)
                  refine va_iald hx hb hK hP 1 0 rfl rfl (by rw [ex57]; exact vin_ni (c := 384) (by omega) (by decide)) dX12_land_165 ?_
                  refine lv_topi (fun x58 ex58 => ?_)
                  refine lv_isub hx hb dX12_land_166 ?_
                  refine lv_topi (fun x59 ex59 => ?_)
                  refine va_iast hx hb hK hP hD hS 1 0 rfl rfl (by unfold vp_in; decide) dX12_land_167 (fun H locs hP hD hS => ?_)
                  have hP : va_P (dC, dI) vwCl [(h0, .inr (15, mF q 0)), (q 1, .inl ((cm 1), 1749, .inl (upd w (1748 : Int32).toNatClampNeg x59)))] H := hP
                  have hD : va_D A [(h0, .inr (15, mF q 0)), (q 1, .inl ((cm 1), 1749, .inl (upd w (1748 : Int32).toNatClampNeg x59)))] := hD
                  refine lv_aload_n hx hb dX12_land_168 rfl (lv_at hl 2 rfl) ?_
                  refine va_get (D := (dC, dI)) (ci := 15) (v := .ref (q 1)) (C := RX12) (T := TX12) (N := 78) hx hb hts bF_X12 hown hK hP 0 rfl rfl 1 (by decide) (ht_at hts 13 rfl) (fun _ h9 => h9) rfl dX12_land_169 ?_
                  refine lv_iconst (v := 0) hx hb dX12_land_172 (by decide) ?_
                  refine lv_iload hx hb dX12_land_173 (lv_at hl 1 rfl) ?_
                  refine lv_iadd hx hb dX12_land_175 ?_
                  refine lv_topi (fun x60 ex60 => ?_)
                  refine lv_iconst (v := 1) hx hb dX12_land_176 (by decide) ?_
                  refine va_iast hx hb hK hP hD hS 1 0 rfl rfl (by rw [ex60]; exact vin_ni (c := 0) (by omega) (by decide)) dX12_land_177 (fun H locs hP hD hS => ?_)
                  have hP : va_P (dC, dI) vwCl [(h0, .inr (15, mF q 0)), (q 1, .inl ((cm 1), 1749, .inl (upd (upd w (1748 : Int32).toNatClampNeg x59) x60.toNatClampNeg 1)))] H := hP
                  have hD : va_D A [(h0, .inr (15, mF q 0)), (q 1, .inl ((cm 1), 1749, .inl (upd (upd w (1748 : Int32).toNatClampNeg x59) x60.toNatClampNeg 1)))] := hD
                  refine lv_aload_n hx hb dX12_land_178 rfl (lv_at hl 2 rfl) ?_
                  refine va_get (D := (dC, dI)) (ci := 15) (v := .ref (q 1)) (C := RX12) (T := TX12) (N := 78) hx hb hts bF_X12 hown hK hP 0 rfl rfl 1 (by decide) (ht_at hts 13 rfl) (fun _ h9 => h9) rfl dX12_land_179 ?_
                  refine lv_bipush (v := 96) hx hb dX12_land_182 (by decide) ?_
                  refine lv_iload hx hb dX12_land_184 (lv_at hl 1 rfl) ?_
                  refine lv_iadd hx hb dX12_land_186 ?_
                  refine lv_topi (fun x61 ex61 => ?_)
                  refine lv_iload_n hx hb dX12_land_187 rfl (lv_at hl 5 rfl) ?_
                  refine va_iast hx hb hK hP hD hS 1 0 rfl rfl (by rw [ex61]; exact vin_ni (c := 96) (by omega) (by decide)) dX12_land_188 (fun H locs hP hD hS => ?_)
                  have hP : va_P (dC, dI) vwCl [(h0, .inr (15, mF q 0)), (q 1, .inl ((cm 1), 1749, .inl (upd (upd (upd w (1748 : Int32).toNatClampNeg x59) x60.toNatClampNeg 1) x61.toNatClampNeg p2)))] H := hP
                  have hD : va_D A [(h0, .inr (15, mF q 0)), (q 1, .inl ((cm 1), 1749, .inl (upd (upd (upd w (1748 : Int32).toNatClampNeg x59) x60.toNatClampNeg 1) x61.toNatClampNeg p2)))] := hD
                  refine lv_aload_n hx hb dX12_land_189 rfl (lv_at hl 2 rfl) ?_
                  refine va_get (D := (dC, dI)) (ci := 15) (v := .ref (q 1)) (C := RX12) (T := TX12) (N := 78) hx hb hts bF_X12 hown hK hP 0 rfl rfl 1 (by decide) (ht_at hts 13 rfl) (fun _ h9 => h9) rfl dX12_land_190 ?_
                  refine lv_sipush (v := 192) hx hb dX12_land_193 (by decide) ?_
                  refine lv_iload hx hb dX12_land_196 (lv_at hl 1 rfl) ?_
                  refine lv_iadd hx hb dX12_land_198 ?_
                  refine lv_topi (fun x62 ex62 => ?_)
                  refine lv_iload hx hb dX12_land_199 (lv_at hl 6 rfl) ?_
                  refine va_iast hx hb hK hP hD hS 1 0 rfl rfl (by rw [ex62]; exact vin_ni (c := 192) (by omega) (by decide)) dX12_land_201 (fun H locs hP hD hS => ?_)
                  have hP : va_P (dC, dI) vwCl [(h0, .inr (15, mF q 0)), (q 1, .inl ((cm 1), 1749, .inl (upd (upd (upd (upd w (1748 : Int32).toNatClampNeg x59) x60.toNatClampNeg 1) x61.toNatClampNeg p2) x62.toNatClampNeg p3)))] H := hP
                  have hD : va_D A [(h0, .inr (15, mF q 0)), (q 1, .inl ((cm 1), 1749, .inl (upd (upd (upd (upd w (1748 : Int32).toNatClampNeg x59) x60.toNatClampNeg 1) x61.toNatClampNeg p2) x62.toNatClampNeg p3)))] := hD
                  refine lv_aload_n hx hb dX12_land_202 rfl (lv_at hl 2 rfl) ?_
                  refine va_get (D := (dC, dI)) (ci := 15) (v := .ref (q 1)) (C := RX12) (T := TX12) (N := 78) hx hb hts bF_X12 hown hK hP 0 rfl rfl 1 (by decide) (ht_at hts 13 rfl) (fun _ h9 => h9) rfl dX12_land_203 ?_
                  refine lv_sipush (v := 288) hx hb dX12_land_206 (by decide) ?_
                  refine lv_iload hx hb dX12_land_209 (lv_at hl 1 rfl) ?_
                  refine lv_iadd hx hb dX12_land_211 ?_
                  refine lv_topi (fun x63 ex63 => ?_)
                  refine lv_iload hx hb dX12_land_212 (lv_at hl 7 rfl) ?_
                  refine va_iast hx hb hK hP hD hS 1 0 rfl rfl (by rw [ex63]; exact vin_ni (c := 288) (by omega) (by decide)) dX12_land_214 (fun H locs hP hD hS => ?_)
                  have hP : va_P (dC, dI) vwCl [(h0, .inr (15, mF q 0)), (q 1, .inl ((cm 1), 1749, .inl (upd (upd (upd (upd (upd w (1748 : Int32).toNatClampNeg x59) x60.toNatClampNeg 1) x61.toNatClampNeg p2) x62.toNatClampNeg p3) x63.toNatClampNeg p4)))] H := hP
                  have hD : va_D A [(h0, .inr (15, mF q 0)), (q 1, .inl ((cm 1), 1749, .inl (upd (upd (upd (upd (upd w (1748 : Int32).toNatClampNeg x59) x60.toNatClampNeg 1) x61.toNatClampNeg p2) x62.toNatClampNeg p3) x63.toNatClampNeg p4)))] := hD
                  refine lv_aload_n hx hb dX12_land_215 rfl (lv_at hl 2 rfl) ?_
                  refine va_get (D := (dC, dI)) (ci := 15) (v := .ref (q 1)) (C := RX12) (T := TX12) (N := 78) hx hb hts bF_X12 hown hK hP 0 rfl rfl 1 (by decide) (ht_at hts 13 rfl) (fun _ h9 => h9) rfl dX12_land_216 ?_
                  refine lv_sipush (v := 384) hx hb dX12_land_219 (by decide) ?_
                  refine lv_iload hx hb dX12_land_222 (lv_at hl 1 rfl) ?_
                  refine lv_iadd hx hb dX12_land_224 ?_
                  refine lv_topi (fun x64 ex64 => ?_)
                  refine lv_iconst (v := 0) hx hb dX12_land_225 (by decide) ?_
                  refine va_iast hx hb hK hP hD hS 1 0 rfl rfl (by rw [ex64]; exact vin_ni (c := 384) (by omega) (by decide)) dX12_land_226 (fun H locs hP hD hS => ?_)
                  have hP : va_P (dC, dI) vwCl [(h0, .inr (15, mF q 0)), (q 1, .inl ((cm 1), 1749, .inl (upd (upd (upd (upd (upd (upd w (1748 : Int32).toNatClampNeg x59) x60.toNatClampNeg 1) x61.toNatClampNeg p2) x62.toNatClampNeg p3) x63.toNatClampNeg p4) x64.toNatClampNeg 0)))] H := hP
                  have hD : va_D A [(h0, .inr (15, mF q 0)), (q 1, .inl ((cm 1), 1749, .inl (upd (upd (upd (upd (upd (upd w (1748 : Int32).toNatClampNeg x59) x60.toNatClampNeg 1) x61.toNatClampNeg p2) x62.toNatClampNeg p3) x63.toNatClampNeg p4) x64.toNatClampNeg 0)))] := hD
                  refine lv_aload_n hx hb dX12_land_227 rfl (lv_at hl 2 rfl) ?_
                  refine va_get (D := (dC, dI)) (ci := 15) (v := .ref (q 1)) (C := RX12) (T := TX12) (N := 78) hx hb hts bF_X12 hown hK hP 0 rfl rfl 1 (by decide) (ht_at hts 13 rfl) (fun _ h9 => h9) rfl dX12_land_228 ?_
                  refine lv_sipush (v := 480) hx hb dX12_land_231 (by decide) ?_
                  refine lv_iload hx hb dX12_land_234 (lv_at hl 1 rfl) ?_
                  refine lv_iadd hx hb dX12_land_236 ?_
                  refine lv_topi (fun x65 ex65 => ?_)
                  refine lv_iconst (v := 0) hx hb dX12_land_237 (by decide) ?_
                  refine va_iast hx hb hK hP hD hS 1 0 rfl rfl (by rw [ex65]; exact vin_ni (c := 480) (by omega) (by decide)) dX12_land_238 (fun H locs hP hD hS => ?_)
                  have hP : va_P (dC, dI) vwCl [(h0, .inr (15, mF q 0)), (q 1, .inl ((cm 1), 1749, .inl (upd (upd (upd (upd (upd (upd (upd w (1748 : Int32).toNatClampNeg x59) x60.toNatClampNeg 1) x61.toNatClampNeg p2) x62.toNatClampNeg p3) x63.toNatClampNeg p4) x64.toNatClampNeg 0) x65.toNatClampNeg 0)))] H := hP
                  have hD : va_D A [(h0, .inr (15, mF q 0)), (q 1, .inl ((cm 1), 1749, .inl (upd (upd (upd (upd (upd (upd (upd w (1748 : Int32).toNatClampNeg x59) x60.toNatClampNeg 1) x61.toNatClampNeg p2) x62.toNatClampNeg p3) x63.toNatClampNeg p4) x64.toNatClampNeg 0) x65.toNatClampNeg 0)))] := hD
                  obtain ⟨x66, ex66⟩ : ∃ y : Int32, y = (nI i) + 1 := ⟨_, rfl⟩
                  refine lv_iinc (v := x66) (lv' := [(7, .int x66), (6, .int x55), (0, .ref h0), (1, .int p0), (2, .int p1), (3, .int p2), (4, .int p3), (5, .int p4)]) hx hb dX12_land_239 hl (k := 1) rfl (by rw [ex66]; rfl) (by decide) rfl (fun ls hl => ?_)
                  refine lv_goto (tgt := 107) hx hb dX12_land_242 (by decide) ?_
                  obtain rfl : x66 = nI (i + 1) := ex66.trans (nI_1 i)
                  obtain rfl : x55 = rc p0 p1 (i + 1) := ex55.trans (rc_pos hc49).symm
                  exact ih42 (i + 1) (by omega) (upd (upd (upd (upd (upd (upd (upd w (1748 : Int32).toNatClampNeg x59) x60.toNatClampNeg 1) x61.toNatClampNeg p2) x62.toNatClampNeg p3) x63.toNatClampNeg p4) x64.toNatClampNeg 0) x65.toNatClampNeg 0) (fun j hj hj2 => by rw [pk_un (by rw [cl_add (c := 480) ex65 (by omega)]; omega), pk_un (by rw [cl_add (c := 384) ex64 (by omega)]; omega), pk_un (by rw [cl_add (c := 288) ex63 (by omega)]; omega), pk_un (by rw [cl_add (c := 192) ex62 (by omega)]; omega), pk_un (by rw [cl_add (c := 96) ex61 (by omega)]; omega), pk_un (by rw [cl_add (c := 0) ex60 (by omega)]; omega), pk_un (by rw [show (1748 : Int32).toNatClampNeg = 1748 from by decide]; omega)]; exact hg j (by omega) hj2) _ _ (hP.sub [1, 0] rfl) (hD.sub [1, 0] (by decide) rfl) hS ls (lv_sub hl [0, 1, 2, 3, 4, 5, 6, 7] rfl)
                · refine lv_if_ne (tgt := 127) hx hb dX12_land_121 (by decide) (fun c67 => absurd c67 (by decide)) (fun c67 => ?_)
                  refine lv_goto (tgt := 239) hx hb dX12_land_124 (by decide) ?_
                  obtain ⟨x68, ex68⟩ : ∃ y : Int32, y = (nI i) + 1 := ⟨_, rfl⟩
                  refine lv_iinc (v := x68) (lv' := [(7, .int x68), (6, .int (rc p0 p1 i)), (0, .ref h0), (1, .int p0), (2, .int p1), (3, .int p2), (4, .int p3), (5, .int p4)]) hx hb dX12_land_239 hl (k := 0) rfl (by rw [ex68]; rfl) (by decide) rfl (fun ls hl => ?_)
                  refine lv_goto (tgt := 107) hx hb dX12_land_242 (by decide) ?_
                  obtain rfl : x68 = nI (i + 1) := ex68.trans (nI_1 i)
                  rw [← rc_neg hc49] at hl
                  exact ih42 (i + 1) (by omega) w (fun j hj hj2 => hg j (by omega) hj2) _ _ (hP.sub [0, 1] rfl) (hD.sub [0, 1] (by decide) rfl) hS ls (lv_sub hl [0, 1, 2, 3, 4, 5, 6, 7] rfl)
            exact key42 96 0 (by decide) (fun _ => 0) (fun _ _ _ => rfl) _ _ (hP.sub [0, 1] rfl) (hD.sub [0, 1] (by decide) rfl) hS ls (lv_sub hl [0, 1, 2, 3, 4, 5, 6, 7] rfl)
          · rw [if_neg hc28] at hw27
            subst hw27
            refine lv_if_ne (tgt := 71) hx hb dX12_land_64 (by decide) (fun c69 => absurd c69 (by decide)) (fun c69 => ?_)
            refine lv_iconst (v := 1) hx hb dX12_land_67 (by decide) ?_
            refine lv_goto (tgt := 72) hx hb dX12_land_68 (by decide) ?_
            refine lv_iconst (v := 2) hx hb dX12_land_72 (by decide) ?_
            have hPc := hP.sub (ws' := [(h0, .inr (15, mF q 0))]) [1] rfl
            have hDc := hD.sub (ws' := [(h0, .inr (15, mF q 0))]) [1] (by decide) rfl
            have hKc := hK.sub (tys' := []) [] rfl
            have hFc := va_free (wc := [(h0, .inr (15, mF q 0))]) hD hS hA [1] rfl
            refine va_calli (va_runV (As := [.int 1, .int 2]) (rest := []) ⟨hx, hb, hml, hown, hts⟩ (c_m_throwsIf1 l dC dI h0 (mF q 0) 2 H.size rfl) (cwV 2 hts (goodIn_app (goodIn_r _ [10, 11, 12, 6] (by decide +kernel) (by decide +kernel)) (goodIn_ca (goodIn_r _ [9, 1] (by decide +kernel) (by decide +kernel)) (bs_in _ _))) rfl rfl rfl (by decide +kernel) ⟨(Nat.le_of_ble_eq_true rfl), (Nat.le_of_ble_eq_true rfl)⟩) ⟨fun a U g mk q => by obtain ⟨q0, q1, qP, qK, qD⟩ := q; exact ⟨q0, q1, qP, va_K.moved (u := U) (U := U.calling g mk a) (Vm.Alike.refl U.vm) qK, qD⟩, va_recv hKc hPc (ci := 15) (q0 := 0) rfl rfl, fun U hU hW => ⟨rfl, by rw [hU], by rw [hU]; exact hPc, va_K.moved hW.alike hKc, hDc.weaken (fun _ _ _ _ => trivial)⟩⟩ rfl rfl hl.1 rfl (lv_room (Nat.le_of_ble_eq_true rfl)) dX12_land_73 ⟨(Nat.le_of_ble_eq_true rfl), (Nat.le_of_ble_eq_true rfl)⟩) hS (fun q _ h => hFc q h) hFc (fun r71 u t H1 locs ht hvm hw72 hB hz1 hk1 hS => ?_)
            obtain ⟨hP1, hD1⟩ := hB
            rw [ht] at hP1
            obtain ⟨hP, hD⟩ := va_join (wr := [(q 1, .inl ((cm 1), 1749, .inl (fun _ => 0)))]) (w1 := [(h0, .inr (15, mF q 2))]) hP hD [1] [0] rfl rfl (by decide) (by decide) hk1 hFc hP1 hD1
            generalize H1 = H at hP hS ⊢
            have hP : va_P (dC, dI) vwCl [(q 1, .inl ((cm 1), 1749, .inl (fun _ => 0))), (h0, .inr (15, mF q 2))] H := hP
            have hD : va_D A [(q 1, .inl ((cm 1), 1749, .inl (fun _ => 0))), (h0, .inr (15, mF q 2))] := hD
            try dsimp only at hw72
            obtain rfl : 1 = r71 := (hw72).symm
            refine lv_if_ne (tgt := 99) hx hb dX12_land_76 (by decide) (fun c73 => ?_) (fun c73 => absurd c73 (by decide))
            refine lv_iconst (v := 0) hx hb dX12_land_99 (by decide) ?_
            exact W.iret (v := 0) hx hb hr (fun t ht hW => ⟨⟨0, (mF q 2), rfl, (by unfold T_land; rw [if_pos hc4, if_pos hc9, if_pos hc18, if_pos hc23, if_neg hc28]; (first | exact ⟨rfl, fun _ => rfl⟩ | exact ⟨rfl, fun h => absurd h (by decide)⟩)), by rw [ht]; exact hP.sub (ws' := [(h0, .inr (15, mF q 2))]) [1] rfl, hD.sub (ws' := [(h0, .inr (15, mF q 2))]) [1] (by decide) rfl⟩, hS.F ht⟩) hS.2.2 dX12_land_100
        · rw [if_neg hc23] at hw22
          subst hw22
          refine lv_if_eq (tgt := 67) hx hb dX12_land_53 (by decide) (fun c74 => ?_) (fun c74 => absurd c74 (by decide))
          refine lv_iconst (v := 1) hx hb dX12_land_67 (by decide) ?_
          refine lv_goto (tgt := 72) hx hb dX12_land_68 (by decide) ?_
          refine lv_iconst (v := 2) hx hb dX12_land_72 (by decide) ?_
          have hPc := hP.sub (ws' := [(h0, .inr (15, mF q 0))]) [1] rfl
          have hDc := hD.sub (ws' := [(h0, .inr (15, mF q 0))]) [1] (by decide) rfl
          have hKc := hK.sub (tys' := []) [] rfl
          have hFc := va_free (wc := [(h0, .inr (15, mF q 0))]) hD hS hA [1] rfl
          refine va_calli (va_runV (As := [.int 1, .int 2]) (rest := []) ⟨hx, hb, hml, hown, hts⟩ (c_m_throwsIf1 l dC dI h0 (mF q 0) 2 H.size rfl) (cwV 2 hts (goodIn_app (goodIn_r _ [10, 11, 12, 6] (by decide +kernel) (by decide +kernel)) (goodIn_ca (goodIn_r _ [9, 1] (by decide +kernel) (by decide +kernel)) (bs_in _ _))) rfl rfl rfl (by decide +kernel) ⟨(Nat.le_of_ble_eq_true rfl), (Nat.le_of_ble_eq_true rfl)⟩) ⟨fun a U g mk q => by obtain ⟨q0, q1, qP, qK, qD⟩ := q; exact ⟨q0, q1, qP, va_K.moved (u := U) (U := U.calling g mk a) (Vm.Alike.refl U.vm) qK, qD⟩, va_recv hKc hPc (ci := 15) (q0 := 0) rfl rfl, fun U hU hW => ⟨rfl, by rw [hU], by rw [hU]; exact hPc, va_K.moved hW.alike hKc, hDc.weaken (fun _ _ _ _ => trivial)⟩⟩ rfl rfl hl.1 rfl (lv_room (Nat.le_of_ble_eq_true rfl)) dX12_land_73 ⟨(Nat.le_of_ble_eq_true rfl), (Nat.le_of_ble_eq_true rfl)⟩) hS (fun q _ h => hFc q h) hFc (fun r76 u t H1 locs ht hvm hw77 hB hz1 hk1 hS => ?_)
          obtain ⟨hP1, hD1⟩ := hB
          rw [ht] at hP1
          obtain ⟨hP, hD⟩ := va_join (wr := [(q 1, .inl ((cm 1), 1749, .inl (fun _ => 0)))]) (w1 := [(h0, .inr (15, mF q 2))]) hP hD [1] [0] rfl rfl (by decide) (by decide) hk1 hFc hP1 hD1
          generalize H1 = H at hP hS ⊢
          have hP : va_P (dC, dI) vwCl [(q 1, .inl ((cm 1), 1749, .inl (fun _ => 0))), (h0, .inr (15, mF q 2))] H := hP
          have hD : va_D A [(q 1, .inl ((cm 1), 1749, .inl (fun _ => 0))), (h0, .inr (15, mF q 2))] := hD
          try dsimp only at hw77
          obtain rfl : 1 = r76 := (hw77).symm
          refine lv_if_ne (tgt := 99) hx hb dX12_land_76 (by decide) (fun c78 => ?_) (fun c78 => absurd c78 (by decide))
          refine lv_iconst (v := 0) hx hb dX12_land_99 (by decide) ?_
          exact W.iret (v := 0) hx hb hr (fun t ht hW => ⟨⟨0, (mF q 2), rfl, (by unfold T_land; rw [if_pos hc4, if_pos hc9, if_pos hc18, if_neg hc23]; (first | exact ⟨rfl, fun _ => rfl⟩ | exact ⟨rfl, fun h => absurd h (by decide)⟩)), by rw [ht]; exact hP.sub (ws' := [(h0, .inr (15, mF q 2))]) [1] rfl, hD.sub (ws' := [(h0, .inr (15, mF q 2))]) [1] (by decide) rfl⟩, hS.F ht⟩) hS.2.2 dX12_land_100
      · rw [if_neg hc18] at hw17
        subst hw17
        refine lv_if_eq (tgt := 67) hx hb dX12_land_43 (by decide) (fun c79 => ?_) (fun c79 => absurd c79 (by decide))
        refine lv_iconst (v := 1) hx hb dX12_land_67 (by decide) ?_
        refine lv_goto (tgt := 72) hx hb dX12_land_68 (by decide) ?_
        refine lv_iconst (v := 2) hx hb dX12_land_72 (by decide) ?_
        have hPc := hP.sub (ws' := [(h0, .inr (15, mF q 0))]) [1] rfl
        have hDc := hD.sub (ws' := [(h0, .inr (15, mF q 0))]) [1] (by decide) rfl
        have hKc := hK.sub (tys' := []) [] rfl
        have hFc := va_free (wc := [(h0, .inr (15, mF q 0))]) hD hS hA [1] rfl
        refine va_calli (va_runV (As := [.int 1, .int 2]) (rest := []) ⟨hx, hb, hml, hown, hts⟩ (c_m_throwsIf1 l dC dI h0 (mF q 0) 2 H.size rfl) (cwV 2 hts (goodIn_app (goodIn_r _ [10, 11, 12, 6] (by decide +kernel) (by decide +kernel)) (goodIn_ca (goodIn_r _ [9, 1] (by decide +kernel) (by decide +kernel)) (bs_in _ _))) rfl rfl rfl (by decide +kernel) ⟨(Nat.le_of_ble_eq_true rfl), (Nat.le_of_ble_eq_true rfl)⟩) ⟨fun a U g mk q => by obtain ⟨q0, q1, qP, qK, qD⟩ := q; exact ⟨q0, q1, qP, va_K.moved (u := U) (U := U.calling g mk a) (Vm.Alike.refl U.vm) qK, qD⟩, va_recv hKc hPc (ci := 15) (q0 := 0) rfl rfl, fun U hU hW => ⟨rfl, by rw [hU], by rw [hU]; exact hPc, va_K.moved hW.alike hKc, hDc.weaken (fun _ _ _ _ => trivial)⟩⟩ rfl rfl hl.1 rfl (lv_room (Nat.le_of_ble_eq_true rfl)) dX12_land_73 ⟨(Nat.le_of_ble_eq_true rfl), (Nat.le_of_ble_eq_true rfl)⟩) hS (fun q _ h => hFc q h) hFc (fun r81 u t H1 locs ht hvm hw82 hB hz1 hk1 hS => ?_)
        obtain ⟨hP1, hD1⟩ := hB
        rw [ht] at hP1
        obtain ⟨hP, hD⟩ := va_join (wr := [(q 1, .inl ((cm 1), 1749, .inl (fun _ => 0)))]) (w1 := [(h0, .inr (15, mF q 2))]) hP hD [1] [0] rfl rfl (by decide) (by decide) hk1 hFc hP1 hD1
        generalize H1 = H at hP hS ⊢
        have hP : va_P (dC, dI) vwCl [(q 1, .inl ((cm 1), 1749, .inl (fun _ => 0))), (h0, .inr (15, mF q 2))] H := hP
        have hD : va_D A [(q 1, .inl ((cm 1), 1749, .inl (fun _ => 0))), (h0, .inr (15, mF q 2))] := hD
        try dsimp only at hw82
        obtain rfl : 1 = r81 := (hw82).symm
        refine lv_if_ne (tgt := 99) hx hb dX12_land_76 (by decide) (fun c83 => ?_) (fun c83 => absurd c83 (by decide))
        refine lv_iconst (v := 0) hx hb dX12_land_99 (by decide) ?_
        exact W.iret (v := 0) hx hb hr (fun t ht hW => ⟨⟨0, (mF q 2), rfl, (by unfold T_land; rw [if_pos hc4, if_pos hc9, if_neg hc18]; (first | exact ⟨rfl, fun _ => rfl⟩ | exact ⟨rfl, fun h => absurd h (by decide)⟩)), by rw [ht]; exact hP.sub (ws' := [(h0, .inr (15, mF q 2))]) [1] rfl, hD.sub (ws' := [(h0, .inr (15, mF q 2))]) [1] (by decide) rfl⟩, hS.F ht⟩) hS.2.2 dX12_land_100
    · rw [if_neg hc9] at hw8
      subst hw8
      refine lv_if_eq (tgt := 24) hx hb dX12_land_17 (by decide) (fun c84 => absurd c84 (by decide)) (fun c84 => ?_)
      refine lv_iconst (v := 1) hx hb dX12_land_20 (by decide) ?_
      refine lv_goto (tgt := 25) hx hb dX12_land_21 (by decide) ?_
      refine lv_iconst (v := 1) hx hb dX12_land_25 (by decide) ?_
      have hPc := hP.sub (ws' := [(h0, .inr (15, mF q 0))]) [0] rfl
      have hDc := hD.sub (ws' := [(h0, .inr (15, mF q 0))]) [0] (by decide) rfl
      have hKc := hK.sub (tys' := []) [] rfl
      have hFc := va_free (wc := [(h0, .inr (15, mF q 0))]) hD hS hA [0] rfl
      refine va_calli (va_runV (As := [.int 1, .int 1]) (rest := []) ⟨hx, hb, hml, hown, hts⟩ (c_m_throwsIf1 l dC dI h0 (mF q 0) 1 H.size rfl) (cwV 2 hts (goodIn_app (goodIn_r _ [10, 11, 12, 6] (by decide +kernel) (by decide +kernel)) (goodIn_ca (goodIn_r _ [9, 1] (by decide +kernel) (by decide +kernel)) (bs_in _ _))) rfl rfl rfl (by decide +kernel) ⟨(Nat.le_of_ble_eq_true rfl), (Nat.le_of_ble_eq_true rfl)⟩) ⟨fun a U g mk q => by obtain ⟨q0, q1, qP, qK, qD⟩ := q; exact ⟨q0, q1, qP, va_K.moved (u := U) (U := U.calling g mk a) (Vm.Alike.refl U.vm) qK, qD⟩, va_recv hKc hPc (ci := 15) (q0 := 0) rfl rfl, fun U hU hW => ⟨rfl, by rw [hU], by rw [hU]; exact hPc, va_K.moved hW.alike hKc, hDc.weaken (fun _ _ _ _ => trivial)⟩⟩ rfl rfl hl.1 rfl (lv_room (Nat.le_of_ble_eq_true rfl)) dX12_land_26 ⟨(Nat.le_of_ble_eq_true rfl), (Nat.le_of_ble_eq_true rfl)⟩) hS (fun q _ h => hFc q h) hFc (fun r86 u t H1 locs ht hvm hw87 hB hz1 hk1 hS => ?_)
      obtain ⟨hP1, hD1⟩ := hB
      rw [ht] at hP1
      obtain ⟨hP, hD⟩ := va_join (wr := [(q 1, .inl ((cm 1), 1749, .inl (fun _ => 0)))]) (w1 := [(h0, .inr (15, mF q 1))]) hP hD [0] [1] rfl rfl (by decide) (by decide) hk1 hFc hP1 hD1
      generalize H1 = H at hP hS ⊢
      have hP : va_P (dC, dI) vwCl [(q 1, .inl ((cm 1), 1749, .inl (fun _ => 0))), (h0, .inr (15, mF q 1))] H := hP
      have hD : va_D A [(q 1, .inl ((cm 1), 1749, .inl (fun _ => 0))), (h0, .inr (15, mF q 1))] := hD
      try dsimp only at hw87
      obtain rfl : 1 = r86 := (hw87).symm
      refine lv_if_ne (tgt := 99) hx hb dX12_land_29 (by decide) (fun c88 => ?_) (fun c88 => absurd c88 (by decide))
      refine lv_iconst (v := 0) hx hb dX12_land_99 (by decide) ?_
      exact W.iret (v := 0) hx hb hr (fun t ht hW => ⟨⟨0, (mF q 1), rfl, (by unfold T_land; rw [if_pos hc4, if_neg hc9]; (first | exact ⟨rfl, fun _ => rfl⟩ | exact ⟨rfl, fun h => absurd h (by decide)⟩)), by rw [ht]; exact hP.sub (ws' := [(h0, .inr (15, mF q 1))]) [1] rfl, hD.sub (ws' := [(h0, .inr (15, mF q 1))]) [1] (by decide) rfl⟩, hS.F ht⟩) hS.2.2 dX12_land_100
  · rw [if_neg hc4] at hw3
    subst hw3
    refine lv_if_ne (tgt := 20) hx hb dX12_land_10 (by decide) (fun c89 => ?_) (fun c89 => absurd c89 (by decide))
    refine lv_iconst (v := 1) hx hb dX12_land_20 (by decide) ?_
    refine lv_goto (tgt := 25) hx hb dX12_land_21 (by decide) ?_
    refine lv_iconst (v := 1) hx hb dX12_land_25 (by decide) ?_
    have hPc := hP.sub (ws' := [(h0, .inr (15, mF q 0))]) [0] rfl
    have hDc := hD.sub (ws' := [(h0, .inr (15, mF q 0))]) [0] (by decide) rfl
    have hKc := hK.sub (tys' := []) [] rfl
    have hFc := va_free (wc := [(h0, .inr (15, mF q 0))]) hD hS hA [0] rfl
    refine va_calli (va_runV (As := [.int 1, .int 1]) (rest := []) ⟨hx, hb, hml, hown, hts⟩ (c_m_throwsIf1 l dC dI h0 (mF q 0) 1 H.size rfl) (cwV 2 hts (goodIn_app (goodIn_r _ [10, 11, 12, 6] (by decide +kernel) (by decide +kernel)) (goodIn_ca (goodIn_r _ [9, 1] (by decide +kernel) (by decide +kernel)) (bs_in _ _))) rfl rfl rfl (by decide +kernel) ⟨(Nat.le_of_ble_eq_true rfl), (Nat.le_of_ble_eq_true rfl)⟩) ⟨fun a U g mk q => by obtain ⟨q0, q1, qP, qK, qD⟩ := q; exact ⟨q0, q1, qP, va_K.moved (u := U) (U := U.calling g mk a) (Vm.Alike.refl U.vm) qK, qD⟩, va_recv hKc hPc (ci := 15) (q0 := 0) rfl rfl, fun U hU hW => ⟨rfl, by rw [hU], by rw [hU]; exact hPc, va_K.moved hW.alike hKc, hDc.weaken (fun _ _ _ _ => trivial)⟩⟩ rfl rfl hl.1 rfl (lv_room (Nat.le_of_ble_eq_true rfl)) dX12_land_26 ⟨(Nat.le_of_ble_eq_true rfl), (Nat.le_of_ble_eq_true rfl)⟩) hS (fun q _ h => hFc q h) hFc (fun r91 u t H1 locs ht hvm hw92 hB hz1 hk1 hS => ?_)
    obtain ⟨hP1, hD1⟩ := hB
    rw [ht] at hP1
    obtain ⟨hP, hD⟩ := va_join (wr := [(q 1, .inl ((cm 1), 1749, .inl (fun _ => 0)))]) (w1 := [(h0, .inr (15, mF q 1))]) hP hD [0] [1] rfl rfl (by decide) (by decide) hk1 hFc hP1 hD1
    generalize H1 = H at hP hS ⊢
    have hP : va_P (dC, dI) vwCl [(q 1, .inl ((cm 1), 1749, .inl (fun _ => 0))), (h0, .inr (15, mF q 1))] H := hP
    have hD : va_D A [(q 1, .inl ((cm 1), 1749, .inl (fun _ => 0))), (h0, .inr (15, mF q 1))] := hD
    try dsimp only at hw92
    obtain rfl : 1 = r91 := (hw92).symm
    refine lv_if_ne (tgt := 99) hx hb dX12_land_29 (by decide) (fun c93 => ?_) (fun c93 => absurd c93 (by decide))
    refine lv_iconst (v := 0) hx hb dX12_land_99 (by decide) ?_
    exact W.iret (v := 0) hx hb hr (fun t ht hW => ⟨⟨0, (mF q 1), rfl, (by unfold T_land; rw [if_neg hc4]; (first | exact ⟨rfl, fun _ => rfl⟩ | exact ⟨rfl, fun h => absurd h (by decide)⟩)), by rw [ht]; exact hP.sub (ws' := [(h0, .inr (15, mF q 1))]) [1] rfl, hD.sub (ws' := [(h0, .inr (15, mF q 1))]) [1] (by decide) rfl⟩, hS.F ht⟩) hS.2.2 dX12_land_100
