def w_m_square : List Cond := .code yX12_square cX12_square 3 (some .int) :: ([.fieldLink RX12 194 "SeaLandModel" "thrown" "I", .code yX12_noSquare cX12_noSquare 1 (some .boolean), .code yX12_in cX12_in 3 (some .boolean), .methodLink RX12 197 yX12_in, .static yX12_in, .initialized RX12, .methodLink RX12 220 yX12_noSquare, .static yX12_noSquare, .code yX12_throwsIf cX12_throwsIf 3 (some .boolean), .methodLink RX12 224 yX12_throwsIf, .instanceMethod yX12_throwsIf, .selects RX12 yX12_throwsIf yX12_throwsIf, .fieldLink RX12 9 "SeaLandModel" "world" "[I", .code yX12_level cX12_level 2 (some .int), .code yX12_isLand cX12_isLand 2 (some .boolean), .methodLink RX12 235 yX12_isLand, .instanceMethod yX12_isLand, .selects RX12 yX12_isLand yX12_isLand, .code yX12_hour cX12_hour 1 (some .int), .methodLink RX12 228 yX12_hour, .instanceMethod yX12_hour, .selects RX12 yX12_hour yX12_hour, .code yX12_outside cX12_outside 4 (some .int), .methodLink RX12 247 yX12_outside, .instanceMethod yX12_outside, .selects RX12 yX12_outside yX12_outside, .methodLink RX12 285 yX12_level, .instanceMethod yX12_level, .selects RX12 yX12_level yX12_level, .code yX12_farmOf cX12_farmOf 3 (some .int), .fieldLink RX12 498 "SeaLandModel" "farms" "I", .methodLink RX12 329 yX12_farmOf, .instanceMethod yX12_farmOf, .selects RX12 yX12_farmOf yX12_farmOf, .code yX12_workOn cX12_workOn 3 (some .int), .methodLink RX12 256 yX12_workOn, .instanceMethod yX12_workOn, .selects RX12 yX12_workOn yX12_workOn] ++ bs)
set_option maxHeartbeats 4000000 in
set_option maxRecDepth 100000 in
theorem m_square (l : Launch) (dC : Nat → ClassId) (dI : Nat → Nat → Nat) (h0 : Nat) (q : Nat → Nat) (cm : Nat → ClassId) (p0 p1 : Int32) (sz : Nat) : Met l yX12_square w_m_square ({ frames := 2, cells := 0, slots := 0, locals := 44 }) (va_Pc [.ref h0, .int p0, .int p1] (fun U => U.heap.size = sz ∧ va_P (dC, dI) vwCl [(h0, .inr (15, mF q 0)), (q 1, .inl ((cm 1), 1749, .inl (fun _ => 0)))] U.heap ∧ va_K (dC, dI) vwCl [((cm 1), .int)] U ∧ va_D (fun _ => True) [(h0, .inr (15, mF q 0)), (q 1, .inl ((cm 1), 1749, .inl (fun _ => 0)))])) (va_Qi (fun (r : Int32) (u : List Value) => u[0]? = some (.int (T_square p0 p1).1) ∧ ((T_square p0 p1).1 = 0 → r = (T_square p0 p1).2)) (fun (fs : List Value) (t : State) => va_P (dC, dI) vwCl [(h0, .inr (15, fs))] t.heap ∧ va_D (va_A [(h0, .inr (15, mF q 0)), (q 1, .inl ((cm 1), 1749, .inl (fun _ => 0)))] sz) [(h0, .inr (15, fs))]) (va_A [(h0, .inr (15, mF q 0)), (q 1, .inl ((cm 1), 1749, .inl (fun _ => 0)))] sz)) 0 0 (va_A [(h0, .inr (15, mF q 0)), (q 1, .inl ((cm 1), 1749, .inl (fun _ => 0)))] sz) := by
  refine Met.ofW (cc := cX12_square) (maxL := 3) (ret := (some .int)) (by decide) rfl ?_
  intro p e s m args below meth c s₁ B hml hv
  obtain ⟨rfl, hsz, hP, hK, hD0⟩ := hv
  have hx := B.exec
  have hb := B.bytes
  have hr := B.returns
  have hts := atoms_spec (ws := w_m_square) B.pre
  have hown : s.vm.findClass RX12 = some m.cls := findClass_of_methodNamed B.named
  have hlocks := B.notSynchronized
  subst hsz
  have hD := hD0.self (sz := s.heap.size)
  generalize hAe : va_A [(h0, .inr (15, mF q 0)), (q 1, .inl ((cm 1), 1749, .inl (fun _ => 0)))] s.heap.size = A at hD ⊢
  have hA : ∀ q : Nat, s.heap.size ≤ q → A q := fun q h => by rw [← hAe]; exact Or.inr h
  have hS : va_S A s.heap s.heap [] := va_S.rf
  have hP : va_P (dC, dI) vwCl [(h0, .inr (15, mF q 0)), (q 1, .inl ((cm 1), 1749, .inl (fun _ => 0)))] s.heap := hP
  have hl := lv_entry ([.ref h0, .int p0, .int p1]) (n := 3) (Nat.le_of_ble_eq_true rfl)
  rw [lg_entry_eq]
  generalize (lg_sl ([.ref h0, .int p0, .int p1]) ++ List.replicate (3 - (lg_sl ([.ref h0, .int p0, .int p1])).length) Slot.unset).toArray = ls at hl ⊢
  have hl : lv_has ls 3 [(0, .ref h0), (1, .int p0), (2, .int p1)] := hl
  refine lv_aload_n hx hb dX12_square_0 rfl (lv_at hl 0 rfl) ?_
  refine lv_iconst (v := 0) hx hb dX12_square_1 (by decide) ?_
  refine va_put (D := (dC, dI)) (ci := 15) (v := .int 0) (ty := .int) (C := RX12) (T := TX12) (N := 78) hx hb hts bF_X12 tyX12 tyX12_ok nmX12 hown hK hP hD hS 0 rfl rfl 0 (by decide) (ht_at hts 0 rfl) (fun _ h9 => h9) rfl (by decide +kernel) rfl rfl (Nat.le_of_ble_eq_true rfl) dX12_square_2 (fun H locs hP hD hS => ?_)
  have hP : va_P (dC, dI) vwCl [(h0, .inr (15, mF q 0)), (q 1, .inl ((cm 1), 1749, .inl (fun _ => 0)))] H := hP
  have hD : va_D A [(h0, .inr (15, mF q 0)), (q 1, .inl ((cm 1), 1749, .inl (fun _ => 0)))] := hD
  refine lv_aload_n hx hb dX12_square_5 rfl (lv_at hl 0 rfl) ?_
  refine lv_iload_n hx hb dX12_square_6 rfl (lv_at hl 1 rfl) ?_
  have hPc := hP.sub (ws' := []) [] rfl
  have hDc := hD.sub (ws' := []) [] (by decide) rfl
  have hKc := hK.sub (tys' := []) [] rfl
  have hFc := va_free (wc := []) hD hS hA [] rfl
  refine va_calli (va_runS (As := [.int p0]) (rest := [.ref h0]) ⟨hx, hb, hml, hown, hts⟩ (c_m_noSquare l dC dI p0 H.size ) (va_cwS 1 hts (goodIn_app (goodIn_r _ [7, 8, 6] (by decide +kernel) (by decide +kernel)) (goodIn_ca (goodIn_r _ [2, 3, 4, 5, 6] (by decide +kernel) (by decide +kernel)) (bs_in _ _))) rfl rfl rfl (by decide +kernel) ⟨(Nat.le_of_ble_eq_true rfl), (Nat.le_of_ble_eq_true rfl)⟩) ⟨fun a U g mk q => by obtain ⟨q0, q1, qP, qK, qD⟩ := q; exact ⟨q0, q1, qP, va_K.moved (u := U) (U := U.calling g mk a) (Vm.Alike.refl U.vm) qK, qD⟩, fun U hU hW => ⟨rfl, by rw [hU], by rw [hU]; exact hPc, va_K.moved hW.alike hKc, hDc.weaken (fun _ _ _ _ => trivial)⟩⟩ rfl rfl hl.1 rfl (lv_room (Nat.le_of_ble_eq_true rfl)) dX12_square_7 ⟨(Nat.le_of_ble_eq_true rfl), (Nat.le_of_ble_eq_true rfl)⟩) hS (fun q _ h => hFc q h) hFc (fun r2 u t H1 locs ht hvm hw3 hB hz1 hk1 hS => ?_)
  have hP1 : va_P (dC, dI) vwCl [] H1 := nilP
  have hD1 : va_D (va_A [] H.size) [] := nilD
  have hK := hK
  obtain ⟨hP, hD⟩ := va_join (wr := [(h0, .inr (15, mF q 0)), (q 1, .inl ((cm 1), 1749, .inl (fun _ => 0)))]) (w1 := []) hP hD [] [0, 1] rfl rfl (by decide) (by decide) hk1 hFc hP1 hD1
  generalize H1 = H at hP hS ⊢
  have hP : va_P (dC, dI) vwCl [(h0, .inr (15, mF q 0)), (q 1, .inl ((cm 1), 1749, .inl (fun _ => 0)))] H := hP
  have hD : va_D A [(h0, .inr (15, mF q 0)), (q 1, .inl ((cm 1), 1749, .inl (fun _ => 0)))] := hD
  try dsimp only at hw3
  by_cases hc4 : 0 ≤ p0 ∧ p0 ≤ 95
  · rw [if_pos hc4] at hw3
    subst hw3
    refine lv_iconst (v := 1) hx hb dX12_square_10 (by decide) ?_
    have hPc := hP.sub (ws' := [(h0, .inr (15, mF q 0))]) [0] rfl
    have hDc := hD.sub (ws' := [(h0, .inr (15, mF q 0))]) [0] (by decide) rfl
    have hKc := hK.sub (tys' := []) [] rfl
    have hFc := va_free (wc := [(h0, .inr (15, mF q 0))]) hD hS hA [0] rfl
    refine va_calli (va_runV (As := [.int 0, .int 1]) (rest := []) ⟨hx, hb, hml, hown, hts⟩ (c_m_throwsIf0 l dC dI h0 (mF q 0) 1 H.size ) (cwV 2 hts (goodIn_app (goodIn_r _ [10, 11, 12, 6] (by decide +kernel) (by decide +kernel)) (goodIn_ca (goodIn_r _ [9] (by decide +kernel) (by decide +kernel)) (bs_in _ _))) rfl rfl rfl (by decide +kernel) ⟨(Nat.le_of_ble_eq_true rfl), (Nat.le_of_ble_eq_true rfl)⟩) ⟨fun a U g mk q => by obtain ⟨q0, q1, qP, qK, qD⟩ := q; exact ⟨q0, q1, qP, va_K.moved (u := U) (U := U.calling g mk a) (Vm.Alike.refl U.vm) qK, qD⟩, va_recv hKc hPc (ci := 15) (q0 := 0) rfl rfl, fun U hU hW => ⟨rfl, by rw [hU], by rw [hU]; exact hPc, va_K.moved hW.alike hKc, hDc.weaken (fun _ _ _ _ => trivial)⟩⟩ rfl rfl hl.1 rfl (lv_room (Nat.le_of_ble_eq_true rfl)) dX12_square_11 ⟨(Nat.le_of_ble_eq_true rfl), (Nat.le_of_ble_eq_true rfl)⟩) hS (fun q _ h => hFc q h) hFc (fun r6 u t H1 locs ht hvm hw7 hB hz1 hk1 hS => ?_)
    obtain ⟨hP1, hD1⟩ := hB
    rw [ht] at hP1
    obtain ⟨hP, hD⟩ := va_join (wr := [(q 1, .inl ((cm 1), 1749, .inl (fun _ => 0)))]) (w1 := [(h0, .inr (15, mF q 0))]) hP hD [0] [1] rfl rfl (by decide) (by decide) hk1 hFc hP1 hD1
    generalize H1 = H at hP hS ⊢
    have hP : va_P (dC, dI) vwCl [(q 1, .inl ((cm 1), 1749, .inl (fun _ => 0))), (h0, .inr (15, mF q 0))] H := hP
    have hD : va_D A [(q 1, .inl ((cm 1), 1749, .inl (fun _ => 0))), (h0, .inr (15, mF q 0))] := hD
    try dsimp only at hw7
    obtain rfl : 0 = r6 := (hw7).symm
    refine lv_if_eq (tgt := 19) hx hb dX12_square_14 (by decide) (fun c8 => ?_) (fun c8 => absurd c8 (by decide))
    refine lv_iload_n hx hb dX12_square_19 rfl (lv_at hl 2 rfl) ?_
    by_cases hs9 : p1 = 0
    · subst hs9
      refine lv_tableIn (x := 0) (off := 60) (tgt := 80) hx hb dX12_square_20 (by decide) (by decide) (by decide) (by decide) ?_
      refine lv_aload_n hx hb dX12_square_80 rfl (lv_at hl 0 rfl) ?_
      refine va_get (D := (dC, dI)) (ci := 15) (v := .ref (q 1)) (C := RX12) (T := TX12) (N := 78) hx hb hts bF_X12 hown hK hP 1 rfl rfl 1 (by decide) (ht_at hts 12 rfl) (fun _ h9 => h9) rfl dX12_square_81 ?_
      refine lv_iconst (v := 0) hx hb dX12_square_84 (by decide) ?_
      refine lv_iload_n hx hb dX12_square_85 rfl (lv_at hl 1 rfl) ?_
      refine lv_iadd hx hb dX12_square_86 ?_
      refine lv_topi (fun x10 ex10 => ?_)
      refine va_iald hx hb hK hP 0 0 rfl rfl (by rw [ex10]; exact vin_add hc4 (by decide) (by decide) (by decide)) dX12_square_87 ?_
      refine lv_topi (fun x11 ex11 => ?_)
      obtain rfl : 0 = x11 := (ex11).symm
      exact W.iret (v := 0) hx hb hr (fun t ht hW => ⟨⟨0, (mF q 0), rfl, (by unfold T_square; rw [if_pos hc4]; (first | (rw [if_pos (by decide)]; exact ⟨rfl, fun _ => rfl⟩) | (rw [if_neg (by decide), if_pos (by decide)]; exact ⟨rfl, fun _ => rfl⟩))), by rw [ht]; exact hP.sub (ws' := [(h0, .inr (15, mF q 0))]) [1] rfl, hD.sub (ws' := [(h0, .inr (15, mF q 0))]) [1] (by decide) rfl⟩, hS.F ht⟩) hS.2.2 dX12_square_88
    by_cases hs12 : p1 = 1
    · subst hs12
      refine lv_tableIn (x := 1) (off := 69) (tgt := 89) hx hb dX12_square_20 (by decide) (by decide) (by decide) (by decide) ?_
      refine lv_aload_n hx hb dX12_square_89 rfl (lv_at hl 0 rfl) ?_
      refine va_get (D := (dC, dI)) (ci := 15) (v := .ref (q 1)) (C := RX12) (T := TX12) (N := 78) hx hb hts bF_X12 hown hK hP 1 rfl rfl 1 (by decide) (ht_at hts 12 rfl) (fun _ h9 => h9) rfl dX12_square_90 ?_
      refine lv_bipush (v := 96) hx hb dX12_square_93 (by decide) ?_
      refine lv_iload_n hx hb dX12_square_95 rfl (lv_at hl 1 rfl) ?_
      refine lv_iadd hx hb dX12_square_96 ?_
      refine lv_topi (fun x13 ex13 => ?_)
      refine va_iald hx hb hK hP 0 0 rfl rfl (by rw [ex13]; exact vin_add hc4 (by decide) (by decide) (by decide)) dX12_square_97 ?_
      refine lv_topi (fun x14 ex14 => ?_)
      obtain rfl : 0 = x14 := (ex14).symm
      exact W.iret (v := 0) hx hb hr (fun t ht hW => ⟨⟨0, (mF q 0), rfl, (by unfold T_square; rw [if_pos hc4]; (first | (rw [if_pos (by decide)]; exact ⟨rfl, fun _ => rfl⟩) | (rw [if_neg (by decide), if_pos (by decide)]; exact ⟨rfl, fun _ => rfl⟩))), by rw [ht]; exact hP.sub (ws' := [(h0, .inr (15, mF q 0))]) [1] rfl, hD.sub (ws' := [(h0, .inr (15, mF q 0))]) [1] (by decide) rfl⟩, hS.F ht⟩) hS.2.2 dX12_square_98
    by_cases hs15 : p1 = 2
    · subst hs15
      refine lv_tableIn (x := 2) (off := 79) (tgt := 99) hx hb dX12_square_20 (by decide) (by decide) (by decide) (by decide) ?_
      refine lv_aload_n hx hb dX12_square_99 rfl (lv_at hl 0 rfl) ?_
      refine va_get (D := (dC, dI)) (ci := 15) (v := .ref (q 1)) (C := RX12) (T := TX12) (N := 78) hx hb hts bF_X12 hown hK hP 1 rfl rfl 1 (by decide) (ht_at hts 12 rfl) (fun _ h9 => h9) rfl dX12_square_100 ?_
      refine lv_sipush (v := 192) hx hb dX12_square_103 (by decide) ?_
      refine lv_iload_n hx hb dX12_square_106 rfl (lv_at hl 1 rfl) ?_
      refine lv_iadd hx hb dX12_square_107 ?_
      refine lv_topi (fun x16 ex16 => ?_)
      refine va_iald hx hb hK hP 0 0 rfl rfl (by rw [ex16]; exact vin_add hc4 (by decide) (by decide) (by decide)) dX12_square_108 ?_
      refine lv_topi (fun x17 ex17 => ?_)
      obtain rfl : 0 = x17 := (ex17).symm
      exact W.iret (v := 0) hx hb hr (fun t ht hW => ⟨⟨0, (mF q 0), rfl, (by unfold T_square; rw [if_pos hc4]; (first | (rw [if_pos (by decide)]; exact ⟨rfl, fun _ => rfl⟩) | (rw [if_neg (by decide), if_pos (by decide)]; exact ⟨rfl, fun _ => rfl⟩))), by rw [ht]; exact hP.sub (ws' := [(h0, .inr (15, mF q 0))]) [1] rfl, hD.sub (ws' := [(h0, .inr (15, mF q 0))]) [1] (by decide) rfl⟩, hS.F ht⟩) hS.2.2 dX12_square_109
    by_cases hs18 : p1 = 3
    · subst hs18
      refine lv_tableIn (x := 3) (off := 90) (tgt := 110) hx hb dX12_square_20 (by decide) (by decide) (by decide) (by decide) ?_
      refine lv_aload_n hx hb dX12_square_110 rfl (lv_at hl 0 rfl) ?_
      refine va_get (D := (dC, dI)) (ci := 15) (v := .ref (q 1)) (C := RX12) (T := TX12) (N := 78) hx hb hts bF_X12 hown hK hP 1 rfl rfl 1 (by decide) (ht_at hts 12 rfl) (fun _ h9 => h9) rfl dX12_square_111 ?_
      refine lv_sipush (v := 288) hx hb dX12_square_114 (by decide) ?_
      refine lv_iload_n hx hb dX12_square_117 rfl (lv_at hl 1 rfl) ?_
      refine lv_iadd hx hb dX12_square_118 ?_
      refine lv_topi (fun x19 ex19 => ?_)
      refine va_iald hx hb hK hP 0 0 rfl rfl (by rw [ex19]; exact vin_add hc4 (by decide) (by decide) (by decide)) dX12_square_119 ?_
      refine lv_topi (fun x20 ex20 => ?_)
      obtain rfl : 0 = x20 := (ex20).symm
      exact W.iret (v := 0) hx hb hr (fun t ht hW => ⟨⟨0, (mF q 0), rfl, (by unfold T_square; rw [if_pos hc4]; (first | (rw [if_pos (by decide)]; exact ⟨rfl, fun _ => rfl⟩) | (rw [if_neg (by decide), if_pos (by decide)]; exact ⟨rfl, fun _ => rfl⟩))), by rw [ht]; exact hP.sub (ws' := [(h0, .inr (15, mF q 0))]) [1] rfl, hD.sub (ws' := [(h0, .inr (15, mF q 0))]) [1] (by decide) rfl⟩, hS.F ht⟩) hS.2.2 dX12_square_120
    by_cases hs21 : p1 = 4
    · subst hs21
      refine lv_tableIn (x := 4) (off := 101) (tgt := 121) hx hb dX12_square_20 (by decide) (by decide) (by decide) (by decide) ?_
      refine lv_aload_n hx hb dX12_square_121 rfl (lv_at hl 0 rfl) ?_
      refine va_get (D := (dC, dI)) (ci := 15) (v := .ref (q 1)) (C := RX12) (T := TX12) (N := 78) hx hb hts bF_X12 hown hK hP 1 rfl rfl 1 (by decide) (ht_at hts 12 rfl) (fun _ h9 => h9) rfl dX12_square_122 ?_
      refine lv_sipush (v := 384) hx hb dX12_square_125 (by decide) ?_
      refine lv_iload_n hx hb dX12_square_128 rfl (lv_at hl 1 rfl) ?_
      refine lv_iadd hx hb dX12_square_129 ?_
      refine lv_topi (fun x22 ex22 => ?_)
      refine va_iald hx hb hK hP 0 0 rfl rfl (by rw [ex22]; exact vin_add hc4 (by decide) (by decide) (by decide)) dX12_square_130 ?_
      refine lv_topi (fun x23 ex23 => ?_)
      obtain rfl : 0 = x23 := (ex23).symm
      exact W.iret (v := 0) hx hb hr (fun t ht hW => ⟨⟨0, (mF q 0), rfl, (by unfold T_square; rw [if_pos hc4]; (first | (rw [if_pos (by decide)]; exact ⟨rfl, fun _ => rfl⟩) | (rw [if_neg (by decide), if_pos (by decide)]; exact ⟨rfl, fun _ => rfl⟩))), by rw [ht]; exact hP.sub (ws' := [(h0, .inr (15, mF q 0))]) [1] rfl, hD.sub (ws' := [(h0, .inr (15, mF q 0))]) [1] (by decide) rfl⟩, hS.F ht⟩) hS.2.2 dX12_square_131
    by_cases hs24 : p1 = 5
    · subst hs24
      refine lv_tableIn (x := 5) (off := 112) (tgt := 132) hx hb dX12_square_20 (by decide) (by decide) (by decide) (by decide) ?_
      refine lv_aload_n hx hb dX12_square_132 rfl (lv_at hl 0 rfl) ?_
      refine va_get (D := (dC, dI)) (ci := 15) (v := .ref (q 1)) (C := RX12) (T := TX12) (N := 78) hx hb hts bF_X12 hown hK hP 1 rfl rfl 1 (by decide) (ht_at hts 12 rfl) (fun _ h9 => h9) rfl dX12_square_133 ?_
      refine lv_sipush (v := 480) hx hb dX12_square_136 (by decide) ?_
      refine lv_iload_n hx hb dX12_square_139 rfl (lv_at hl 1 rfl) ?_
      refine lv_iadd hx hb dX12_square_140 ?_
      refine lv_topi (fun x25 ex25 => ?_)
      refine va_iald hx hb hK hP 0 0 rfl rfl (by rw [ex25]; exact vin_add hc4 (by decide) (by decide) (by decide)) dX12_square_141 ?_
      refine lv_topi (fun x26 ex26 => ?_)
      obtain rfl : 0 = x26 := (ex26).symm
      exact W.iret (v := 0) hx hb hr (fun t ht hW => ⟨⟨0, (mF q 0), rfl, (by unfold T_square; rw [if_pos hc4]; (first | (rw [if_pos (by decide)]; exact ⟨rfl, fun _ => rfl⟩) | (rw [if_neg (by decide), if_pos (by decide)]; exact ⟨rfl, fun _ => rfl⟩))), by rw [ht]; exact hP.sub (ws' := [(h0, .inr (15, mF q 0))]) [1] rfl, hD.sub (ws' := [(h0, .inr (15, mF q 0))]) [1] (by decide) rfl⟩, hS.F ht⟩) hS.2.2 dX12_square_142
    by_cases hs27 : p1 = 6
    · subst hs27
      refine lv_tableIn (x := 6) (off := 123) (tgt := 143) hx hb dX12_square_20 (by decide) (by decide) (by decide) (by decide) ?_
      refine lv_aload_n hx hb dX12_square_143 rfl (lv_at hl 0 rfl) ?_
      refine lv_iload_n hx hb dX12_square_144 rfl (lv_at hl 1 rfl) ?_
      have hPc := hP.sub (ws' := [(h0, .inr (15, mF q 0)), (q 1, .inl ((cm 1), 1749, .inl (fun _ => 0)))]) [1, 0] rfl
      have hDc := hD.sub (ws' := [(h0, .inr (15, mF q 0)), (q 1, .inl ((cm 1), 1749, .inl (fun _ => 0)))]) [1, 0] (by decide) rfl
      have hKc := hK.sub (tys' := [((cm 1), .int)]) [0] rfl
      have hFc := va_free (wc := [(h0, .inr (15, mF q 0)), (q 1, .inl ((cm 1), 1749, .inl (fun _ => 0)))]) hD hS hA [1, 0] rfl
      refine va_calli (va_runV (As := [.int p0]) (rest := []) ⟨hx, hb, hml, hown, hts⟩ (m_level l dC dI h0 q cm p0 H.size hc4) (cwV 1 hts (goodIn_app (goodIn_r _ [27, 28, 29, 6] (by decide +kernel) (by decide +kernel)) (goodIn_ca (goodIn_r _ [14, 15, 13, 16, 17, 18, 6, 19, 20, 21, 22, 23, 24, 25, 26] (by decide +kernel) (by decide +kernel)) (bs_in _ _))) rfl rfl rfl (by decide +kernel) ⟨(Nat.le_of_ble_eq_true rfl), (Nat.le_of_ble_eq_true rfl)⟩) ⟨fun a U g mk q => by obtain ⟨q0, q1, qP, qK, qD⟩ := q; exact ⟨q0, q1, qP, va_K.moved (u := U) (U := U.calling g mk a) (Vm.Alike.refl U.vm) qK, qD⟩, va_recv hKc hPc (ci := 15) (q0 := 0) rfl rfl, fun U hU hW => ⟨rfl, by rw [hU], by rw [hU]; exact hPc, va_K.moved hW.alike hKc, hDc.weaken (fun _ _ _ _ => trivial)⟩⟩ rfl rfl hl.1 rfl (lv_room (Nat.le_of_ble_eq_true rfl)) dX12_square_145 ⟨(Nat.le_of_ble_eq_true rfl), (Nat.le_of_ble_eq_true rfl)⟩) hS (fun q _ h => hFc q h) hFc (fun r29 u t H1 locs ht hvm hw30 hB hz1 hk1 hS => ?_)
      obtain ⟨hP1, hD1⟩ := hB
      rw [ht] at hP1
      obtain ⟨hP, hD⟩ := va_join (wr := []) (w1 := [(h0, .inr (15, mF q 0)), (q 1, .inl ((cm 1), 1749, .inl (fun _ => 0)))]) hP hD [1, 0] [] rfl rfl (by decide) (by decide) hk1 hFc hP1 hD1
      generalize H1 = H at hP hS ⊢
      have hP : va_P (dC, dI) vwCl [(h0, .inr (15, mF q 0)), (q 1, .inl ((cm 1), 1749, .inl (fun _ => 0)))] H := hP
      have hD : va_D A [(h0, .inr (15, mF q 0)), (q 1, .inl ((cm 1), 1749, .inl (fun _ => 0)))] := hD
      try dsimp only at hw30
      obtain rfl : 0 = r29 := (hw30).symm
      exact W.iret (v := 0) hx hb hr (fun t ht hW => ⟨⟨0, (mF q 0), rfl, (by unfold T_square; rw [if_pos hc4]; (first | (rw [if_pos (by decide)]; exact ⟨rfl, fun _ => rfl⟩) | (rw [if_neg (by decide), if_pos (by decide)]; exact ⟨rfl, fun _ => rfl⟩))), by rw [ht]; exact hP.sub (ws' := [(h0, .inr (15, mF q 0))]) [0] rfl, hD.sub (ws' := [(h0, .inr (15, mF q 0))]) [0] (by decide) rfl⟩, hS.F ht⟩) hS.2.2 dX12_square_148
    by_cases hs31 : p1 = 7
    · subst hs31
      refine lv_tableIn (x := 7) (off := 129) (tgt := 149) hx hb dX12_square_20 (by decide) (by decide) (by decide) (by decide) ?_
      refine lv_aload_n hx hb dX12_square_149 rfl (lv_at hl 0 rfl) ?_
      refine va_get (D := (dC, dI)) (ci := 15) (v := .ref (q 1)) (C := RX12) (T := TX12) (N := 78) hx hb hts bF_X12 hown hK hP 1 rfl rfl 1 (by decide) (ht_at hts 12 rfl) (fun _ h9 => h9) rfl dX12_square_150 ?_
      refine lv_sipush (v := 576) hx hb dX12_square_153 (by decide) ?_
      refine lv_iload_n hx hb dX12_square_156 rfl (lv_at hl 1 rfl) ?_
      refine lv_iadd hx hb dX12_square_157 ?_
      refine lv_topi (fun x32 ex32 => ?_)
      refine va_iald hx hb hK hP 0 0 rfl rfl (by rw [ex32]; exact vin_add hc4 (by decide) (by decide) (by decide)) dX12_square_158 ?_
      refine lv_topi (fun x33 ex33 => ?_)
      obtain rfl : 0 = x33 := (ex33).symm
      exact W.iret (v := 0) hx hb hr (fun t ht hW => ⟨⟨0, (mF q 0), rfl, (by unfold T_square; rw [if_pos hc4]; (first | (rw [if_pos (by decide)]; exact ⟨rfl, fun _ => rfl⟩) | (rw [if_neg (by decide), if_pos (by decide)]; exact ⟨rfl, fun _ => rfl⟩))), by rw [ht]; exact hP.sub (ws' := [(h0, .inr (15, mF q 0))]) [1] rfl, hD.sub (ws' := [(h0, .inr (15, mF q 0))]) [1] (by decide) rfl⟩, hS.F ht⟩) hS.2.2 dX12_square_159
    by_cases hs34 : p1 = 8
    · subst hs34
      refine lv_tableIn (x := 8) (off := 140) (tgt := 160) hx hb dX12_square_20 (by decide) (by decide) (by decide) (by decide) ?_
      refine lv_aload_n hx hb dX12_square_160 rfl (lv_at hl 0 rfl) ?_
      refine va_get (D := (dC, dI)) (ci := 15) (v := .ref (q 1)) (C := RX12) (T := TX12) (N := 78) hx hb hts bF_X12 hown hK hP 1 rfl rfl 1 (by decide) (ht_at hts 12 rfl) (fun _ h9 => h9) rfl dX12_square_161 ?_
      refine lv_sipush (v := 672) hx hb dX12_square_164 (by decide) ?_
      refine lv_iload_n hx hb dX12_square_167 rfl (lv_at hl 1 rfl) ?_
      refine lv_iadd hx hb dX12_square_168 ?_
      refine lv_topi (fun x35 ex35 => ?_)
      refine va_iald hx hb hK hP 0 0 rfl rfl (by rw [ex35]; exact vin_add hc4 (by decide) (by decide) (by decide)) dX12_square_169 ?_
      refine lv_topi (fun x36 ex36 => ?_)
      obtain rfl : 0 = x36 := (ex36).symm
      exact W.iret (v := 0) hx hb hr (fun t ht hW => ⟨⟨0, (mF q 0), rfl, (by unfold T_square; rw [if_pos hc4]; (first | (rw [if_pos (by decide)]; exact ⟨rfl, fun _ => rfl⟩) | (rw [if_neg (by decide), if_pos (by decide)]; exact ⟨rfl, fun _ => rfl⟩))), by rw [ht]; exact hP.sub (ws' := [(h0, .inr (15, mF q 0))]) [1] rfl, hD.sub (ws' := [(h0, .inr (15, mF q 0))]) [1] (by decide) rfl⟩, hS.F ht⟩) hS.2.2 dX12_square_170
    by_cases hs37 : p1 = 9
    · subst hs37
      refine lv_tableIn (x := 9) (off := 151) (tgt := 171) hx hb dX12_square_20 (by decide) (by decide) (by decide) (by decide) ?_
      refine lv_aload_n hx hb dX12_square_171 rfl (lv_at hl 0 rfl) ?_
      refine lv_iload_n hx hb dX12_square_172 rfl (lv_at hl 1 rfl) ?_
      have hPc := hP.sub (ws' := [(h0, .inr (15, mF q 0))]) [1] rfl
      have hDc := hD.sub (ws' := [(h0, .inr (15, mF q 0))]) [1] (by decide) rfl
      have hKc := hK.sub (tys' := []) [] rfl
      have hFc := va_free (wc := [(h0, .inr (15, mF q 0))]) hD hS hA [1] rfl
      refine va_calli (va_runV (As := [.int p0]) (rest := []) ⟨hx, hb, hml, hown, hts⟩ (m_farmOf l dC dI h0 q cm p0 H.size ) (cwV 1 hts (goodIn_app (goodIn_r _ [32, 33, 34, 6] (by decide +kernel) (by decide +kernel)) (goodIn_ca (goodIn_r _ [30, 31] (by decide +kernel) (by decide +kernel)) (bs_in _ _))) rfl rfl rfl (by decide +kernel) ⟨(Nat.le_of_ble_eq_true rfl), (Nat.le_of_ble_eq_true rfl)⟩) ⟨fun a U g mk q => by obtain ⟨q0, q1, qP, qK, qD⟩ := q; exact ⟨q0, q1, qP, va_K.moved (u := U) (U := U.calling g mk a) (Vm.Alike.refl U.vm) qK, qD⟩, va_recv hKc hPc (ci := 15) (q0 := 0) rfl rfl, fun U hU hW => ⟨rfl, by rw [hU], by rw [hU]; exact hPc, va_K.moved hW.alike hKc, hDc.weaken (fun _ _ _ _ => trivial)⟩⟩ rfl rfl hl.1 rfl (lv_room (Nat.le_of_ble_eq_true rfl)) dX12_square_173 ⟨(Nat.le_of_ble_eq_true rfl), (Nat.le_of_ble_eq_true rfl)⟩) hS (fun q _ h => hFc q h) hFc (fun r39 u t H1 locs ht hvm hw40 hB hz1 hk1 hS => ?_)
      obtain ⟨hP1, hD1⟩ := hB
      rw [ht] at hP1
      obtain ⟨hP, hD⟩ := va_join (wr := [(q 1, .inl ((cm 1), 1749, .inl (fun _ => 0)))]) (w1 := [(h0, .inr (15, mF q 0))]) hP hD [1] [0] rfl rfl (by decide) (by decide) hk1 hFc hP1 hD1
      generalize H1 = H at hP hS ⊢
      have hP : va_P (dC, dI) vwCl [(q 1, .inl ((cm 1), 1749, .inl (fun _ => 0))), (h0, .inr (15, mF q 0))] H := hP
      have hD : va_D A [(q 1, .inl ((cm 1), 1749, .inl (fun _ => 0))), (h0, .inr (15, mF q 0))] := hD
      try dsimp only at hw40
      obtain rfl : (-1) = r39 := (hw40).symm
      exact W.iret (v := (-1)) hx hb hr (fun t ht hW => ⟨⟨(-1), (mF q 0), rfl, (by unfold T_square; rw [if_pos hc4]; (first | (rw [if_pos (by decide)]; exact ⟨rfl, fun _ => rfl⟩) | (rw [if_neg (by decide), if_pos (by decide)]; exact ⟨rfl, fun _ => rfl⟩))), by rw [ht]; exact hP.sub (ws' := [(h0, .inr (15, mF q 0))]) [1] rfl, hD.sub (ws' := [(h0, .inr (15, mF q 0))]) [1] (by decide) rfl⟩, hS.F ht⟩) hS.2.2 dX12_square_176
    by_cases hs41 : p1 = 10
    · subst hs41
      refine lv_tableIn (x := 10) (off := 157) (tgt := 177) hx hb dX12_square_20 (by decide) (by decide) (by decide) (by decide) ?_
      refine lv_aload_n hx hb dX12_square_177 rfl (lv_at hl 0 rfl) ?_
      refine lv_iload_n hx hb dX12_square_178 rfl (lv_at hl 1 rfl) ?_
      have hPc := hP.sub (ws' := [(h0, .inr (15, mF q 0)), (q 1, .inl ((cm 1), 1749, .inl (fun _ => 0)))]) [1, 0] rfl
      have hDc := hD.sub (ws' := [(h0, .inr (15, mF q 0)), (q 1, .inl ((cm 1), 1749, .inl (fun _ => 0)))]) [1, 0] (by decide) rfl
      have hKc := hK.sub (tys' := [((cm 1), .int)]) [0] rfl
      have hFc := va_free (wc := [(h0, .inr (15, mF q 0)), (q 1, .inl ((cm 1), 1749, .inl (fun _ => 0)))]) hD hS hA [1, 0] rfl
      refine va_calli (va_runV (As := [.int p0]) (rest := []) ⟨hx, hb, hml, hown, hts⟩ (m_workOn l dC dI h0 q cm p0 H.size ) (cwV 1 hts (goodIn_app (goodIn_r _ [36, 37, 38, 6] (by decide +kernel) (by decide +kernel)) (goodIn_ca (goodIn_r _ [35, 13] (by decide +kernel) (by decide +kernel)) (bs_in _ _))) rfl rfl rfl (by decide +kernel) ⟨(Nat.le_of_ble_eq_true rfl), (Nat.le_of_ble_eq_true rfl)⟩) ⟨fun a U g mk q => by obtain ⟨q0, q1, qP, qK, qD⟩ := q; exact ⟨q0, q1, qP, va_K.moved (u := U) (U := U.calling g mk a) (Vm.Alike.refl U.vm) qK, qD⟩, va_recv hKc hPc (ci := 15) (q0 := 0) rfl rfl, fun U hU hW => ⟨rfl, by rw [hU], by rw [hU]; exact hPc, va_K.moved hW.alike hKc, hDc.weaken (fun _ _ _ _ => trivial)⟩⟩ rfl rfl hl.1 rfl (lv_room (Nat.le_of_ble_eq_true rfl)) dX12_square_179 ⟨(Nat.le_of_ble_eq_true rfl), (Nat.le_of_ble_eq_true rfl)⟩) hS (fun q _ h => hFc q h) hFc (fun r43 u t H1 locs ht hvm hw44 hB hz1 hk1 hS => ?_)
      obtain ⟨hP1, hD1⟩ := hB
      rw [ht] at hP1
      obtain ⟨hP, hD⟩ := va_join (wr := []) (w1 := [(h0, .inr (15, mF q 0)), (q 1, .inl ((cm 1), 1749, .inl (fun _ => 0)))]) hP hD [1, 0] [] rfl rfl (by decide) (by decide) hk1 hFc hP1 hD1
      generalize H1 = H at hP hS ⊢
      have hP : va_P (dC, dI) vwCl [(h0, .inr (15, mF q 0)), (q 1, .inl ((cm 1), 1749, .inl (fun _ => 0)))] H := hP
      have hD : va_D A [(h0, .inr (15, mF q 0)), (q 1, .inl ((cm 1), 1749, .inl (fun _ => 0)))] := hD
      try dsimp only at hw44
      obtain rfl : (-1) = r43 := (hw44).symm
      exact W.iret (v := (-1)) hx hb hr (fun t ht hW => ⟨⟨(-1), (mF q 0), rfl, (by unfold T_square; rw [if_pos hc4]; (first | (rw [if_pos (by decide)]; exact ⟨rfl, fun _ => rfl⟩) | (rw [if_neg (by decide), if_pos (by decide)]; exact ⟨rfl, fun _ => rfl⟩))), by rw [ht]; exact hP.sub (ws' := [(h0, .inr (15, mF q 0))]) [0] rfl, hD.sub (ws' := [(h0, .inr (15, mF q 0))]) [0] (by decide) rfl⟩, hS.F ht⟩) hS.2.2 dX12_square_182
    have ho45 : p1.toInt < 0 ∨ 10 < p1.toInt := by
      have ehs9 : p1.toInt ≠ 0 := fun e => hs9 (Int32.toInt_inj.mp (e.trans (by decide)))
      have ehs12 : p1.toInt ≠ 1 := fun e => hs12 (Int32.toInt_inj.mp (e.trans (by decide)))
      have ehs15 : p1.toInt ≠ 2 := fun e => hs15 (Int32.toInt_inj.mp (e.trans (by decide)))
      have ehs18 : p1.toInt ≠ 3 := fun e => hs18 (Int32.toInt_inj.mp (e.trans (by decide)))
      have ehs21 : p1.toInt ≠ 4 := fun e => hs21 (Int32.toInt_inj.mp (e.trans (by decide)))
      have ehs24 : p1.toInt ≠ 5 := fun e => hs24 (Int32.toInt_inj.mp (e.trans (by decide)))
      have ehs27 : p1.toInt ≠ 6 := fun e => hs27 (Int32.toInt_inj.mp (e.trans (by decide)))
      have ehs31 : p1.toInt ≠ 7 := fun e => hs31 (Int32.toInt_inj.mp (e.trans (by decide)))
      have ehs34 : p1.toInt ≠ 8 := fun e => hs34 (Int32.toInt_inj.mp (e.trans (by decide)))
      have ehs37 : p1.toInt ≠ 9 := fun e => hs37 (Int32.toInt_inj.mp (e.trans (by decide)))
      have ehs41 : p1.toInt ≠ 10 := fun e => hs41 (Int32.toInt_inj.mp (e.trans (by decide)))
      omega
    refine lv_tableOut (tgt := 183) hx hb dX12_square_20 ho45 (by decide) ?_
    refine lv_aload_n hx hb dX12_square_183 rfl (lv_at hl 0 rfl) ?_
    refine lv_iconst (v := 2) hx hb dX12_square_184 (by decide) ?_
    refine va_put (D := (dC, dI)) (ci := 15) (v := .int 2) (ty := .int) (C := RX12) (T := TX12) (N := 78) hx hb hts bF_X12 tyX12 tyX12_ok nmX12 hown hK hP hD hS 1 rfl rfl 0 (by decide) (ht_at hts 0 rfl) (fun _ h9 => h9) rfl (by decide +kernel) rfl rfl (Nat.le_of_ble_eq_true rfl) dX12_square_185 (fun H locs hP hD hS => ?_)
    have hP : va_P (dC, dI) vwCl [(q 1, .inl ((cm 1), 1749, .inl (fun _ => 0))), (h0, .inr (15, mF q 2))] H := hP
    have hD : va_D A [(q 1, .inl ((cm 1), 1749, .inl (fun _ => 0))), (h0, .inr (15, mF q 2))] := hD
    refine lv_iconst (v := 0) hx hb dX12_square_188 (by decide) ?_
    exact W.iret (v := 0) hx hb hr (fun t ht hW => ⟨⟨0, (mF q 2), rfl, (by unfold T_square; rw [if_pos hc4, if_neg (w_out ho45 (by decide) (by decide)), if_neg (w_out ho45 (by decide) (by decide))]; exact ⟨rfl, fun h => absurd h (by decide)⟩), by rw [ht]; exact hP.sub (ws' := [(h0, .inr (15, mF q 2))]) [1] rfl, hD.sub (ws' := [(h0, .inr (15, mF q 2))]) [1] (by decide) rfl⟩, hS.F ht⟩) hS.2.2 dX12_square_189
  · rw [if_neg hc4] at hw3
    subst hw3
    refine lv_iconst (v := 1) hx hb dX12_square_10 (by decide) ?_
    have hPc := hP.sub (ws' := [(h0, .inr (15, mF q 0))]) [0] rfl
    have hDc := hD.sub (ws' := [(h0, .inr (15, mF q 0))]) [0] (by decide) rfl
    have hKc := hK.sub (tys' := []) [] rfl
    have hFc := va_free (wc := [(h0, .inr (15, mF q 0))]) hD hS hA [0] rfl
    refine va_calli (va_runV (As := [.int 1, .int 1]) (rest := []) ⟨hx, hb, hml, hown, hts⟩ (c_m_throwsIf1 l dC dI h0 (mF q 0) 1 H.size rfl) (cwV 2 hts (goodIn_app (goodIn_r _ [10, 11, 12, 6] (by decide +kernel) (by decide +kernel)) (goodIn_ca (goodIn_r _ [9, 1] (by decide +kernel) (by decide +kernel)) (bs_in _ _))) rfl rfl rfl (by decide +kernel) ⟨(Nat.le_of_ble_eq_true rfl), (Nat.le_of_ble_eq_true rfl)⟩) ⟨fun a U g mk q => by obtain ⟨q0, q1, qP, qK, qD⟩ := q; exact ⟨q0, q1, qP, va_K.moved (u := U) (U := U.calling g mk a) (Vm.Alike.refl U.vm) qK, qD⟩, va_recv hKc hPc (ci := 15) (q0 := 0) rfl rfl, fun U hU hW => ⟨rfl, by rw [hU], by rw [hU]; exact hPc, va_K.moved hW.alike hKc, hDc.weaken (fun _ _ _ _ => trivial)⟩⟩ rfl rfl hl.1 rfl (lv_room (Nat.le_of_ble_eq_true rfl)) dX12_square_11 ⟨(Nat.le_of_ble_eq_true rfl), (Nat.le_of_ble_eq_true rfl)⟩) hS (fun q _ h => hFc q h) hFc (fun r47 u t H1 locs ht hvm hw48 hB hz1 hk1 hS => ?_)
    obtain ⟨hP1, hD1⟩ := hB
    rw [ht] at hP1
    obtain ⟨hP, hD⟩ := va_join (wr := [(q 1, .inl ((cm 1), 1749, .inl (fun _ => 0)))]) (w1 := [(h0, .inr (15, mF q 1))]) hP hD [0] [1] rfl rfl (by decide) (by decide) hk1 hFc hP1 hD1
    generalize H1 = H at hP hS ⊢
    have hP : va_P (dC, dI) vwCl [(q 1, .inl ((cm 1), 1749, .inl (fun _ => 0))), (h0, .inr (15, mF q 1))] H := hP
    have hD : va_D A [(q 1, .inl ((cm 1), 1749, .inl (fun _ => 0))), (h0, .inr (15, mF q 1))] := hD
    try dsimp only at hw48
    obtain rfl : 1 = r47 := (hw48).symm
    refine lv_if_eq (tgt := 19) hx hb dX12_square_14 (by decide) (fun c49 => absurd c49 (by decide)) (fun c49 => ?_)
    refine lv_iconst (v := 0) hx hb dX12_square_17 (by decide) ?_
    exact W.iret (v := 0) hx hb hr (fun t ht hW => ⟨⟨0, (mF q 1), rfl, (by unfold T_square; rw [if_neg hc4]; exact ⟨rfl, fun h => absurd h (by decide)⟩), by rw [ht]; exact hP.sub (ws' := [(h0, .inr (15, mF q 1))]) [1] rfl, hD.sub (ws' := [(h0, .inr (15, mF q 1))]) [1] (by decide) rfl⟩, hS.F ht⟩) hS.2.2 dX12_square_18
