def w_m_fill : List Cond := .code yX12_fill cX12_fill 4 (some .boolean) :: ([.fieldLink RX12 194 "SeaLandModel" "thrown" "I", .code yX12_noSquare cX12_noSquare 1 (some .boolean), .code yX12_in cX12_in 3 (some .boolean), .methodLink RX12 197 yX12_in, .static yX12_in, .initialized RX12, .methodLink RX12 220 yX12_noSquare, .static yX12_noSquare, .code yX12_throwsIf cX12_throwsIf 3 (some .boolean), .methodLink RX12 224 yX12_throwsIf, .instanceMethod yX12_throwsIf, .selects RX12 yX12_throwsIf yX12_throwsIf, .constant RX12 241 100000, .code yX12_isLand cX12_isLand 2 (some .boolean), .fieldLink RX12 9 "SeaLandModel" "world" "[I", .methodLink RX12 235 yX12_isLand, .instanceMethod yX12_isLand, .selects RX12 yX12_isLand yX12_isLand] ++ bs)
set_option maxHeartbeats 4000000 in
set_option maxRecDepth 100000 in
theorem m_fill (l : Launch) (dC : Nat → ClassId) (dI : Nat → Nat → Nat) (h0 : Nat) (q : Nat → Nat) (cm : Nat → ClassId) (p0 p1 p2 : Int32) (sz : Nat) : Met l yX12_fill w_m_fill ({ frames := 2, cells := 0, slots := 0, locals := 42 }) (va_Pc [.ref h0, .int p0, .int p1, .int p2] (fun U => U.heap.size = sz ∧ va_P (dC, dI) vwCl [(h0, .inr (15, mF q 0)), (q 1, .inl ((cm 1), 1749, .inl (fun _ => 0)))] U.heap ∧ va_K (dC, dI) vwCl [((cm 1), .int)] U ∧ va_D (fun _ => True) [(h0, .inr (15, mF q 0)), (q 1, .inl ((cm 1), 1749, .inl (fun _ => 0)))])) (va_Qi (fun (r : Int32) (u : List Value) => u[0]? = some (.int (T_fill p0 p1 p2).1) ∧ ((T_fill p0 p1 p2).1 = 0 → r = (T_fill p0 p1 p2).2)) (fun (fs : List Value) (t : State) => va_P (dC, dI) vwCl [(h0, .inr (15, fs))] t.heap ∧ va_D (va_A [(h0, .inr (15, mF q 0)), (q 1, .inl ((cm 1), 1749, .inl (fun _ => 0)))] sz) [(h0, .inr (15, fs))]) (va_A [(h0, .inr (15, mF q 0)), (q 1, .inl ((cm 1), 1749, .inl (fun _ => 0)))] sz)) 0 0 (va_A [(h0, .inr (15, mF q 0)), (q 1, .inl ((cm 1), 1749, .inl (fun _ => 0)))] sz) := by
  refine Met.ofW (cc := cX12_fill) (maxL := 4) (ret := (some .boolean)) (by decide) rfl ?_
  intro p e s m args below meth c s₁ B hml hv
  obtain ⟨rfl, hsz, hP, hK, hD0⟩ := hv
  have hx := B.exec
  have hb := B.bytes
  have hr := B.returns
  have hts := atoms_spec (ws := w_m_fill) B.pre
  have hown : s.vm.findClass RX12 = some m.cls := findClass_of_methodNamed B.named
  have hlocks := B.notSynchronized
  subst hsz
  have hD := hD0.self (sz := s.heap.size)
  generalize hAe : va_A [(h0, .inr (15, mF q 0)), (q 1, .inl ((cm 1), 1749, .inl (fun _ => 0)))] s.heap.size = A at hD ⊢
  have hA : ∀ q : Nat, s.heap.size ≤ q → A q := fun q h => by rw [← hAe]; exact Or.inr h
  have hS : va_S A s.heap s.heap [] := va_S.rf
  have hP : va_P (dC, dI) vwCl [(h0, .inr (15, mF q 0)), (q 1, .inl ((cm 1), 1749, .inl (fun _ => 0)))] s.heap := hP
  have hl := lv_entry ([.ref h0, .int p0, .int p1, .int p2]) (n := 4) (Nat.le_of_ble_eq_true rfl)
  rw [lg_entry_eq]
  generalize (lg_sl ([.ref h0, .int p0, .int p1, .int p2]) ++ List.replicate (4 - (lg_sl ([.ref h0, .int p0, .int p1, .int p2])).length) Slot.unset).toArray = ls at hl ⊢
  have hl : lv_has ls 4 [(0, .ref h0), (1, .int p0), (2, .int p1), (3, .int p2)] := hl
  refine lv_aload_n hx hb dX12_fill_0 rfl (lv_at hl 0 rfl) ?_
  refine lv_iconst (v := 0) hx hb dX12_fill_1 (by decide) ?_
  refine va_put (D := (dC, dI)) (ci := 15) (v := .int 0) (ty := .int) (C := RX12) (T := TX12) (N := 78) hx hb hts bF_X12 tyX12 tyX12_ok nmX12 hown hK hP hD hS 0 rfl rfl 0 (by decide) (ht_at hts 0 rfl) (fun _ h9 => h9) rfl (by decide +kernel) rfl rfl (Nat.le_of_ble_eq_true rfl) dX12_fill_2 (fun H locs hP hD hS => ?_)
  have hP : va_P (dC, dI) vwCl [(h0, .inr (15, mF q 0)), (q 1, .inl ((cm 1), 1749, .inl (fun _ => 0)))] H := hP
  have hD : va_D A [(h0, .inr (15, mF q 0)), (q 1, .inl ((cm 1), 1749, .inl (fun _ => 0)))] := hD
  refine lv_aload_n hx hb dX12_fill_5 rfl (lv_at hl 0 rfl) ?_
  refine lv_iload_n hx hb dX12_fill_6 rfl (lv_at hl 1 rfl) ?_
  have hPc := hP.sub (ws' := []) [] rfl
  have hDc := hD.sub (ws' := []) [] (by decide) rfl
  have hKc := hK.sub (tys' := []) [] rfl
  have hFc := va_free (wc := []) hD hS hA [] rfl
  refine va_calli (va_runS (As := [.int p0]) (rest := [.ref h0]) ⟨hx, hb, hml, hown, hts⟩ (c_m_noSquare l dC dI p0 H.size ) (va_cwS 1 hts (goodIn_app (goodIn_r _ [7, 8, 6] (by decide +kernel) (by decide +kernel)) (goodIn_ca (goodIn_r _ [2, 3, 4, 5, 6] (by decide +kernel) (by decide +kernel)) (bs_in _ _))) rfl rfl rfl (by decide +kernel) ⟨(Nat.le_of_ble_eq_true rfl), (Nat.le_of_ble_eq_true rfl)⟩) ⟨fun a U g mk q => by obtain ⟨q0, q1, qP, qK, qD⟩ := q; exact ⟨q0, q1, qP, va_K.moved (u := U) (U := U.calling g mk a) (Vm.Alike.refl U.vm) qK, qD⟩, fun U hU hW => ⟨rfl, by rw [hU], by rw [hU]; exact hPc, va_K.moved hW.alike hKc, hDc.weaken (fun _ _ _ _ => trivial)⟩⟩ rfl rfl hl.1 rfl (lv_room (Nat.le_of_ble_eq_true rfl)) dX12_fill_7 ⟨(Nat.le_of_ble_eq_true rfl), (Nat.le_of_ble_eq_true rfl)⟩) hS (fun q _ h => hFc q h) hFc (fun r2 u t H1 locs ht hvm hw3 hB hz1 hk1 hS => ?_)
  have hP1 : va_P (dC, dI) vwCl [] H1 := nilP
  have hD1 : va_D (va_A [] H.size) [] := nilD
  have hK := hK
  obtain ⟨hP, hD⟩ := va_join (wr := [(h0, .inr (15, mF q 0)), (q 1, .inl ((cm 1), 1749, .inl (fun _ => 0)))]) (w1 := []) hP hD [] [0, 1] rfl rfl (by decide) (by decide) hk1 hFc hP1 hD1
  generalize H1 = H at hP hS ⊢
  have hP : va_P (dC, dI) vwCl [(h0, .inr (15, mF q 0)), (q 1, .inl ((cm 1), 1749, .inl (fun _ => 0)))] H := hP
  have hD : va_D A [(h0, .inr (15, mF q 0)), (q 1, .inl ((cm 1), 1749, .inl (fun _ => 0)))] := hD
  try dsimp only at hw3
  by_cases hc4 : 0 ≤ p0 ∧ p0 ≤ 95
  · rw [if_pos hc4] at hw3
    subst hw3
    refine lv_iconst (v := 1) hx hb dX12_fill_10 (by decide) ?_
    have hPc := hP.sub (ws' := [(h0, .inr (15, mF q 0))]) [0] rfl
    have hDc := hD.sub (ws' := [(h0, .inr (15, mF q 0))]) [0] (by decide) rfl
    have hKc := hK.sub (tys' := []) [] rfl
    have hFc := va_free (wc := [(h0, .inr (15, mF q 0))]) hD hS hA [0] rfl
    refine va_calli (va_runV (As := [.int 0, .int 1]) (rest := []) ⟨hx, hb, hml, hown, hts⟩ (c_m_throwsIf0 l dC dI h0 (mF q 0) 1 H.size ) (cwV 2 hts (goodIn_app (goodIn_r _ [10, 11, 12, 6] (by decide +kernel) (by decide +kernel)) (goodIn_ca (goodIn_r _ [9] (by decide +kernel) (by decide +kernel)) (bs_in _ _))) rfl rfl rfl (by decide +kernel) ⟨(Nat.le_of_ble_eq_true rfl), (Nat.le_of_ble_eq_true rfl)⟩) ⟨fun a U g mk q => by obtain ⟨q0, q1, qP, qK, qD⟩ := q; exact ⟨q0, q1, qP, va_K.moved (u := U) (U := U.calling g mk a) (Vm.Alike.refl U.vm) qK, qD⟩, va_recv hKc hPc (ci := 15) (q0 := 0) rfl rfl, fun U hU hW => ⟨rfl, by rw [hU], by rw [hU]; exact hPc, va_K.moved hW.alike hKc, hDc.weaken (fun _ _ _ _ => trivial)⟩⟩ rfl rfl hl.1 rfl (lv_room (Nat.le_of_ble_eq_true rfl)) dX12_fill_11 ⟨(Nat.le_of_ble_eq_true rfl), (Nat.le_of_ble_eq_true rfl)⟩) hS (fun q _ h => hFc q h) hFc (fun r6 u t H1 locs ht hvm hw7 hB hz1 hk1 hS => ?_)
    obtain ⟨hP1, hD1⟩ := hB
    rw [ht] at hP1
    obtain ⟨hP, hD⟩ := va_join (wr := [(q 1, .inl ((cm 1), 1749, .inl (fun _ => 0)))]) (w1 := [(h0, .inr (15, mF q 0))]) hP hD [0] [1] rfl rfl (by decide) (by decide) hk1 hFc hP1 hD1
    generalize H1 = H at hP hS ⊢
    have hP : va_P (dC, dI) vwCl [(q 1, .inl ((cm 1), 1749, .inl (fun _ => 0))), (h0, .inr (15, mF q 0))] H := hP
    have hD : va_D A [(q 1, .inl ((cm 1), 1749, .inl (fun _ => 0))), (h0, .inr (15, mF q 0))] := hD
    try dsimp only at hw7
    obtain rfl : 0 = r6 := (hw7).symm
    refine lv_if_ne (tgt := 59) hx hb dX12_fill_14 (by decide) (fun c8 => absurd c8 (by decide)) (fun c8 => ?_)
    refine lv_aload_n hx hb dX12_fill_17 rfl (lv_at hl 0 rfl) ?_
    refine lv_iload_n hx hb dX12_fill_18 rfl (lv_at hl 2 rfl) ?_
    refine lv_iconst (v := 0) hx hb dX12_fill_19 (by decide) ?_
    refine lv_sipush (v := 900) hx hb dX12_fill_20 (by decide) ?_
    have hPc := hP.sub (ws' := []) [] rfl
    have hDc := hD.sub (ws' := []) [] (by decide) rfl
    have hKc := hK.sub (tys' := []) [] rfl
    have hFc := va_free (wc := []) hD hS hA [] rfl
    refine va_calli (va_runS (As := [.int p1, .int 0, .int 900]) (rest := [.ref h0]) ⟨hx, hb, hml, hown, hts⟩ (c_min_ l dC dI p1 0 900 H.size ) (va_cwS 3 hts (goodIn_app (goodIn_r _ [4, 5, 6] (by decide +kernel) (by decide +kernel)) (goodIn_ca (goodIn_r _ [3] (by decide +kernel) (by decide +kernel)) (bs_in _ _))) rfl rfl rfl (by decide +kernel) ⟨(Nat.le_of_ble_eq_true rfl), (Nat.le_of_ble_eq_true rfl)⟩) ⟨fun a U g mk q => by obtain ⟨q0, q1, qP, qK, qD⟩ := q; exact ⟨q0, q1, qP, va_K.moved (u := U) (U := U.calling g mk a) (Vm.Alike.refl U.vm) qK, qD⟩, fun U hU hW => ⟨rfl, by rw [hU], by rw [hU]; exact hPc, va_K.moved hW.alike hKc, hDc.weaken (fun _ _ _ _ => trivial)⟩⟩ rfl rfl hl.1 rfl (lv_room (Nat.le_of_ble_eq_true rfl)) dX12_fill_23 ⟨(Nat.le_of_ble_eq_true rfl), (Nat.le_of_ble_eq_true rfl)⟩) hS (fun q _ h => hFc q h) hFc (fun r10 u t H1 locs ht hvm hw11 hB hz1 hk1 hS => ?_)
    have hP1 : va_P (dC, dI) vwCl [] H1 := nilP
    have hD1 : va_D (va_A [] H.size) [] := nilD
    have hK := hK
    obtain ⟨hP, hD⟩ := va_join (wr := [(q 1, .inl ((cm 1), 1749, .inl (fun _ => 0))), (h0, .inr (15, mF q 0))]) (w1 := []) hP hD [] [0, 1] rfl rfl (by decide) (by decide) hk1 hFc hP1 hD1
    generalize H1 = H at hP hS ⊢
    have hP : va_P (dC, dI) vwCl [(q 1, .inl ((cm 1), 1749, .inl (fun _ => 0))), (h0, .inr (15, mF q 0))] H := hP
    have hD : va_D A [(q 1, .inl ((cm 1), 1749, .inl (fun _ => 0))), (h0, .inr (15, mF q 0))] := hD
    try dsimp only at hw11
    by_cases hc12 : (0 : Int32) ≤ p1 ∧ p1 ≤ (900 : Int32)
    · rw [if_pos hc12] at hw11
      subst hw11
      refine lv_if_eq (tgt := 39) hx hb dX12_fill_26 (by decide) (fun c13 => absurd c13 (by decide)) (fun c13 => ?_)
      refine lv_iload_n hx hb dX12_fill_29 rfl (lv_at hl 3 rfl) ?_
      refine lv_iconst (v := 0) hx hb dX12_fill_30 (by decide) ?_
      refine lv_ldc (v := 100000) hx hb hown (ht_at hts 12 rfl) dX12_fill_31 ?_
      have hPc := hP.sub (ws' := []) [] rfl
      have hDc := hD.sub (ws' := []) [] (by decide) rfl
      have hKc := hK.sub (tys' := []) [] rfl
      have hFc := va_free (wc := []) hD hS hA [] rfl
      refine va_calli (va_runS (As := [.int p2, .int 0, .int 100000]) (rest := [.ref h0]) ⟨hx, hb, hml, hown, hts⟩ (c_min_ l dC dI p2 0 100000 H.size ) (va_cwS 3 hts (goodIn_app (goodIn_r _ [4, 5, 6] (by decide +kernel) (by decide +kernel)) (goodIn_ca (goodIn_r _ [3] (by decide +kernel) (by decide +kernel)) (bs_in _ _))) rfl rfl rfl (by decide +kernel) ⟨(Nat.le_of_ble_eq_true rfl), (Nat.le_of_ble_eq_true rfl)⟩) ⟨fun a U g mk q => by obtain ⟨q0, q1, qP, qK, qD⟩ := q; exact ⟨q0, q1, qP, va_K.moved (u := U) (U := U.calling g mk a) (Vm.Alike.refl U.vm) qK, qD⟩, fun U hU hW => ⟨rfl, by rw [hU], by rw [hU]; exact hPc, va_K.moved hW.alike hKc, hDc.weaken (fun _ _ _ _ => trivial)⟩⟩ rfl rfl hl.1 rfl (lv_room (Nat.le_of_ble_eq_true rfl)) dX12_fill_33 ⟨(Nat.le_of_ble_eq_true rfl), (Nat.le_of_ble_eq_true rfl)⟩) hS (fun q _ h => hFc q h) hFc (fun r15 u t H1 locs ht hvm hw16 hB hz1 hk1 hS => ?_)
      have hP1 : va_P (dC, dI) vwCl [] H1 := nilP
      have hD1 : va_D (va_A [] H.size) [] := nilD
      have hK := hK
      obtain ⟨hP, hD⟩ := va_join (wr := [(q 1, .inl ((cm 1), 1749, .inl (fun _ => 0))), (h0, .inr (15, mF q 0))]) (w1 := []) hP hD [] [0, 1] rfl rfl (by decide) (by decide) hk1 hFc hP1 hD1
      generalize H1 = H at hP hS ⊢
      have hP : va_P (dC, dI) vwCl [(q 1, .inl ((cm 1), 1749, .inl (fun _ => 0))), (h0, .inr (15, mF q 0))] H := hP
      have hD : va_D A [(q 1, .inl ((cm 1), 1749, .inl (fun _ => 0))), (h0, .inr (15, mF q 0))] := hD
      try dsimp only at hw16
      by_cases hc17 : (0 : Int32) ≤ p2 ∧ p2 ≤ (100000 : Int32)
      · rw [if_pos hc17] at hw16
        subst hw16
        refine lv_if_ne (tgt := 43) hx hb dX12_fill_36 (by decide) (fun c18 => ?_) (fun c18 => absurd c18 (by decide))
        refine lv_iconst (v := 0) hx hb dX12_fill_43 (by decide) ?_
        refine lv_iconst (v := 2) hx hb dX12_fill_44 (by decide) ?_
        have hPc := hP.sub (ws' := [(h0, .inr (15, mF q 0))]) [1] rfl
        have hDc := hD.sub (ws' := [(h0, .inr (15, mF q 0))]) [1] (by decide) rfl
        have hKc := hK.sub (tys' := []) [] rfl
        have hFc := va_free (wc := [(h0, .inr (15, mF q 0))]) hD hS hA [1] rfl
        refine va_calli (va_runV (As := [.int 0, .int 2]) (rest := []) ⟨hx, hb, hml, hown, hts⟩ (c_m_throwsIf0 l dC dI h0 (mF q 0) 2 H.size ) (cwV 2 hts (goodIn_app (goodIn_r _ [10, 11, 12, 6] (by decide +kernel) (by decide +kernel)) (goodIn_ca (goodIn_r _ [9] (by decide +kernel) (by decide +kernel)) (bs_in _ _))) rfl rfl rfl (by decide +kernel) ⟨(Nat.le_of_ble_eq_true rfl), (Nat.le_of_ble_eq_true rfl)⟩) ⟨fun a U g mk q => by obtain ⟨q0, q1, qP, qK, qD⟩ := q; exact ⟨q0, q1, qP, va_K.moved (u := U) (U := U.calling g mk a) (Vm.Alike.refl U.vm) qK, qD⟩, va_recv hKc hPc (ci := 15) (q0 := 0) rfl rfl, fun U hU hW => ⟨rfl, by rw [hU], by rw [hU]; exact hPc, va_K.moved hW.alike hKc, hDc.weaken (fun _ _ _ _ => trivial)⟩⟩ rfl rfl hl.1 rfl (lv_room (Nat.le_of_ble_eq_true rfl)) dX12_fill_45 ⟨(Nat.le_of_ble_eq_true rfl), (Nat.le_of_ble_eq_true rfl)⟩) hS (fun q _ h => hFc q h) hFc (fun r20 u t H1 locs ht hvm hw21 hB hz1 hk1 hS => ?_)
        obtain ⟨hP1, hD1⟩ := hB
        rw [ht] at hP1
        obtain ⟨hP, hD⟩ := va_join (wr := [(q 1, .inl ((cm 1), 1749, .inl (fun _ => 0)))]) (w1 := [(h0, .inr (15, mF q 0))]) hP hD [1] [0] rfl rfl (by decide) (by decide) hk1 hFc hP1 hD1
        generalize H1 = H at hP hS ⊢
        have hP : va_P (dC, dI) vwCl [(q 1, .inl ((cm 1), 1749, .inl (fun _ => 0))), (h0, .inr (15, mF q 0))] H := hP
        have hD : va_D A [(q 1, .inl ((cm 1), 1749, .inl (fun _ => 0))), (h0, .inr (15, mF q 0))] := hD
        try dsimp only at hw21
        obtain rfl : 0 = r20 := (hw21).symm
        refine lv_if_ne (tgt := 59) hx hb dX12_fill_48 (by decide) (fun c22 => absurd c22 (by decide)) (fun c22 => ?_)
        refine lv_aload_n hx hb dX12_fill_51 rfl (lv_at hl 0 rfl) ?_
        refine lv_iload_n hx hb dX12_fill_52 rfl (lv_at hl 1 rfl) ?_
        have hPc := hP.sub (ws' := [(h0, .inr (15, mF q 0)), (q 1, .inl ((cm 1), 1749, .inl (fun _ => 0)))]) [1, 0] rfl
        have hDc := hD.sub (ws' := [(h0, .inr (15, mF q 0)), (q 1, .inl ((cm 1), 1749, .inl (fun _ => 0)))]) [1, 0] (by decide) rfl
        have hKc := hK.sub (tys' := [((cm 1), .int)]) [0] rfl
        have hFc := va_free (wc := [(h0, .inr (15, mF q 0)), (q 1, .inl ((cm 1), 1749, .inl (fun _ => 0)))]) hD hS hA [1, 0] rfl
        refine va_calli (va_runV (As := [.int p0]) (rest := []) ⟨hx, hb, hml, hown, hts⟩ (m_isLand l dC dI h0 q cm p0 H.size hc4) (cwV 1 hts (goodIn_app (goodIn_r _ [16, 17, 18, 6] (by decide +kernel) (by decide +kernel)) (goodIn_ca (goodIn_r _ [14, 15] (by decide +kernel) (by decide +kernel)) (bs_in _ _))) rfl rfl rfl (by decide +kernel) ⟨(Nat.le_of_ble_eq_true rfl), (Nat.le_of_ble_eq_true rfl)⟩) ⟨fun a U g mk q => by obtain ⟨q0, q1, qP, qK, qD⟩ := q; exact ⟨q0, q1, qP, va_K.moved (u := U) (U := U.calling g mk a) (Vm.Alike.refl U.vm) qK, qD⟩, va_recv hKc hPc (ci := 15) (q0 := 0) rfl rfl, fun U hU hW => ⟨rfl, by rw [hU], by rw [hU]; exact hPc, va_K.moved hW.alike hKc, hDc.weaken (fun _ _ _ _ => trivial)⟩⟩ rfl rfl hl.1 rfl (lv_room (Nat.le_of_ble_eq_true rfl)) dX12_fill_53 ⟨(Nat.le_of_ble_eq_true rfl), (Nat.le_of_ble_eq_true rfl)⟩) hS (fun q _ h => hFc q h) hFc (fun r24 u t H1 locs ht hvm hw25 hB hz1 hk1 hS => ?_)
        obtain ⟨hP1, hD1⟩ := hB
        rw [ht] at hP1
        obtain ⟨hP, hD⟩ := va_join (wr := []) (w1 := [(h0, .inr (15, mF q 0)), (q 1, .inl ((cm 1), 1749, .inl (fun _ => 0)))]) hP hD [1, 0] [] rfl rfl (by decide) (by decide) hk1 hFc hP1 hD1
        generalize H1 = H at hP hS ⊢
        have hP : va_P (dC, dI) vwCl [(h0, .inr (15, mF q 0)), (q 1, .inl ((cm 1), 1749, .inl (fun _ => 0)))] H := hP
        have hD : va_D A [(h0, .inr (15, mF q 0)), (q 1, .inl ((cm 1), 1749, .inl (fun _ => 0)))] := hD
        try dsimp only at hw25
        obtain rfl : 0 = r24 := (hw25).symm
        refine lv_if_ne (tgt := 61) hx hb dX12_fill_56 (by decide) (fun c26 => absurd c26 (by decide)) (fun c26 => ?_)
        refine lv_iconst (v := 0) hx hb dX12_fill_59 (by decide) ?_
        exact W.zret (v := 0) hx hb hr (by decide) (fun t ht hW => ⟨⟨0, (mF q 0), rfl, (by unfold T_fill; rw [if_pos hc4, if_pos hc12, if_pos hc17]; (first | exact ⟨rfl, fun _ => rfl⟩ | exact ⟨rfl, fun h => absurd h (by decide)⟩)), by rw [ht]; exact hP.sub (ws' := [(h0, .inr (15, mF q 0))]) [0] rfl, hD.sub (ws' := [(h0, .inr (15, mF q 0))]) [0] (by decide) rfl⟩, hS.F ht⟩) hS.2.2 dX12_fill_60
      · rw [if_neg hc17] at hw16
        subst hw16
        refine lv_if_ne (tgt := 43) hx hb dX12_fill_36 (by decide) (fun c27 => absurd c27 (by decide)) (fun c27 => ?_)
        refine lv_iconst (v := 1) hx hb dX12_fill_39 (by decide) ?_
        refine lv_goto (tgt := 44) hx hb dX12_fill_40 (by decide) ?_
        refine lv_iconst (v := 2) hx hb dX12_fill_44 (by decide) ?_
        have hPc := hP.sub (ws' := [(h0, .inr (15, mF q 0))]) [1] rfl
        have hDc := hD.sub (ws' := [(h0, .inr (15, mF q 0))]) [1] (by decide) rfl
        have hKc := hK.sub (tys' := []) [] rfl
        have hFc := va_free (wc := [(h0, .inr (15, mF q 0))]) hD hS hA [1] rfl
        refine va_calli (va_runV (As := [.int 1, .int 2]) (rest := []) ⟨hx, hb, hml, hown, hts⟩ (c_m_throwsIf1 l dC dI h0 (mF q 0) 2 H.size rfl) (cwV 2 hts (goodIn_app (goodIn_r _ [10, 11, 12, 6] (by decide +kernel) (by decide +kernel)) (goodIn_ca (goodIn_r _ [9, 1] (by decide +kernel) (by decide +kernel)) (bs_in _ _))) rfl rfl rfl (by decide +kernel) ⟨(Nat.le_of_ble_eq_true rfl), (Nat.le_of_ble_eq_true rfl)⟩) ⟨fun a U g mk q => by obtain ⟨q0, q1, qP, qK, qD⟩ := q; exact ⟨q0, q1, qP, va_K.moved (u := U) (U := U.calling g mk a) (Vm.Alike.refl U.vm) qK, qD⟩, va_recv hKc hPc (ci := 15) (q0 := 0) rfl rfl, fun U hU hW => ⟨rfl, by rw [hU], by rw [hU]; exact hPc, va_K.moved hW.alike hKc, hDc.weaken (fun _ _ _ _ => trivial)⟩⟩ rfl rfl hl.1 rfl (lv_room (Nat.le_of_ble_eq_true rfl)) dX12_fill_45 ⟨(Nat.le_of_ble_eq_true rfl), (Nat.le_of_ble_eq_true rfl)⟩) hS (fun q _ h => hFc q h) hFc (fun r29 u t H1 locs ht hvm hw30 hB hz1 hk1 hS => ?_)
        obtain ⟨hP1, hD1⟩ := hB
        rw [ht] at hP1
        obtain ⟨hP, hD⟩ := va_join (wr := [(q 1, .inl ((cm 1), 1749, .inl (fun _ => 0)))]) (w1 := [(h0, .inr (15, mF q 2))]) hP hD [1] [0] rfl rfl (by decide) (by decide) hk1 hFc hP1 hD1
        generalize H1 = H at hP hS ⊢
        have hP : va_P (dC, dI) vwCl [(q 1, .inl ((cm 1), 1749, .inl (fun _ => 0))), (h0, .inr (15, mF q 2))] H := hP
        have hD : va_D A [(q 1, .inl ((cm 1), 1749, .inl (fun _ => 0))), (h0, .inr (15, mF q 2))] := hD
        try dsimp only at hw30
        obtain rfl : 1 = r29 := (hw30).symm
        refine lv_if_ne (tgt := 59) hx hb dX12_fill_48 (by decide) (fun c31 => ?_) (fun c31 => absurd c31 (by decide))
        refine lv_iconst (v := 0) hx hb dX12_fill_59 (by decide) ?_
        exact W.zret (v := 0) hx hb hr (by decide) (fun t ht hW => ⟨⟨0, (mF q 2), rfl, (by unfold T_fill; rw [if_pos hc4, if_pos hc12, if_neg hc17]; (first | exact ⟨rfl, fun _ => rfl⟩ | exact ⟨rfl, fun h => absurd h (by decide)⟩)), by rw [ht]; exact hP.sub (ws' := [(h0, .inr (15, mF q 2))]) [1] rfl, hD.sub (ws' := [(h0, .inr (15, mF q 2))]) [1] (by decide) rfl⟩, hS.F ht⟩) hS.2.2 dX12_fill_60
    · rw [if_neg hc12] at hw11
      subst hw11
      refine lv_if_eq (tgt := 39) hx hb dX12_fill_26 (by decide) (fun c32 => ?_) (fun c32 => absurd c32 (by decide))
      refine lv_iconst (v := 1) hx hb dX12_fill_39 (by decide) ?_
      refine lv_goto (tgt := 44) hx hb dX12_fill_40 (by decide) ?_
      refine lv_iconst (v := 2) hx hb dX12_fill_44 (by decide) ?_
      have hPc := hP.sub (ws' := [(h0, .inr (15, mF q 0))]) [1] rfl
      have hDc := hD.sub (ws' := [(h0, .inr (15, mF q 0))]) [1] (by decide) rfl
      have hKc := hK.sub (tys' := []) [] rfl
      have hFc := va_free (wc := [(h0, .inr (15, mF q 0))]) hD hS hA [1] rfl
      refine va_calli (va_runV (As := [.int 1, .int 2]) (rest := []) ⟨hx, hb, hml, hown, hts⟩ (c_m_throwsIf1 l dC dI h0 (mF q 0) 2 H.size rfl) (cwV 2 hts (goodIn_app (goodIn_r _ [10, 11, 12, 6] (by decide +kernel) (by decide +kernel)) (goodIn_ca (goodIn_r _ [9, 1] (by decide +kernel) (by decide +kernel)) (bs_in _ _))) rfl rfl rfl (by decide +kernel) ⟨(Nat.le_of_ble_eq_true rfl), (Nat.le_of_ble_eq_true rfl)⟩) ⟨fun a U g mk q => by obtain ⟨q0, q1, qP, qK, qD⟩ := q; exact ⟨q0, q1, qP, va_K.moved (u := U) (U := U.calling g mk a) (Vm.Alike.refl U.vm) qK, qD⟩, va_recv hKc hPc (ci := 15) (q0 := 0) rfl rfl, fun U hU hW => ⟨rfl, by rw [hU], by rw [hU]; exact hPc, va_K.moved hW.alike hKc, hDc.weaken (fun _ _ _ _ => trivial)⟩⟩ rfl rfl hl.1 rfl (lv_room (Nat.le_of_ble_eq_true rfl)) dX12_fill_45 ⟨(Nat.le_of_ble_eq_true rfl), (Nat.le_of_ble_eq_true rfl)⟩) hS (fun q _ h => hFc q h) hFc (fun r34 u t H1 locs ht hvm hw35 hB hz1 hk1 hS => ?_)
      obtain ⟨hP1, hD1⟩ := hB
      rw [ht] at hP1
      obtain ⟨hP, hD⟩ := va_join (wr := [(q 1, .inl ((cm 1), 1749, .inl (fun _ => 0)))]) (w1 := [(h0, .inr (15, mF q 2))]) hP hD [1] [0] rfl rfl (by decide) (by decide) hk1 hFc hP1 hD1
      generalize H1 = H at hP hS ⊢
      have hP : va_P (dC, dI) vwCl [(q 1, .inl ((cm 1), 1749, .inl (fun _ => 0))), (h0, .inr (15, mF q 2))] H := hP
      have hD : va_D A [(q 1, .inl ((cm 1), 1749, .inl (fun _ => 0))), (h0, .inr (15, mF q 2))] := hD
      try dsimp only at hw35
      obtain rfl : 1 = r34 := (hw35).symm
      refine lv_if_ne (tgt := 59) hx hb dX12_fill_48 (by decide) (fun c36 => ?_) (fun c36 => absurd c36 (by decide))
      refine lv_iconst (v := 0) hx hb dX12_fill_59 (by decide) ?_
      exact W.zret (v := 0) hx hb hr (by decide) (fun t ht hW => ⟨⟨0, (mF q 2), rfl, (by unfold T_fill; rw [if_pos hc4, if_neg hc12]; (first | exact ⟨rfl, fun _ => rfl⟩ | exact ⟨rfl, fun h => absurd h (by decide)⟩)), by rw [ht]; exact hP.sub (ws' := [(h0, .inr (15, mF q 2))]) [1] rfl, hD.sub (ws' := [(h0, .inr (15, mF q 2))]) [1] (by decide) rfl⟩, hS.F ht⟩) hS.2.2 dX12_fill_60
  · rw [if_neg hc4] at hw3
    subst hw3
    refine lv_iconst (v := 1) hx hb dX12_fill_10 (by decide) ?_
    have hPc := hP.sub (ws' := [(h0, .inr (15, mF q 0))]) [0] rfl
    have hDc := hD.sub (ws' := [(h0, .inr (15, mF q 0))]) [0] (by decide) rfl
    have hKc := hK.sub (tys' := []) [] rfl
    have hFc := va_free (wc := [(h0, .inr (15, mF q 0))]) hD hS hA [0] rfl
    refine va_calli (va_runV (As := [.int 1, .int 1]) (rest := []) ⟨hx, hb, hml, hown, hts⟩ (c_m_throwsIf1 l dC dI h0 (mF q 0) 1 H.size rfl) (cwV 2 hts (goodIn_app (goodIn_r _ [10, 11, 12, 6] (by decide +kernel) (by decide +kernel)) (goodIn_ca (goodIn_r _ [9, 1] (by decide +kernel) (by decide +kernel)) (bs_in _ _))) rfl rfl rfl (by decide +kernel) ⟨(Nat.le_of_ble_eq_true rfl), (Nat.le_of_ble_eq_true rfl)⟩) ⟨fun a U g mk q => by obtain ⟨q0, q1, qP, qK, qD⟩ := q; exact ⟨q0, q1, qP, va_K.moved (u := U) (U := U.calling g mk a) (Vm.Alike.refl U.vm) qK, qD⟩, va_recv hKc hPc (ci := 15) (q0 := 0) rfl rfl, fun U hU hW => ⟨rfl, by rw [hU], by rw [hU]; exact hPc, va_K.moved hW.alike hKc, hDc.weaken (fun _ _ _ _ => trivial)⟩⟩ rfl rfl hl.1 rfl (lv_room (Nat.le_of_ble_eq_true rfl)) dX12_fill_11 ⟨(Nat.le_of_ble_eq_true rfl), (Nat.le_of_ble_eq_true rfl)⟩) hS (fun q _ h => hFc q h) hFc (fun r38 u t H1 locs ht hvm hw39 hB hz1 hk1 hS => ?_)
    obtain ⟨hP1, hD1⟩ := hB
    rw [ht] at hP1
    obtain ⟨hP, hD⟩ := va_join (wr := [(q 1, .inl ((cm 1), 1749, .inl (fun _ => 0)))]) (w1 := [(h0, .inr (15, mF q 1))]) hP hD [0] [1] rfl rfl (by decide) (by decide) hk1 hFc hP1 hD1
    generalize H1 = H at hP hS ⊢
    have hP : va_P (dC, dI) vwCl [(q 1, .inl ((cm 1), 1749, .inl (fun _ => 0))), (h0, .inr (15, mF q 1))] H := hP
    have hD : va_D A [(q 1, .inl ((cm 1), 1749, .inl (fun _ => 0))), (h0, .inr (15, mF q 1))] := hD
    try dsimp only at hw39
    obtain rfl : 1 = r38 := (hw39).symm
    refine lv_if_ne (tgt := 59) hx hb dX12_fill_14 (by decide) (fun c40 => ?_) (fun c40 => absurd c40 (by decide))
    refine lv_iconst (v := 0) hx hb dX12_fill_59 (by decide) ?_
    exact W.zret (v := 0) hx hb hr (by decide) (fun t ht hW => ⟨⟨0, (mF q 1), rfl, (by unfold T_fill; rw [if_neg hc4]; (first | exact ⟨rfl, fun _ => rfl⟩ | exact ⟨rfl, fun h => absurd h (by decide)⟩)), by rw [ht]; exact hP.sub (ws' := [(h0, .inr (15, mF q 1))]) [1] rfl, hD.sub (ws' := [(h0, .inr (15, mF q 1))]) [1] (by decide) rfl⟩, hS.F ht⟩) hS.2.2 dX12_fill_60
def w_m_tide : List Cond := .code yX12_tide cX12_tide 3 none :: ([.fieldLink RX12 194 "SeaLandModel" "thrown" "I", .code yX12_in cX12_in 3 (some .boolean), .methodLink RX12 197 yX12_in, .static yX12_in, .initialized RX12, .code yX12_throwsIf cX12_throwsIf 3 (some .boolean), .methodLink RX12 224 yX12_throwsIf, .instanceMethod yX12_throwsIf, .selects RX12 yX12_throwsIf yX12_throwsIf, .fieldLink RX12 9 "SeaLandModel" "world" "[I", .fieldLink RX12 238 "SeaLandModel" "rows" "I"] ++ bs)
set_option maxHeartbeats 4000000 in
set_option maxRecDepth 100000 in
theorem m_tide (l : Launch) (dC : Nat → ClassId) (dI : Nat → Nat → Nat) (h0 : Nat) (q : Nat → Nat) (cm : Nat → ClassId) (p0 p1 : Int32) (sz : Nat) : Met l yX12_tide w_m_tide ({ frames := 1, cells := 0, slots := 0, locals := 22 }) (va_Pc [.ref h0, .int p0, .int p1] (fun U => U.heap.size = sz ∧ va_P (dC, dI) vwCl [(h0, .inr (15, mF q 0)), (q 1, .inl ((cm 1), 1749, .inl (fun _ => 0)))] U.heap ∧ va_K (dC, dI) vwCl [((cm 1), .int)] U ∧ va_D (fun _ => True) [(h0, .inr (15, mF q 0)), (q 1, .inl ((cm 1), 1749, .inl (fun _ => 0)))])) (va_Qv (fun (u : List Value) => u[0]? = some (.int (T_tide p0 p1).1)) (fun (fs : List Value) (t : State) => va_P (dC, dI) vwCl [(h0, .inr (15, fs))] t.heap ∧ va_D (va_A [(h0, .inr (15, mF q 0)), (q 1, .inl ((cm 1), 1749, .inl (fun _ => 0)))] sz) [(h0, .inr (15, fs))]) (va_A [(h0, .inr (15, mF q 0)), (q 1, .inl ((cm 1), 1749, .inl (fun _ => 0)))] sz)) 0 0 (va_A [(h0, .inr (15, mF q 0)), (q 1, .inl ((cm 1), 1749, .inl (fun _ => 0)))] sz) := by
  refine Met.ofW (cc := cX12_tide) (maxL := 3) (ret := none) (by decide) rfl ?_
  intro p e s m args below meth c s₁ B hml hv
  obtain ⟨rfl, hsz, hP, hK, hD0⟩ := hv
  have hx := B.exec
  have hb := B.bytes
  have hr := B.returns
  have hts := atoms_spec (ws := w_m_tide) B.pre
  have hown : s.vm.findClass RX12 = some m.cls := findClass_of_methodNamed B.named
  have hlocks := B.notSynchronized
  subst hsz
  have hD := hD0.self (sz := s.heap.size)
  generalize hAe : va_A [(h0, .inr (15, mF q 0)), (q 1, .inl ((cm 1), 1749, .inl (fun _ => 0)))] s.heap.size = A at hD ⊢
  have hA : ∀ q : Nat, s.heap.size ≤ q → A q := fun q h => by rw [← hAe]; exact Or.inr h
  have hS : va_S A s.heap s.heap [] := va_S.rf
  have hP : va_P (dC, dI) vwCl [(h0, .inr (15, mF q 0)), (q 1, .inl ((cm 1), 1749, .inl (fun _ => 0)))] s.heap := hP
  have hl := lv_entry ([.ref h0, .int p0, .int p1]) (n := 3) (Nat.le_of_ble_eq_true rfl)
  rw [lg_entry_eq]
  generalize (lg_sl ([.ref h0, .int p0, .int p1]) ++ List.replicate (3 - (lg_sl ([.ref h0, .int p0, .int p1])).length) Slot.unset).toArray = ls at hl ⊢
  have hl : lv_has ls 3 [(0, .ref h0), (1, .int p0), (2, .int p1)] := hl
  refine lv_aload_n hx hb dX12_tide_0 rfl (lv_at hl 0 rfl) ?_
  refine lv_iconst (v := 0) hx hb dX12_tide_1 (by decide) ?_
  refine va_put (D := (dC, dI)) (ci := 15) (v := .int 0) (ty := .int) (C := RX12) (T := TX12) (N := 78) hx hb hts bF_X12 tyX12 tyX12_ok nmX12 hown hK hP hD hS 0 rfl rfl 0 (by decide) (ht_at hts 0 rfl) (fun _ h9 => h9) rfl (by decide +kernel) rfl rfl (Nat.le_of_ble_eq_true rfl) dX12_tide_2 (fun H locs hP hD hS => ?_)
  have hP : va_P (dC, dI) vwCl [(h0, .inr (15, mF q 0)), (q 1, .inl ((cm 1), 1749, .inl (fun _ => 0)))] H := hP
  have hD : va_D A [(h0, .inr (15, mF q 0)), (q 1, .inl ((cm 1), 1749, .inl (fun _ => 0)))] := hD
  refine lv_aload_n hx hb dX12_tide_5 rfl (lv_at hl 0 rfl) ?_
  refine lv_iload_n hx hb dX12_tide_6 rfl (lv_at hl 1 rfl) ?_
  refine lv_iconst (v := 0) hx hb dX12_tide_7 (by decide) ?_
  refine lv_bipush (v := 11) hx hb dX12_tide_8 (by decide) ?_
  have hPc := hP.sub (ws' := []) [] rfl
  have hDc := hD.sub (ws' := []) [] (by decide) rfl
  have hKc := hK.sub (tys' := []) [] rfl
  have hFc := va_free (wc := []) hD hS hA [] rfl
  refine va_calli (va_runS (As := [.int p0, .int 0, .int 11]) (rest := [.ref h0]) ⟨hx, hb, hml, hown, hts⟩ (c_min_ l dC dI p0 0 11 H.size ) (va_cwS 3 hts (goodIn_app (goodIn_r _ [3, 4, 5] (by decide +kernel) (by decide +kernel)) (goodIn_ca (goodIn_r _ [2] (by decide +kernel) (by decide +kernel)) (bs_in _ _))) rfl rfl rfl (by decide +kernel) ⟨(Nat.le_of_ble_eq_true rfl), (Nat.le_of_ble_eq_true rfl)⟩) ⟨fun a U g mk q => by obtain ⟨q0, q1, qP, qK, qD⟩ := q; exact ⟨q0, q1, qP, va_K.moved (u := U) (U := U.calling g mk a) (Vm.Alike.refl U.vm) qK, qD⟩, fun U hU hW => ⟨rfl, by rw [hU], by rw [hU]; exact hPc, va_K.moved hW.alike hKc, hDc.weaken (fun _ _ _ _ => trivial)⟩⟩ rfl rfl hl.1 rfl (lv_room (Nat.le_of_ble_eq_true rfl)) dX12_tide_10 ⟨(Nat.le_of_ble_eq_true rfl), (Nat.le_of_ble_eq_true rfl)⟩) hS (fun q _ h => hFc q h) hFc (fun r2 u t H1 locs ht hvm hw3 hB hz1 hk1 hS => ?_)
  have hP1 : va_P (dC, dI) vwCl [] H1 := nilP
  have hD1 : va_D (va_A [] H.size) [] := nilD
  have hK := hK
  obtain ⟨hP, hD⟩ := va_join (wr := [(h0, .inr (15, mF q 0)), (q 1, .inl ((cm 1), 1749, .inl (fun _ => 0)))]) (w1 := []) hP hD [] [0, 1] rfl rfl (by decide) (by decide) hk1 hFc hP1 hD1
  generalize H1 = H at hP hS ⊢
  have hP : va_P (dC, dI) vwCl [(h0, .inr (15, mF q 0)), (q 1, .inl ((cm 1), 1749, .inl (fun _ => 0)))] H := hP
  have hD : va_D A [(h0, .inr (15, mF q 0)), (q 1, .inl ((cm 1), 1749, .inl (fun _ => 0)))] := hD
  try dsimp only at hw3
  by_cases hc4 : (0 : Int32) ≤ p0 ∧ p0 ≤ (11 : Int32)
  · rw [if_pos hc4] at hw3
    subst hw3
    refine lv_if_eq (tgt := 29) hx hb dX12_tide_13 (by decide) (fun c5 => absurd c5 (by decide)) (fun c5 => ?_)
    refine lv_iload_n hx hb dX12_tide_16 rfl (lv_at hl 2 rfl) ?_
    refine lv_sipush (v := (-400)) hx hb dX12_tide_17 (by decide) ?_
    refine lv_sipush (v := 400) hx hb dX12_tide_20 (by decide) ?_
    have hPc := hP.sub (ws' := []) [] rfl
    have hDc := hD.sub (ws' := []) [] (by decide) rfl
    have hKc := hK.sub (tys' := []) [] rfl
    have hFc := va_free (wc := []) hD hS hA [] rfl
    refine va_calli (va_runS (As := [.int p1, .int (-400), .int 400]) (rest := [.ref h0]) ⟨hx, hb, hml, hown, hts⟩ (c_min_ l dC dI p1 (-400) 400 H.size ) (va_cwS 3 hts (goodIn_app (goodIn_r _ [3, 4, 5] (by decide +kernel) (by decide +kernel)) (goodIn_ca (goodIn_r _ [2] (by decide +kernel) (by decide +kernel)) (bs_in _ _))) rfl rfl rfl (by decide +kernel) ⟨(Nat.le_of_ble_eq_true rfl), (Nat.le_of_ble_eq_true rfl)⟩) ⟨fun a U g mk q => by obtain ⟨q0, q1, qP, qK, qD⟩ := q; exact ⟨q0, q1, qP, va_K.moved (u := U) (U := U.calling g mk a) (Vm.Alike.refl U.vm) qK, qD⟩, fun U hU hW => ⟨rfl, by rw [hU], by rw [hU]; exact hPc, va_K.moved hW.alike hKc, hDc.weaken (fun _ _ _ _ => trivial)⟩⟩ rfl rfl hl.1 rfl (lv_room (Nat.le_of_ble_eq_true rfl)) dX12_tide_23 ⟨(Nat.le_of_ble_eq_true rfl), (Nat.le_of_ble_eq_true rfl)⟩) hS (fun q _ h => hFc q h) hFc (fun r7 u t H1 locs ht hvm hw8 hB hz1 hk1 hS => ?_)
    have hP1 : va_P (dC, dI) vwCl [] H1 := nilP
    have hD1 : va_D (va_A [] H.size) [] := nilD
    have hK := hK
    obtain ⟨hP, hD⟩ := va_join (wr := [(h0, .inr (15, mF q 0)), (q 1, .inl ((cm 1), 1749, .inl (fun _ => 0)))]) (w1 := []) hP hD [] [0, 1] rfl rfl (by decide) (by decide) hk1 hFc hP1 hD1
    generalize H1 = H at hP hS ⊢
    have hP : va_P (dC, dI) vwCl [(h0, .inr (15, mF q 0)), (q 1, .inl ((cm 1), 1749, .inl (fun _ => 0)))] H := hP
    have hD : va_D A [(h0, .inr (15, mF q 0)), (q 1, .inl ((cm 1), 1749, .inl (fun _ => 0)))] := hD
    try dsimp only at hw8
    by_cases hc9 : (-400 : Int32) ≤ p1 ∧ p1 ≤ (400 : Int32)
    · rw [if_pos hc9] at hw8
      subst hw8
      refine lv_if_ne (tgt := 33) hx hb dX12_tide_26 (by decide) (fun c10 => ?_) (fun c10 => absurd c10 (by decide))
      refine lv_iconst (v := 0) hx hb dX12_tide_33 (by decide) ?_
      refine lv_iconst (v := 1) hx hb dX12_tide_34 (by decide) ?_
      have hPc := hP.sub (ws' := [(h0, .inr (15, mF q 0))]) [0] rfl
      have hDc := hD.sub (ws' := [(h0, .inr (15, mF q 0))]) [0] (by decide) rfl
      have hKc := hK.sub (tys' := []) [] rfl
      have hFc := va_free (wc := [(h0, .inr (15, mF q 0))]) hD hS hA [0] rfl
      refine va_calli (va_runV (As := [.int 0, .int 1]) (rest := []) ⟨hx, hb, hml, hown, hts⟩ (c_m_throwsIf0 l dC dI h0 (mF q 0) 1 H.size ) (cwV 2 hts (goodIn_app (goodIn_r _ [7, 8, 9, 5] (by decide +kernel) (by decide +kernel)) (goodIn_ca (goodIn_r _ [6] (by decide +kernel) (by decide +kernel)) (bs_in _ _))) rfl rfl rfl (by decide +kernel) ⟨(Nat.le_of_ble_eq_true rfl), (Nat.le_of_ble_eq_true rfl)⟩) ⟨fun a U g mk q => by obtain ⟨q0, q1, qP, qK, qD⟩ := q; exact ⟨q0, q1, qP, va_K.moved (u := U) (U := U.calling g mk a) (Vm.Alike.refl U.vm) qK, qD⟩, va_recv hKc hPc (ci := 15) (q0 := 0) rfl rfl, fun U hU hW => ⟨rfl, by rw [hU], by rw [hU]; exact hPc, va_K.moved hW.alike hKc, hDc.weaken (fun _ _ _ _ => trivial)⟩⟩ rfl rfl hl.1 rfl (lv_room (Nat.le_of_ble_eq_true rfl)) dX12_tide_35 ⟨(Nat.le_of_ble_eq_true rfl), (Nat.le_of_ble_eq_true rfl)⟩) hS (fun q _ h => hFc q h) hFc (fun r12 u t H1 locs ht hvm hw13 hB hz1 hk1 hS => ?_)
      obtain ⟨hP1, hD1⟩ := hB
      rw [ht] at hP1
      obtain ⟨hP, hD⟩ := va_join (wr := [(q 1, .inl ((cm 1), 1749, .inl (fun _ => 0)))]) (w1 := [(h0, .inr (15, mF q 0))]) hP hD [0] [1] rfl rfl (by decide) (by decide) hk1 hFc hP1 hD1
      generalize H1 = H at hP hS ⊢
      have hP : va_P (dC, dI) vwCl [(q 1, .inl ((cm 1), 1749, .inl (fun _ => 0))), (h0, .inr (15, mF q 0))] H := hP
      have hD : va_D A [(q 1, .inl ((cm 1), 1749, .inl (fun _ => 0))), (h0, .inr (15, mF q 0))] := hD
      try dsimp only at hw13
      obtain rfl : 0 = r12 := (hw13).symm
      refine lv_if_eq (tgt := 42) hx hb dX12_tide_38 (by decide) (fun c14 => ?_) (fun c14 => absurd c14 (by decide))
      refine lv_aload_n hx hb dX12_tide_42 rfl (lv_at hl 0 rfl) ?_
      refine va_get (D := (dC, dI)) (ci := 15) (v := .ref (q 1)) (C := RX12) (T := TX12) (N := 78) hx hb hts bF_X12 hown hK hP 1 rfl rfl 1 (by decide) (ht_at hts 9 rfl) (fun _ h9 => h9) rfl dX12_tide_43 ?_
      refine lv_sipush (v := 1430) hx hb dX12_tide_46 (by decide) ?_
      refine lv_iload_n hx hb dX12_tide_49 rfl (lv_at hl 1 rfl) ?_
      refine lv_iadd hx hb dX12_tide_50 ?_
      refine lv_topi (fun x15 ex15 => ?_)
      refine lv_iload_n hx hb dX12_tide_51 rfl (lv_at hl 2 rfl) ?_
      refine va_iast hx hb hK hP hD hS 0 0 rfl rfl (by rw [ex15]; exact vin_add hc4 (by decide) (by decide) (by decide)) dX12_tide_52 (fun H locs hP hD hS => ?_)
      have hP : va_P (dC, dI) vwCl [(q 1, .inl ((cm 1), 1749, .inl (upd (fun _ => 0) x15.toNatClampNeg p1))), (h0, .inr (15, mF q 0))] H := hP
      have hD : va_D A [(q 1, .inl ((cm 1), 1749, .inl (upd (fun _ => 0) x15.toNatClampNeg p1))), (h0, .inr (15, mF q 0))] := hD
      refine lv_aload_n hx hb dX12_tide_53 rfl (lv_at hl 0 rfl) ?_
      refine lv_iconst (v := 0) hx hb dX12_tide_54 (by decide) ?_
      refine va_put (D := (dC, dI)) (ci := 15) (v := .int 0) (ty := .int) (C := RX12) (T := TX12) (N := 78) hx hb hts bF_X12 tyX12 tyX12_ok nmX12 hown hK hP hD hS 1 rfl rfl 9 (by decide) (ht_at hts 10 rfl) (fun _ h9 => h9) rfl (by decide +kernel) rfl rfl (Nat.le_of_ble_eq_true rfl) dX12_tide_55 (fun H locs hP hD hS => ?_)
      have hP : va_P (dC, dI) vwCl [(q 1, .inl ((cm 1), 1749, .inl (upd (fun _ => 0) x15.toNatClampNeg p1))), (h0, .inr (15, mF q 0))] H := hP
      have hD : va_D A [(q 1, .inl ((cm 1), 1749, .inl (upd (fun _ => 0) x15.toNatClampNeg p1))), (h0, .inr (15, mF q 0))] := hD
      exact W.vret hx hb hr (fun t ht hW => ⟨⟨(mF q 0), rfl, (by unfold T_tide; rw [if_pos hc4, if_pos hc9]; rfl), by rw [ht]; exact hP.sub (ws' := [(h0, .inr (15, mF q 0))]) [1] rfl, hD.sub (ws' := [(h0, .inr (15, mF q 0))]) [1] (by decide) rfl⟩, hS.F ht⟩) hS.2.2 dX12_tide_58
    · rw [if_neg hc9] at hw8
      subst hw8
      refine lv_if_ne (tgt := 33) hx hb dX12_tide_26 (by decide) (fun c16 => absurd c16 (by decide)) (fun c16 => ?_)
      refine lv_iconst (v := 1) hx hb dX12_tide_29 (by decide) ?_
      refine lv_goto (tgt := 34) hx hb dX12_tide_30 (by decide) ?_
      refine lv_iconst (v := 1) hx hb dX12_tide_34 (by decide) ?_
      have hPc := hP.sub (ws' := [(h0, .inr (15, mF q 0))]) [0] rfl
      have hDc := hD.sub (ws' := [(h0, .inr (15, mF q 0))]) [0] (by decide) rfl
      have hKc := hK.sub (tys' := []) [] rfl
      have hFc := va_free (wc := [(h0, .inr (15, mF q 0))]) hD hS hA [0] rfl
      refine va_calli (va_runV (As := [.int 1, .int 1]) (rest := []) ⟨hx, hb, hml, hown, hts⟩ (c_m_throwsIf1 l dC dI h0 (mF q 0) 1 H.size rfl) (cwV 2 hts (goodIn_app (goodIn_r _ [7, 8, 9, 5] (by decide +kernel) (by decide +kernel)) (goodIn_ca (goodIn_r _ [6, 1] (by decide +kernel) (by decide +kernel)) (bs_in _ _))) rfl rfl rfl (by decide +kernel) ⟨(Nat.le_of_ble_eq_true rfl), (Nat.le_of_ble_eq_true rfl)⟩) ⟨fun a U g mk q => by obtain ⟨q0, q1, qP, qK, qD⟩ := q; exact ⟨q0, q1, qP, va_K.moved (u := U) (U := U.calling g mk a) (Vm.Alike.refl U.vm) qK, qD⟩, va_recv hKc hPc (ci := 15) (q0 := 0) rfl rfl, fun U hU hW => ⟨rfl, by rw [hU], by rw [hU]; exact hPc, va_K.moved hW.alike hKc, hDc.weaken (fun _ _ _ _ => trivial)⟩⟩ rfl rfl hl.1 rfl (lv_room (Nat.le_of_ble_eq_true rfl)) dX12_tide_35 ⟨(Nat.le_of_ble_eq_true rfl), (Nat.le_of_ble_eq_true rfl)⟩) hS (fun q _ h => hFc q h) hFc (fun r18 u t H1 locs ht hvm hw19 hB hz1 hk1 hS => ?_)
      obtain ⟨hP1, hD1⟩ := hB
      rw [ht] at hP1
      obtain ⟨hP, hD⟩ := va_join (wr := [(q 1, .inl ((cm 1), 1749, .inl (fun _ => 0)))]) (w1 := [(h0, .inr (15, mF q 1))]) hP hD [0] [1] rfl rfl (by decide) (by decide) hk1 hFc hP1 hD1
      generalize H1 = H at hP hS ⊢
      have hP : va_P (dC, dI) vwCl [(q 1, .inl ((cm 1), 1749, .inl (fun _ => 0))), (h0, .inr (15, mF q 1))] H := hP
      have hD : va_D A [(q 1, .inl ((cm 1), 1749, .inl (fun _ => 0))), (h0, .inr (15, mF q 1))] := hD
      try dsimp only at hw19
      obtain rfl : 1 = r18 := (hw19).symm
      refine lv_if_eq (tgt := 42) hx hb dX12_tide_38 (by decide) (fun c20 => absurd c20 (by decide)) (fun c20 => ?_)
      exact W.vret hx hb hr (fun t ht hW => ⟨⟨(mF q 1), rfl, (by unfold T_tide; rw [if_pos hc4, if_neg hc9]; rfl), by rw [ht]; exact hP.sub (ws' := [(h0, .inr (15, mF q 1))]) [1] rfl, hD.sub (ws' := [(h0, .inr (15, mF q 1))]) [1] (by decide) rfl⟩, hS.F ht⟩) hS.2.2 dX12_tide_41
  · rw [if_neg hc4] at hw3
    subst hw3
    refine lv_if_eq (tgt := 29) hx hb dX12_tide_13 (by decide) (fun c21 => ?_) (fun c21 => absurd c21 (by decide))
    refine lv_iconst (v := 1) hx hb dX12_tide_29 (by decide) ?_
    refine lv_goto (tgt := 34) hx hb dX12_tide_30 (by decide) ?_
    refine lv_iconst (v := 1) hx hb dX12_tide_34 (by decide) ?_
    have hPc := hP.sub (ws' := [(h0, .inr (15, mF q 0))]) [0] rfl
    have hDc := hD.sub (ws' := [(h0, .inr (15, mF q 0))]) [0] (by decide) rfl
    have hKc := hK.sub (tys' := []) [] rfl
    have hFc := va_free (wc := [(h0, .inr (15, mF q 0))]) hD hS hA [0] rfl
    refine va_calli (va_runV (As := [.int 1, .int 1]) (rest := []) ⟨hx, hb, hml, hown, hts⟩ (c_m_throwsIf1 l dC dI h0 (mF q 0) 1 H.size rfl) (cwV 2 hts (goodIn_app (goodIn_r _ [7, 8, 9, 5] (by decide +kernel) (by decide +kernel)) (goodIn_ca (goodIn_r _ [6, 1] (by decide +kernel) (by decide +kernel)) (bs_in _ _))) rfl rfl rfl (by decide +kernel) ⟨(Nat.le_of_ble_eq_true rfl), (Nat.le_of_ble_eq_true rfl)⟩) ⟨fun a U g mk q => by obtain ⟨q0, q1, qP, qK, qD⟩ := q; exact ⟨q0, q1, qP, va_K.moved (u := U) (U := U.calling g mk a) (Vm.Alike.refl U.vm) qK, qD⟩, va_recv hKc hPc (ci := 15) (q0 := 0) rfl rfl, fun U hU hW => ⟨rfl, by rw [hU], by rw [hU]; exact hPc, va_K.moved hW.alike hKc, hDc.weaken (fun _ _ _ _ => trivial)⟩⟩ rfl rfl hl.1 rfl (lv_room (Nat.le_of_ble_eq_true rfl)) dX12_tide_35 ⟨(Nat.le_of_ble_eq_true rfl), (Nat.le_of_ble_eq_true rfl)⟩) hS (fun q _ h => hFc q h) hFc (fun r23 u t H1 locs ht hvm hw24 hB hz1 hk1 hS => ?_)
    obtain ⟨hP1, hD1⟩ := hB
    rw [ht] at hP1
    obtain ⟨hP, hD⟩ := va_join (wr := [(q 1, .inl ((cm 1), 1749, .inl (fun _ => 0)))]) (w1 := [(h0, .inr (15, mF q 1))]) hP hD [0] [1] rfl rfl (by decide) (by decide) hk1 hFc hP1 hD1
    generalize H1 = H at hP hS ⊢
    have hP : va_P (dC, dI) vwCl [(q 1, .inl ((cm 1), 1749, .inl (fun _ => 0))), (h0, .inr (15, mF q 1))] H := hP
    have hD : va_D A [(q 1, .inl ((cm 1), 1749, .inl (fun _ => 0))), (h0, .inr (15, mF q 1))] := hD
    try dsimp only at hw24
    obtain rfl : 1 = r23 := (hw24).symm
    refine lv_if_eq (tgt := 42) hx hb dX12_tide_38 (by decide) (fun c25 => absurd c25 (by decide)) (fun c25 => ?_)
    exact W.vret hx hb hr (fun t ht hW => ⟨⟨(mF q 1), rfl, (by unfold T_tide; rw [if_neg hc4]; rfl), by rw [ht]; exact hP.sub (ws' := [(h0, .inr (15, mF q 1))]) [1] rfl, hD.sub (ws' := [(h0, .inr (15, mF q 1))]) [1] (by decide) rfl⟩, hS.F ht⟩) hS.2.2 dX12_tide_41
def w_m_storm : List Cond := .code yX12_storm cX12_storm 5 (some .int) :: ([.fieldLink RX12 194 "SeaLandModel" "thrown" "I", .code yX12_throwsIf cX12_throwsIf 3 (some .boolean), .methodLink RX12 224 yX12_throwsIf, .instanceMethod yX12_throwsIf, .selects RX12 yX12_throwsIf yX12_throwsIf, .initialized RX12, .constant RX12 242 40000, .code yX12_in cX12_in 3 (some .boolean), .methodLink RX12 197 yX12_in, .static yX12_in, .fieldLink RX12 9 "SeaLandModel" "world" "[I", .fieldLink RX12 238 "SeaLandModel" "rows" "I"] ++ bs)
set_option maxHeartbeats 4000000 in
set_option maxRecDepth 100000 in
theorem m_storm (l : Launch) (dC : Nat → ClassId) (dI : Nat → Nat → Nat) (h0 : Nat) (q : Nat → Nat) (cm : Nat → ClassId) (p0 p1 p2 : Int32) (sz : Nat) : Met l yX12_storm w_m_storm ({ frames := 1, cells := 0, slots := 0, locals := 22 }) (va_Pc [.ref h0, .int p0, .int p1, .int p2] (fun U => U.heap.size = sz ∧ va_P (dC, dI) vwCl [(h0, .inr (15, mF q 0)), (q 1, .inl ((cm 1), 1749, .inl (fun _ => 0)))] U.heap ∧ va_K (dC, dI) vwCl [((cm 1), .int)] U ∧ va_D (fun _ => True) [(h0, .inr (15, mF q 0)), (q 1, .inl ((cm 1), 1749, .inl (fun _ => 0)))])) (va_Qi (fun (r : Int32) (u : List Value) => u[0]? = some (.int (T_storm p0 p1 p2).1) ∧ ((T_storm p0 p1 p2).1 = 0 → r = (T_storm p0 p1 p2).2)) (fun (fs : List Value) (t : State) => va_P (dC, dI) vwCl [(h0, .inr (15, fs))] t.heap ∧ va_D (va_A [(h0, .inr (15, mF q 0)), (q 1, .inl ((cm 1), 1749, .inl (fun _ => 0)))] sz) [(h0, .inr (15, fs))]) (va_A [(h0, .inr (15, mF q 0)), (q 1, .inl ((cm 1), 1749, .inl (fun _ => 0)))] sz)) 0 0 (va_A [(h0, .inr (15, mF q 0)), (q 1, .inl ((cm 1), 1749, .inl (fun _ => 0)))] sz) := by
  refine Met.ofW (cc := cX12_storm) (maxL := 5) (ret := (some .int)) (by decide) rfl ?_
  intro p e s m args below meth c s₁ B hml hv
  obtain ⟨rfl, hsz, hP, hK, hD0⟩ := hv
  have hx := B.exec
  have hb := B.bytes
  have hr := B.returns
  have hts := atoms_spec (ws := w_m_storm) B.pre
  have hown : s.vm.findClass RX12 = some m.cls := findClass_of_methodNamed B.named
  have hlocks := B.notSynchronized
  subst hsz
  have hD := hD0.self (sz := s.heap.size)
  generalize hAe : va_A [(h0, .inr (15, mF q 0)), (q 1, .inl ((cm 1), 1749, .inl (fun _ => 0)))] s.heap.size = A at hD ⊢
  have hA : ∀ q : Nat, s.heap.size ≤ q → A q := fun q h => by rw [← hAe]; exact Or.inr h
  have hS : va_S A s.heap s.heap [] := va_S.rf
  have hP : va_P (dC, dI) vwCl [(h0, .inr (15, mF q 0)), (q 1, .inl ((cm 1), 1749, .inl (fun _ => 0)))] s.heap := hP
  have hl := lv_entry ([.ref h0, .int p0, .int p1, .int p2]) (n := 5) (Nat.le_of_ble_eq_true rfl)
  rw [lg_entry_eq]
  generalize (lg_sl ([.ref h0, .int p0, .int p1, .int p2]) ++ List.replicate (5 - (lg_sl ([.ref h0, .int p0, .int p1, .int p2])).length) Slot.unset).toArray = ls at hl ⊢
  have hl : lv_has ls 5 [(0, .ref h0), (1, .int p0), (2, .int p1), (3, .int p2)] := hl
  refine lv_aload_n hx hb dX12_storm_0 rfl (lv_at hl 0 rfl) ?_
  refine lv_iconst (v := 0) hx hb dX12_storm_1 (by decide) ?_
  refine va_put (D := (dC, dI)) (ci := 15) (v := .int 0) (ty := .int) (C := RX12) (T := TX12) (N := 78) hx hb hts bF_X12 tyX12 tyX12_ok nmX12 hown hK hP hD hS 0 rfl rfl 0 (by decide) (ht_at hts 0 rfl) (fun _ h9 => h9) rfl (by decide +kernel) rfl rfl (Nat.le_of_ble_eq_true rfl) dX12_storm_2 (fun H locs hP hD hS => ?_)
  have hP : va_P (dC, dI) vwCl [(h0, .inr (15, mF q 0)), (q 1, .inl ((cm 1), 1749, .inl (fun _ => 0)))] H := hP
  have hD : va_D A [(h0, .inr (15, mF q 0)), (q 1, .inl ((cm 1), 1749, .inl (fun _ => 0)))] := hD
  refine lv_aload_n hx hb dX12_storm_5 rfl (lv_at hl 0 rfl) ?_
  refine lv_iload_n hx hb dX12_storm_6 rfl (lv_at hl 1 rfl) ?_
  refine lv_if_lt (tgt := 32) hx hb dX12_storm_7 (by decide) (fun c1 => ?_) (fun c1 => ?_)
  · refine lv_iconst (v := 1) hx hb dX12_storm_32 (by decide) ?_
    refine lv_goto (tgt := 37) hx hb dX12_storm_33 (by decide) ?_
    refine lv_iconst (v := 1) hx hb dX12_storm_37 (by decide) ?_
    have hPc := hP.sub (ws' := [(h0, .inr (15, mF q 0))]) [0] rfl
    have hDc := hD.sub (ws' := [(h0, .inr (15, mF q 0))]) [0] (by decide) rfl
    have hKc := hK.sub (tys' := []) [] rfl
    have hFc := va_free (wc := [(h0, .inr (15, mF q 0))]) hD hS hA [0] rfl
    refine va_calli (va_runV (As := [.int 1, .int 1]) (rest := []) ⟨hx, hb, hml, hown, hts⟩ (c_m_throwsIf1 l dC dI h0 (mF q 0) 1 H.size rfl) (cwV 2 hts (goodIn_app (goodIn_r _ [3, 4, 5, 6] (by decide +kernel) (by decide +kernel)) (goodIn_ca (goodIn_r _ [2, 1] (by decide +kernel) (by decide +kernel)) (bs_in _ _))) rfl rfl rfl (by decide +kernel) ⟨(Nat.le_of_ble_eq_true rfl), (Nat.le_of_ble_eq_true rfl)⟩) ⟨fun a U g mk q => by obtain ⟨q0, q1, qP, qK, qD⟩ := q; exact ⟨q0, q1, qP, va_K.moved (u := U) (U := U.calling g mk a) (Vm.Alike.refl U.vm) qK, qD⟩, va_recv hKc hPc (ci := 15) (q0 := 0) rfl rfl, fun U hU hW => ⟨rfl, by rw [hU], by rw [hU]; exact hPc, va_K.moved hW.alike hKc, hDc.weaken (fun _ _ _ _ => trivial)⟩⟩ rfl rfl hl.1 rfl (lv_room (Nat.le_of_ble_eq_true rfl)) dX12_storm_38 ⟨(Nat.le_of_ble_eq_true rfl), (Nat.le_of_ble_eq_true rfl)⟩) hS (fun q _ h => hFc q h) hFc (fun r3 u t H1 locs ht hvm hw4 hB hz1 hk1 hS => ?_)
    obtain ⟨hP1, hD1⟩ := hB
    rw [ht] at hP1
    obtain ⟨hP, hD⟩ := va_join (wr := [(q 1, .inl ((cm 1), 1749, .inl (fun _ => 0)))]) (w1 := [(h0, .inr (15, mF q 1))]) hP hD [0] [1] rfl rfl (by decide) (by decide) hk1 hFc hP1 hD1
    generalize H1 = H at hP hS ⊢
    have hP : va_P (dC, dI) vwCl [(q 1, .inl ((cm 1), 1749, .inl (fun _ => 0))), (h0, .inr (15, mF q 1))] H := hP
    have hD : va_D A [(q 1, .inl ((cm 1), 1749, .inl (fun _ => 0))), (h0, .inr (15, mF q 1))] := hD
    try dsimp only at hw4
    obtain rfl : 1 = r3 := (hw4).symm
    refine lv_if_eq (tgt := 46) hx hb dX12_storm_41 (by decide) (fun c5 => absurd c5 (by decide)) (fun c5 => ?_)
    refine lv_iconst (v := 0) hx hb dX12_storm_44 (by decide) ?_
    exact W.iret (v := 0) hx hb hr (fun t ht hW => ⟨⟨0, (mF q 1), rfl, (by unfold T_storm; rw [if_pos c1]; (first | exact ⟨rfl, fun _ => rfl⟩ | exact ⟨rfl, fun h => absurd h (by decide)⟩)), by rw [ht]; exact hP.sub (ws' := [(h0, .inr (15, mF q 1))]) [1] rfl, hD.sub (ws' := [(h0, .inr (15, mF q 1))]) [1] (by decide) rfl⟩, hS.F ht⟩) hS.2.2 dX12_storm_45
  · refine lv_iload_n hx hb dX12_storm_10 rfl (lv_at hl 2 rfl) ?_
    refine lv_iload_n hx hb dX12_storm_11 rfl (lv_at hl 1 rfl) ?_
    refine lv_icmp_lt (tgt := 32) hx hb dX12_storm_12 (by decide) (fun c6 => ?_) (fun c6 => ?_)
    · refine lv_iconst (v := 1) hx hb dX12_storm_32 (by decide) ?_
      refine lv_goto (tgt := 37) hx hb dX12_storm_33 (by decide) ?_
      refine lv_iconst (v := 1) hx hb dX12_storm_37 (by decide) ?_
      have hPc := hP.sub (ws' := [(h0, .inr (15, mF q 0))]) [0] rfl
      have hDc := hD.sub (ws' := [(h0, .inr (15, mF q 0))]) [0] (by decide) rfl
      have hKc := hK.sub (tys' := []) [] rfl
      have hFc := va_free (wc := [(h0, .inr (15, mF q 0))]) hD hS hA [0] rfl
      refine va_calli (va_runV (As := [.int 1, .int 1]) (rest := []) ⟨hx, hb, hml, hown, hts⟩ (c_m_throwsIf1 l dC dI h0 (mF q 0) 1 H.size rfl) (cwV 2 hts (goodIn_app (goodIn_r _ [3, 4, 5, 6] (by decide +kernel) (by decide +kernel)) (goodIn_ca (goodIn_r _ [2, 1] (by decide +kernel) (by decide +kernel)) (bs_in _ _))) rfl rfl rfl (by decide +kernel) ⟨(Nat.le_of_ble_eq_true rfl), (Nat.le_of_ble_eq_true rfl)⟩) ⟨fun a U g mk q => by obtain ⟨q0, q1, qP, qK, qD⟩ := q; exact ⟨q0, q1, qP, va_K.moved (u := U) (U := U.calling g mk a) (Vm.Alike.refl U.vm) qK, qD⟩, va_recv hKc hPc (ci := 15) (q0 := 0) rfl rfl, fun U hU hW => ⟨rfl, by rw [hU], by rw [hU]; exact hPc, va_K.moved hW.alike hKc, hDc.weaken (fun _ _ _ _ => trivial)⟩⟩ rfl rfl hl.1 rfl (lv_room (Nat.le_of_ble_eq_true rfl)) dX12_storm_38 ⟨(Nat.le_of_ble_eq_true rfl), (Nat.le_of_ble_eq_true rfl)⟩) hS (fun q _ h => hFc q h) hFc (fun r8 u t H1 locs ht hvm hw9 hB hz1 hk1 hS => ?_)
      obtain ⟨hP1, hD1⟩ := hB
      rw [ht] at hP1
      obtain ⟨hP, hD⟩ := va_join (wr := [(q 1, .inl ((cm 1), 1749, .inl (fun _ => 0)))]) (w1 := [(h0, .inr (15, mF q 1))]) hP hD [0] [1] rfl rfl (by decide) (by decide) hk1 hFc hP1 hD1
      generalize H1 = H at hP hS ⊢
      have hP : va_P (dC, dI) vwCl [(q 1, .inl ((cm 1), 1749, .inl (fun _ => 0))), (h0, .inr (15, mF q 1))] H := hP
      have hD : va_D A [(q 1, .inl ((cm 1), 1749, .inl (fun _ => 0))), (h0, .inr (15, mF q 1))] := hD
      try dsimp only at hw9
      obtain rfl : 1 = r8 := (hw9).symm
      refine lv_if_eq (tgt := 46) hx hb dX12_storm_41 (by decide) (fun c10 => absurd c10 (by decide)) (fun c10 => ?_)
      refine lv_iconst (v := 0) hx hb dX12_storm_44 (by decide) ?_
      exact W.iret (v := 0) hx hb hr (fun t ht hW => ⟨⟨0, (mF q 1), rfl, (by unfold T_storm; rw [if_neg c1, if_pos c6]; (first | exact ⟨rfl, fun _ => rfl⟩ | exact ⟨rfl, fun h => absurd h (by decide)⟩)), by rw [ht]; exact hP.sub (ws' := [(h0, .inr (15, mF q 1))]) [1] rfl, hD.sub (ws' := [(h0, .inr (15, mF q 1))]) [1] (by decide) rfl⟩, hS.F ht⟩) hS.2.2 dX12_storm_45
    · refine lv_iload_n hx hb dX12_storm_15 rfl (lv_at hl 2 rfl) ?_
      refine lv_ldc (v := 40000) hx hb hown (ht_at hts 6 rfl) dX12_storm_16 ?_
      refine lv_icmp_gt (tgt := 32) hx hb dX12_storm_18 (by decide) (fun c11 => ?_) (fun c11 => ?_)
      · refine lv_iconst (v := 1) hx hb dX12_storm_32 (by decide) ?_
        refine lv_goto (tgt := 37) hx hb dX12_storm_33 (by decide) ?_
        refine lv_iconst (v := 1) hx hb dX12_storm_37 (by decide) ?_
        have hPc := hP.sub (ws' := [(h0, .inr (15, mF q 0))]) [0] rfl
        have hDc := hD.sub (ws' := [(h0, .inr (15, mF q 0))]) [0] (by decide) rfl
        have hKc := hK.sub (tys' := []) [] rfl
        have hFc := va_free (wc := [(h0, .inr (15, mF q 0))]) hD hS hA [0] rfl
        refine va_calli (va_runV (As := [.int 1, .int 1]) (rest := []) ⟨hx, hb, hml, hown, hts⟩ (c_m_throwsIf1 l dC dI h0 (mF q 0) 1 H.size rfl) (cwV 2 hts (goodIn_app (goodIn_r _ [3, 4, 5, 6] (by decide +kernel) (by decide +kernel)) (goodIn_ca (goodIn_r _ [2, 1] (by decide +kernel) (by decide +kernel)) (bs_in _ _))) rfl rfl rfl (by decide +kernel) ⟨(Nat.le_of_ble_eq_true rfl), (Nat.le_of_ble_eq_true rfl)⟩) ⟨fun a U g mk q => by obtain ⟨q0, q1, qP, qK, qD⟩ := q; exact ⟨q0, q1, qP, va_K.moved (u := U) (U := U.calling g mk a) (Vm.Alike.refl U.vm) qK, qD⟩, va_recv hKc hPc (ci := 15) (q0 := 0) rfl rfl, fun U hU hW => ⟨rfl, by rw [hU], by rw [hU]; exact hPc, va_K.moved hW.alike hKc, hDc.weaken (fun _ _ _ _ => trivial)⟩⟩ rfl rfl hl.1 rfl (lv_room (Nat.le_of_ble_eq_true rfl)) dX12_storm_38 ⟨(Nat.le_of_ble_eq_true rfl), (Nat.le_of_ble_eq_true rfl)⟩) hS (fun q _ h => hFc q h) hFc (fun r13 u t H1 locs ht hvm hw14 hB hz1 hk1 hS => ?_)
        obtain ⟨hP1, hD1⟩ := hB
        rw [ht] at hP1
        obtain ⟨hP, hD⟩ := va_join (wr := [(q 1, .inl ((cm 1), 1749, .inl (fun _ => 0)))]) (w1 := [(h0, .inr (15, mF q 1))]) hP hD [0] [1] rfl rfl (by decide) (by decide) hk1 hFc hP1 hD1
        generalize H1 = H at hP hS ⊢
        have hP : va_P (dC, dI) vwCl [(q 1, .inl ((cm 1), 1749, .inl (fun _ => 0))), (h0, .inr (15, mF q 1))] H := hP
        have hD : va_D A [(q 1, .inl ((cm 1), 1749, .inl (fun _ => 0))), (h0, .inr (15, mF q 1))] := hD
        try dsimp only at hw14
        obtain rfl : 1 = r13 := (hw14).symm
        refine lv_if_eq (tgt := 46) hx hb dX12_storm_41 (by decide) (fun c15 => absurd c15 (by decide)) (fun c15 => ?_)
        refine lv_iconst (v := 0) hx hb dX12_storm_44 (by decide) ?_
        exact W.iret (v := 0) hx hb hr (fun t ht hW => ⟨⟨0, (mF q 1), rfl, (by unfold T_storm; rw [if_neg c1, if_neg c6, if_pos c11]; (first | exact ⟨rfl, fun _ => rfl⟩ | exact ⟨rfl, fun h => absurd h (by decide)⟩)), by rw [ht]; exact hP.sub (ws' := [(h0, .inr (15, mF q 1))]) [1] rfl, hD.sub (ws' := [(h0, .inr (15, mF q 1))]) [1] (by decide) rfl⟩, hS.F ht⟩) hS.2.2 dX12_storm_45
      · refine lv_iload_n hx hb dX12_storm_21 rfl (lv_at hl 3 rfl) ?_
        refine lv_iconst (v := 1) hx hb dX12_storm_22 (by decide) ?_
        refine lv_sipush (v := 500) hx hb dX12_storm_23 (by decide) ?_
        have hPc := hP.sub (ws' := []) [] rfl
        have hDc := hD.sub (ws' := []) [] (by decide) rfl
        have hKc := hK.sub (tys' := []) [] rfl
        have hFc := va_free (wc := []) hD hS hA [] rfl
        refine va_calli (va_runS (As := [.int p2, .int 1, .int 500]) (rest := [.ref h0]) ⟨hx, hb, hml, hown, hts⟩ (c_min_ l dC dI p2 1 500 H.size ) (va_cwS 3 hts (goodIn_app (goodIn_r _ [9, 10, 6] (by decide +kernel) (by decide +kernel)) (goodIn_ca (goodIn_r _ [8] (by decide +kernel) (by decide +kernel)) (bs_in _ _))) rfl rfl rfl (by decide +kernel) ⟨(Nat.le_of_ble_eq_true rfl), (Nat.le_of_ble_eq_true rfl)⟩) ⟨fun a U g mk q => by obtain ⟨q0, q1, qP, qK, qD⟩ := q; exact ⟨q0, q1, qP, va_K.moved (u := U) (U := U.calling g mk a) (Vm.Alike.refl U.vm) qK, qD⟩, fun U hU hW => ⟨rfl, by rw [hU], by rw [hU]; exact hPc, va_K.moved hW.alike hKc, hDc.weaken (fun _ _ _ _ => trivial)⟩⟩ rfl rfl hl.1 rfl (lv_room (Nat.le_of_ble_eq_true rfl)) dX12_storm_26 ⟨(Nat.le_of_ble_eq_true rfl), (Nat.le_of_ble_eq_true rfl)⟩) hS (fun q _ h => hFc q h) hFc (fun r17 u t H1 locs ht hvm hw18 hB hz1 hk1 hS => ?_)
        have hP1 : va_P (dC, dI) vwCl [] H1 := nilP
        have hD1 : va_D (va_A [] H.size) [] := nilD
        have hK := hK
        obtain ⟨hP, hD⟩ := va_join (wr := [(h0, .inr (15, mF q 0)), (q 1, .inl ((cm 1), 1749, .inl (fun _ => 0)))]) (w1 := []) hP hD [] [0, 1] rfl rfl (by decide) (by decide) hk1 hFc hP1 hD1
        generalize H1 = H at hP hS ⊢
        have hP : va_P (dC, dI) vwCl [(h0, .inr (15, mF q 0)), (q 1, .inl ((cm 1), 1749, .inl (fun _ => 0)))] H := hP
        have hD : va_D A [(h0, .inr (15, mF q 0)), (q 1, .inl ((cm 1), 1749, .inl (fun _ => 0)))] := hD
        try dsimp only at hw18
        by_cases hc19 : (1 : Int32) ≤ p2 ∧ p2 ≤ (500 : Int32)
        · rw [if_pos hc19] at hw18
          subst hw18
          refine lv_if_ne (tgt := 36) hx hb dX12_storm_29 (by decide) (fun c20 => ?_) (fun c20 => absurd c20 (by decide))
          refine lv_iconst (v := 0) hx hb dX12_storm_36 (by decide) ?_
          refine lv_iconst (v := 1) hx hb dX12_storm_37 (by decide) ?_
          have hPc := hP.sub (ws' := [(h0, .inr (15, mF q 0))]) [0] rfl
          have hDc := hD.sub (ws' := [(h0, .inr (15, mF q 0))]) [0] (by decide) rfl
          have hKc := hK.sub (tys' := []) [] rfl
          have hFc := va_free (wc := [(h0, .inr (15, mF q 0))]) hD hS hA [0] rfl
          refine va_calli (va_runV (As := [.int 0, .int 1]) (rest := []) ⟨hx, hb, hml, hown, hts⟩ (c_m_throwsIf0 l dC dI h0 (mF q 0) 1 H.size ) (cwV 2 hts (goodIn_app (goodIn_r _ [3, 4, 5, 6] (by decide +kernel) (by decide +kernel)) (goodIn_ca (goodIn_r _ [2] (by decide +kernel) (by decide +kernel)) (bs_in _ _))) rfl rfl rfl (by decide +kernel) ⟨(Nat.le_of_ble_eq_true rfl), (Nat.le_of_ble_eq_true rfl)⟩) ⟨fun a U g mk q => by obtain ⟨q0, q1, qP, qK, qD⟩ := q; exact ⟨q0, q1, qP, va_K.moved (u := U) (U := U.calling g mk a) (Vm.Alike.refl U.vm) qK, qD⟩, va_recv hKc hPc (ci := 15) (q0 := 0) rfl rfl, fun U hU hW => ⟨rfl, by rw [hU], by rw [hU]; exact hPc, va_K.moved hW.alike hKc, hDc.weaken (fun _ _ _ _ => trivial)⟩⟩ rfl rfl hl.1 rfl (lv_room (Nat.le_of_ble_eq_true rfl)) dX12_storm_38 ⟨(Nat.le_of_ble_eq_true rfl), (Nat.le_of_ble_eq_true rfl)⟩) hS (fun q _ h => hFc q h) hFc (fun r22 u t H1 locs ht hvm hw23 hB hz1 hk1 hS => ?_)
          obtain ⟨hP1, hD1⟩ := hB
          rw [ht] at hP1
          obtain ⟨hP, hD⟩ := va_join (wr := [(q 1, .inl ((cm 1), 1749, .inl (fun _ => 0)))]) (w1 := [(h0, .inr (15, mF q 0))]) hP hD [0] [1] rfl rfl (by decide) (by decide) hk1 hFc hP1 hD1
          generalize H1 = H at hP hS ⊢
          have hP : va_P (dC, dI) vwCl [(q 1, .inl ((cm 1), 1749, .inl (fun _ => 0))), (h0, .inr (15, mF q 0))] H := hP
          have hD : va_D A [(q 1, .inl ((cm 1), 1749, .inl (fun _ => 0))), (h0, .inr (15, mF q 0))] := hD
          try dsimp only at hw23
          obtain rfl : 0 = r22 := (hw23).symm
          refine lv_if_eq (tgt := 46) hx hb dX12_storm_41 (by decide) (fun c24 => ?_) (fun c24 => absurd c24 (by decide))
          refine lv_aload_n hx hb dX12_storm_46 rfl (lv_at hl 0 rfl) ?_
          refine va_get (D := (dC, dI)) (ci := 15) (v := .ref (q 1)) (C := RX12) (T := TX12) (N := 78) hx hb hts bF_X12 hown hK hP 1 rfl rfl 1 (by decide) (ht_at hts 10 rfl) (fun _ h9 => h9) rfl dX12_storm_47 ?_
          refine lv_sipush (v := 1442) hx hb dX12_storm_50 (by decide) ?_
          refine va_iald hx hb hK hP 0 0 rfl rfl (by unfold vp_in; decide) dX12_storm_53 ?_
          refine lv_topi (fun x25 ex25 => ?_)
          obtain rfl : 0 = x25 := (ex25).symm
          refine lv_istore (lv' := [(4, .int 0), (0, .ref h0), (1, .int p0), (2, .int p1), (3, .int p2)]) hx hb dX12_storm_54 hl (by decide) rfl (fun ls hl => ?_)
          refine lv_iload hx hb dX12_storm_56 (lv_at hl 0 rfl) ?_
          refine lv_bipush (v := 20) hx hb dX12_storm_58 (by decide) ?_
          refine lv_icmp_ne (tgt := 65) hx hb dX12_storm_60 (by decide) (fun c26 => ?_) (fun c26 => absurd c26 (by decide))
          refine lv_aload_n hx hb dX12_storm_65 rfl (lv_at hl 1 rfl) ?_
          refine va_get (D := (dC, dI)) (ci := 15) (v := .ref (q 1)) (C := RX12) (T := TX12) (N := 78) hx hb hts bF_X12 hown hK hP 1 rfl rfl 1 (by decide) (ht_at hts 10 rfl) (fun _ h9 => h9) rfl dX12_storm_66 ?_
          refine lv_sipush (v := 1443) hx hb dX12_storm_69 (by decide) ?_
          refine lv_iconst (v := 3) hx hb dX12_storm_72 (by decide) ?_
          refine lv_iload hx hb dX12_storm_73 (lv_at hl 0 rfl) ?_
          refine lv_imul hx hb dX12_storm_75 ?_
          refine lv_topi (fun x27 ex27 => ?_)
          obtain rfl : x27 = 0 := ex27.trans (by decide)
          refine lv_iadd hx hb dX12_storm_76 ?_
          refine lv_topi (fun x28 ex28 => ?_)
          obtain rfl : x28 = 1443 := ex28.trans (by decide)
          refine lv_iload_n hx hb dX12_storm_77 rfl (lv_at hl 2 rfl) ?_
          refine va_iast hx hb hK hP hD hS 0 0 rfl rfl (by unfold vp_in; decide) dX12_storm_78 (fun H locs hP hD hS => ?_)
          have hP : va_P (dC, dI) vwCl [(q 1, .inl ((cm 1), 1749, .inl (upd (fun _ => 0) (1443 : Int32).toNatClampNeg p0))), (h0, .inr (15, mF q 0))] H := hP
          have hD : va_D A [(q 1, .inl ((cm 1), 1749, .inl (upd (fun _ => 0) (1443 : Int32).toNatClampNeg p0))), (h0, .inr (15, mF q 0))] := hD
          refine lv_aload_n hx hb dX12_storm_79 rfl (lv_at hl 1 rfl) ?_
          refine va_get (D := (dC, dI)) (ci := 15) (v := .ref (q 1)) (C := RX12) (T := TX12) (N := 78) hx hb hts bF_X12 hown hK hP 1 rfl rfl 1 (by decide) (ht_at hts 10 rfl) (fun _ h9 => h9) rfl dX12_storm_80 ?_
          refine lv_sipush (v := 1443) hx hb dX12_storm_83 (by decide) ?_
          refine lv_iconst (v := 3) hx hb dX12_storm_86 (by decide) ?_
          refine lv_iload hx hb dX12_storm_87 (lv_at hl 0 rfl) ?_
          refine lv_imul hx hb dX12_storm_89 ?_
          refine lv_topi (fun x29 ex29 => ?_)
          obtain rfl : x29 = 0 := ex29.trans (by decide)
          refine lv_iadd hx hb dX12_storm_90 ?_
          refine lv_topi (fun x30 ex30 => ?_)
          obtain rfl : x30 = 1443 := ex30.trans (by decide)
          refine lv_iconst (v := 1) hx hb dX12_storm_91 (by decide) ?_
          refine lv_iadd hx hb dX12_storm_92 ?_
          refine lv_topi (fun x31 ex31 => ?_)
          obtain rfl : x31 = 1444 := ex31.trans (by decide)
          refine lv_iload_n hx hb dX12_storm_93 rfl (lv_at hl 3 rfl) ?_
          refine va_iast hx hb hK hP hD hS 0 0 rfl rfl (by unfold vp_in; decide) dX12_storm_94 (fun H locs hP hD hS => ?_)
          have hP : va_P (dC, dI) vwCl [(q 1, .inl ((cm 1), 1749, .inl (upd (upd (fun _ => 0) (1443 : Int32).toNatClampNeg p0) (1444 : Int32).toNatClampNeg p1))), (h0, .inr (15, mF q 0))] H := hP
          have hD : va_D A [(q 1, .inl ((cm 1), 1749, .inl (upd (upd (fun _ => 0) (1443 : Int32).toNatClampNeg p0) (1444 : Int32).toNatClampNeg p1))), (h0, .inr (15, mF q 0))] := hD
          refine lv_aload_n hx hb dX12_storm_95 rfl (lv_at hl 1 rfl) ?_
          refine va_get (D := (dC, dI)) (ci := 15) (v := .ref (q 1)) (C := RX12) (T := TX12) (N := 78) hx hb hts bF_X12 hown hK hP 1 rfl rfl 1 (by decide) (ht_at hts 10 rfl) (fun _ h9 => h9) rfl dX12_storm_96 ?_
          refine lv_sipush (v := 1443) hx hb dX12_storm_99 (by decide) ?_
          refine lv_iconst (v := 3) hx hb dX12_storm_102 (by decide) ?_
          refine lv_iload hx hb dX12_storm_103 (lv_at hl 0 rfl) ?_
          refine lv_imul hx hb dX12_storm_105 ?_
          refine lv_topi (fun x32 ex32 => ?_)
          obtain rfl : x32 = 0 := ex32.trans (by decide)
          refine lv_iadd hx hb dX12_storm_106 ?_
          refine lv_topi (fun x33 ex33 => ?_)
          obtain rfl : x33 = 1443 := ex33.trans (by decide)
          refine lv_iconst (v := 2) hx hb dX12_storm_107 (by decide) ?_
          refine lv_iadd hx hb dX12_storm_108 ?_
          refine lv_topi (fun x34 ex34 => ?_)
          obtain rfl : x34 = 1445 := ex34.trans (by decide)
          refine lv_iload_n hx hb dX12_storm_109 rfl (lv_at hl 4 rfl) ?_
          refine va_iast hx hb hK hP hD hS 0 0 rfl rfl (by unfold vp_in; decide) dX12_storm_110 (fun H locs hP hD hS => ?_)
          have hP : va_P (dC, dI) vwCl [(q 1, .inl ((cm 1), 1749, .inl (upd (upd (upd (fun _ => 0) (1443 : Int32).toNatClampNeg p0) (1444 : Int32).toNatClampNeg p1) (1445 : Int32).toNatClampNeg p2))), (h0, .inr (15, mF q 0))] H := hP
          have hD : va_D A [(q 1, .inl ((cm 1), 1749, .inl (upd (upd (upd (fun _ => 0) (1443 : Int32).toNatClampNeg p0) (1444 : Int32).toNatClampNeg p1) (1445 : Int32).toNatClampNeg p2))), (h0, .inr (15, mF q 0))] := hD
          refine lv_aload_n hx hb dX12_storm_111 rfl (lv_at hl 1 rfl) ?_
          refine va_get (D := (dC, dI)) (ci := 15) (v := .ref (q 1)) (C := RX12) (T := TX12) (N := 78) hx hb hts bF_X12 hown hK hP 1 rfl rfl 1 (by decide) (ht_at hts 10 rfl) (fun _ h9 => h9) rfl dX12_storm_112 ?_
          refine lv_sipush (v := 1442) hx hb dX12_storm_115 (by decide) ?_
          refine lv_dup2_11 hx hb dX12_storm_118 rfl rfl ?_
          refine va_iald hx hb hK hP 0 0 rfl rfl (by unfold vp_in; decide) dX12_storm_119 ?_
          refine lv_topi (fun x35 ex35 => ?_)
          refine lv_iconst (v := 1) hx hb dX12_storm_120 (by decide) ?_
          refine lv_iadd hx hb dX12_storm_121 ?_
          refine lv_topi (fun x36 ex36 => ?_)
          refine va_iast hx hb hK hP hD hS 0 0 rfl rfl (by unfold vp_in; decide) dX12_storm_122 (fun H locs hP hD hS => ?_)
          have hP : va_P (dC, dI) vwCl [(q 1, .inl ((cm 1), 1749, .inl (upd (upd (upd (upd (fun _ => 0) (1443 : Int32).toNatClampNeg p0) (1444 : Int32).toNatClampNeg p1) (1445 : Int32).toNatClampNeg p2) (1442 : Int32).toNatClampNeg x36))), (h0, .inr (15, mF q 0))] H := hP
          have hD : va_D A [(q 1, .inl ((cm 1), 1749, .inl (upd (upd (upd (upd (fun _ => 0) (1443 : Int32).toNatClampNeg p0) (1444 : Int32).toNatClampNeg p1) (1445 : Int32).toNatClampNeg p2) (1442 : Int32).toNatClampNeg x36))), (h0, .inr (15, mF q 0))] := hD
          refine lv_aload_n hx hb dX12_storm_123 rfl (lv_at hl 1 rfl) ?_
          refine lv_iconst (v := 0) hx hb dX12_storm_124 (by decide) ?_
          refine va_put (D := (dC, dI)) (ci := 15) (v := .int 0) (ty := .int) (C := RX12) (T := TX12) (N := 78) hx hb hts bF_X12 tyX12 tyX12_ok nmX12 hown hK hP hD hS 1 rfl rfl 9 (by decide) (ht_at hts 11 rfl) (fun _ h9 => h9) rfl (by decide +kernel) rfl rfl (Nat.le_of_ble_eq_true rfl) dX12_storm_125 (fun H locs hP hD hS => ?_)
          have hP : va_P (dC, dI) vwCl [(q 1, .inl ((cm 1), 1749, .inl (upd (upd (upd (upd (fun _ => 0) (1443 : Int32).toNatClampNeg p0) (1444 : Int32).toNatClampNeg p1) (1445 : Int32).toNatClampNeg p2) (1442 : Int32).toNatClampNeg x36))), (h0, .inr (15, mF q 0))] H := hP
          have hD : va_D A [(q 1, .inl ((cm 1), 1749, .inl (upd (upd (upd (upd (fun _ => 0) (1443 : Int32).toNatClampNeg p0) (1444 : Int32).toNatClampNeg p1) (1445 : Int32).toNatClampNeg p2) (1442 : Int32).toNatClampNeg x36))), (h0, .inr (15, mF q 0))] := hD
          refine lv_iload hx hb dX12_storm_128 (lv_at hl 0 rfl) ?_
          refine lv_iconst (v := 1) hx hb dX12_storm_130 (by decide) ?_
          refine lv_iadd hx hb dX12_storm_131 ?_
          refine lv_topi (fun x37 ex37 => ?_)
          obtain rfl : x37 = 1 := ex37.trans (by decide)
          exact W.iret (v := 1) hx hb hr (fun t ht hW => ⟨⟨1, (mF q 0), rfl, (by unfold T_storm; rw [if_neg c1, if_neg c6, if_neg c11, if_pos hc19]; (first | exact ⟨rfl, fun _ => rfl⟩ | exact ⟨rfl, fun h => absurd h (by decide)⟩)), by rw [ht]; exact hP.sub (ws' := [(h0, .inr (15, mF q 0))]) [1] rfl, hD.sub (ws' := [(h0, .inr (15, mF q 0))]) [1] (by decide) rfl⟩, hS.F ht⟩) hS.2.2 dX12_storm_132
        · rw [if_neg hc19] at hw18
          subst hw18
          refine lv_if_ne (tgt := 36) hx hb dX12_storm_29 (by decide) (fun c38 => absurd c38 (by decide)) (fun c38 => ?_)
          refine lv_iconst (v := 1) hx hb dX12_storm_32 (by decide) ?_
          refine lv_goto (tgt := 37) hx hb dX12_storm_33 (by decide) ?_
          refine lv_iconst (v := 1) hx hb dX12_storm_37 (by decide) ?_
          have hPc := hP.sub (ws' := [(h0, .inr (15, mF q 0))]) [0] rfl
          have hDc := hD.sub (ws' := [(h0, .inr (15, mF q 0))]) [0] (by decide) rfl
          have hKc := hK.sub (tys' := []) [] rfl
          have hFc := va_free (wc := [(h0, .inr (15, mF q 0))]) hD hS hA [0] rfl
          refine va_calli (va_runV (As := [.int 1, .int 1]) (rest := []) ⟨hx, hb, hml, hown, hts⟩ (c_m_throwsIf1 l dC dI h0 (mF q 0) 1 H.size rfl) (cwV 2 hts (goodIn_app (goodIn_r _ [3, 4, 5, 6] (by decide +kernel) (by decide +kernel)) (goodIn_ca (goodIn_r _ [2, 1] (by decide +kernel) (by decide +kernel)) (bs_in _ _))) rfl rfl rfl (by decide +kernel) ⟨(Nat.le_of_ble_eq_true rfl), (Nat.le_of_ble_eq_true rfl)⟩) ⟨fun a U g mk q => by obtain ⟨q0, q1, qP, qK, qD⟩ := q; exact ⟨q0, q1, qP, va_K.moved (u := U) (U := U.calling g mk a) (Vm.Alike.refl U.vm) qK, qD⟩, va_recv hKc hPc (ci := 15) (q0 := 0) rfl rfl, fun U hU hW => ⟨rfl, by rw [hU], by rw [hU]; exact hPc, va_K.moved hW.alike hKc, hDc.weaken (fun _ _ _ _ => trivial)⟩⟩ rfl rfl hl.1 rfl (lv_room (Nat.le_of_ble_eq_true rfl)) dX12_storm_38 ⟨(Nat.le_of_ble_eq_true rfl), (Nat.le_of_ble_eq_true rfl)⟩) hS (fun q _ h => hFc q h) hFc (fun r40 u t H1 locs ht hvm hw41 hB hz1 hk1 hS => ?_)
          obtain ⟨hP1, hD1⟩ := hB
          rw [ht] at hP1
          obtain ⟨hP, hD⟩ := va_join (wr := [(q 1, .inl ((cm 1), 1749, .inl (fun _ => 0)))]) (w1 := [(h0, .inr (15, mF q 1))]) hP hD [0] [1] rfl rfl (by decide) (by decide) hk1 hFc hP1 hD1
          generalize H1 = H at hP hS ⊢
          have hP : va_P (dC, dI) vwCl [(q 1, .inl ((cm 1), 1749, .inl (fun _ => 0))), (h0, .inr (15, mF q 1))] H := hP
          have hD : va_D A [(q 1, .inl ((cm 1), 1749, .inl (fun _ => 0))), (h0, .inr (15, mF q 1))] := hD
          try dsimp only at hw41
          obtain rfl : 1 = r40 := (hw41).symm
          refine lv_if_eq (tgt := 46) hx hb dX12_storm_41 (by decide) (fun c42 => absurd c42 (by decide)) (fun c42 => ?_)
          refine lv_iconst (v := 0) hx hb dX12_storm_44 (by decide) ?_
          exact W.iret (v := 0) hx hb hr (fun t ht hW => ⟨⟨0, (mF q 1), rfl, (by unfold T_storm; rw [if_neg c1, if_neg c6, if_neg c11, if_neg hc19]; (first | exact ⟨rfl, fun _ => rfl⟩ | exact ⟨rfl, fun h => absurd h (by decide)⟩)), by rw [ht]; exact hP.sub (ws' := [(h0, .inr (15, mF q 1))]) [1] rfl, hD.sub (ws' := [(h0, .inr (15, mF q 1))]) [1] (by decide) rfl⟩, hS.F ht⟩) hS.2.2 dX12_storm_45
def w_m_weather0 : List Cond := .code yX12_weather cX12_weather 6 (some .int) :: ([.fieldLink RX12 194 "SeaLandModel" "thrown" "I", .constant RX12 242 40000, .code yX12_in cX12_in 3 (some .boolean), .methodLink RX12 197 yX12_in, .static yX12_in, .initialized RX12, .code yX12_throwsIf cX12_throwsIf 3 (some .boolean), .methodLink RX12 224 yX12_throwsIf, .instanceMethod yX12_throwsIf, .selects RX12 yX12_throwsIf yX12_throwsIf, .fieldLink RX12 9 "SeaLandModel" "world" "[I", .fieldLink RX12 238 "SeaLandModel" "rows" "I"] ++ bs)
set_option maxHeartbeats 4000000 in
set_option maxRecDepth 100000 in
theorem m_weather0 (l : Launch) (dC : Nat → ClassId) (dI : Nat → Nat → Nat) (h0 : Nat) (q : Nat → Nat) (cm : Nat → ClassId) (p0 p1 : Int32) (sz : Nat) : Met l yX12_weather w_m_weather0 ({ frames := 1, cells := 0, slots := 0, locals := 22 }) (va_Pc [.ref h0, .int 0, .int p0, .int p1] (fun U => U.heap.size = sz ∧ va_P (dC, dI) vwCl [(h0, .inr (15, mF q 0)), (q 1, .inl ((cm 1), 1749, .inl (fun _ => 0)))] U.heap ∧ va_K (dC, dI) vwCl [((cm 1), .int)] U ∧ va_D (fun _ => True) [(h0, .inr (15, mF q 0)), (q 1, .inl ((cm 1), 1749, .inl (fun _ => 0)))])) (va_Qi (fun (r : Int32) (u : List Value) => u[0]? = some (.int (T_weather0 p0 p1).1) ∧ ((T_weather0 p0 p1).1 = 0 → r = (T_weather0 p0 p1).2)) (fun (fs : List Value) (t : State) => va_P (dC, dI) vwCl [(h0, .inr (15, fs))] t.heap ∧ va_D (va_A [(h0, .inr (15, mF q 0)), (q 1, .inl ((cm 1), 1749, .inl (fun _ => 0)))] sz) [(h0, .inr (15, fs))]) (va_A [(h0, .inr (15, mF q 0)), (q 1, .inl ((cm 1), 1749, .inl (fun _ => 0)))] sz)) 0 0 (va_A [(h0, .inr (15, mF q 0)), (q 1, .inl ((cm 1), 1749, .inl (fun _ => 0)))] sz) := by
  refine Met.ofW (cc := cX12_weather) (maxL := 6) (ret := (some .int)) (by decide) rfl ?_
  intro p e s m args below meth c s₁ B hml hv
  obtain ⟨rfl, hsz, hP, hK, hD0⟩ := hv
  have hx := B.exec
  have hb := B.bytes
  have hr := B.returns
  have hts := atoms_spec (ws := w_m_weather0) B.pre
  have hown : s.vm.findClass RX12 = some m.cls := findClass_of_methodNamed B.named
  have hlocks := B.notSynchronized
  subst hsz
  have hD := hD0.self (sz := s.heap.size)
  generalize hAe : va_A [(h0, .inr (15, mF q 0)), (q 1, .inl ((cm 1), 1749, .inl (fun _ => 0)))] s.heap.size = A at hD ⊢
  have hA : ∀ q : Nat, s.heap.size ≤ q → A q := fun q h => by rw [← hAe]; exact Or.inr h
  have hS : va_S A s.heap s.heap [] := va_S.rf
  have hP : va_P (dC, dI) vwCl [(h0, .inr (15, mF q 0)), (q 1, .inl ((cm 1), 1749, .inl (fun _ => 0)))] s.heap := hP
  have hl := lv_entry ([.ref h0, .int 0, .int p0, .int p1]) (n := 6) (Nat.le_of_ble_eq_true rfl)
  rw [lg_entry_eq]
  generalize (lg_sl ([.ref h0, .int 0, .int p0, .int p1]) ++ List.replicate (6 - (lg_sl ([.ref h0, .int 0, .int p0, .int p1])).length) Slot.unset).toArray = ls at hl ⊢
  have hl : lv_has ls 6 [(0, .ref h0), (1, .int 0), (2, .int p0), (3, .int p1)] := hl
  refine lv_aload_n hx hb dX12_weather_0 rfl (lv_at hl 0 rfl) ?_
  refine lv_iconst (v := 0) hx hb dX12_weather_1 (by decide) ?_
  refine va_put (D := (dC, dI)) (ci := 15) (v := .int 0) (ty := .int) (C := RX12) (T := TX12) (N := 78) hx hb hts bF_X12 tyX12 tyX12_ok nmX12 hown hK hP hD hS 0 rfl rfl 0 (by decide) (ht_at hts 0 rfl) (fun _ h9 => h9) rfl (by decide +kernel) rfl rfl (Nat.le_of_ble_eq_true rfl) dX12_weather_2 (fun H locs hP hD hS => ?_)
  have hP : va_P (dC, dI) vwCl [(h0, .inr (15, mF q 0)), (q 1, .inl ((cm 1), 1749, .inl (fun _ => 0)))] H := hP
  have hD : va_D A [(h0, .inr (15, mF q 0)), (q 1, .inl ((cm 1), 1749, .inl (fun _ => 0)))] := hD
  refine lv_aload_n hx hb dX12_weather_5 rfl (lv_at hl 0 rfl) ?_
  refine lv_iload_n hx hb dX12_weather_6 rfl (lv_at hl 2 rfl) ?_
  refine lv_iconst (v := 0) hx hb dX12_weather_7 (by decide) ?_
  refine lv_ldc (v := 40000) hx hb hown (ht_at hts 1 rfl) dX12_weather_8 ?_
  have hPc := hP.sub (ws' := []) [] rfl
  have hDc := hD.sub (ws' := []) [] (by decide) rfl
  have hKc := hK.sub (tys' := []) [] rfl
  have hFc := va_free (wc := []) hD hS hA [] rfl
  refine va_calli (va_runS (As := [.int p0, .int 0, .int 40000]) (rest := [.ref h0]) ⟨hx, hb, hml, hown, hts⟩ (c_min_ l dC dI p0 0 40000 H.size ) (va_cwS 3 hts (goodIn_app (goodIn_r _ [4, 5, 6] (by decide +kernel) (by decide +kernel)) (goodIn_ca (goodIn_r _ [3] (by decide +kernel) (by decide +kernel)) (bs_in _ _))) rfl rfl rfl (by decide +kernel) ⟨(Nat.le_of_ble_eq_true rfl), (Nat.le_of_ble_eq_true rfl)⟩) ⟨fun a U g mk q => by obtain ⟨q0, q1, qP, qK, qD⟩ := q; exact ⟨q0, q1, qP, va_K.moved (u := U) (U := U.calling g mk a) (Vm.Alike.refl U.vm) qK, qD⟩, fun U hU hW => ⟨rfl, by rw [hU], by rw [hU]; exact hPc, va_K.moved hW.alike hKc, hDc.weaken (fun _ _ _ _ => trivial)⟩⟩ rfl rfl hl.1 rfl (lv_room (Nat.le_of_ble_eq_true rfl)) dX12_weather_10 ⟨(Nat.le_of_ble_eq_true rfl), (Nat.le_of_ble_eq_true rfl)⟩) hS (fun q _ h => hFc q h) hFc (fun r2 u t H1 locs ht hvm hw3 hB hz1 hk1 hS => ?_)
  have hP1 : va_P (dC, dI) vwCl [] H1 := nilP
  have hD1 : va_D (va_A [] H.size) [] := nilD
  have hK := hK
  obtain ⟨hP, hD⟩ := va_join (wr := [(h0, .inr (15, mF q 0)), (q 1, .inl ((cm 1), 1749, .inl (fun _ => 0)))]) (w1 := []) hP hD [] [0, 1] rfl rfl (by decide) (by decide) hk1 hFc hP1 hD1
  generalize H1 = H at hP hS ⊢
  have hP : va_P (dC, dI) vwCl [(h0, .inr (15, mF q 0)), (q 1, .inl ((cm 1), 1749, .inl (fun _ => 0)))] H := hP
  have hD : va_D A [(h0, .inr (15, mF q 0)), (q 1, .inl ((cm 1), 1749, .inl (fun _ => 0)))] := hD
  try dsimp only at hw3
  by_cases hc4 : (0 : Int32) ≤ p0 ∧ p0 ≤ (40000 : Int32)
  · rw [if_pos hc4] at hw3
    subst hw3
    refine lv_if_eq (tgt := 43) hx hb dX12_weather_13 (by decide) (fun c5 => absurd c5 (by decide)) (fun c5 => ?_)
    refine lv_iload_n hx hb dX12_weather_16 rfl (lv_at hl 1 rfl) ?_
    refine lv_if_eq (tgt := 33) hx hb dX12_weather_17 (by decide) (fun c6 => ?_) (fun c6 => absurd c6 (by decide))
    refine lv_iload_n hx hb dX12_weather_33 rfl (lv_at hl 3 rfl) ?_
    refine lv_iconst (v := (-1)) hx hb dX12_weather_34 (by decide) ?_
    refine lv_bipush (v := 9) hx hb dX12_weather_35 (by decide) ?_
    have hPc := hP.sub (ws' := []) [] rfl
    have hDc := hD.sub (ws' := []) [] (by decide) rfl
    have hKc := hK.sub (tys' := []) [] rfl
    have hFc := va_free (wc := []) hD hS hA [] rfl
    refine va_calli (va_runS (As := [.int p1, .int (-1), .int 9]) (rest := [.ref h0]) ⟨hx, hb, hml, hown, hts⟩ (c_min_ l dC dI p1 (-1) 9 H.size ) (va_cwS 3 hts (goodIn_app (goodIn_r _ [4, 5, 6] (by decide +kernel) (by decide +kernel)) (goodIn_ca (goodIn_r _ [3] (by decide +kernel) (by decide +kernel)) (bs_in _ _))) rfl rfl rfl (by decide +kernel) ⟨(Nat.le_of_ble_eq_true rfl), (Nat.le_of_ble_eq_true rfl)⟩) ⟨fun a U g mk q => by obtain ⟨q0, q1, qP, qK, qD⟩ := q; exact ⟨q0, q1, qP, va_K.moved (u := U) (U := U.calling g mk a) (Vm.Alike.refl U.vm) qK, qD⟩, fun U hU hW => ⟨rfl, by rw [hU], by rw [hU]; exact hPc, va_K.moved hW.alike hKc, hDc.weaken (fun _ _ _ _ => trivial)⟩⟩ rfl rfl hl.1 rfl (lv_room (Nat.le_of_ble_eq_true rfl)) dX12_weather_37 ⟨(Nat.le_of_ble_eq_true rfl), (Nat.le_of_ble_eq_true rfl)⟩) hS (fun q _ h => hFc q h) hFc (fun r8 u t H1 locs ht hvm hw9 hB hz1 hk1 hS => ?_)
    have hP1 : va_P (dC, dI) vwCl [] H1 := nilP
    have hD1 : va_D (va_A [] H.size) [] := nilD
    have hK := hK
    obtain ⟨hP, hD⟩ := va_join (wr := [(h0, .inr (15, mF q 0)), (q 1, .inl ((cm 1), 1749, .inl (fun _ => 0)))]) (w1 := []) hP hD [] [0, 1] rfl rfl (by decide) (by decide) hk1 hFc hP1 hD1
    generalize H1 = H at hP hS ⊢
    have hP : va_P (dC, dI) vwCl [(h0, .inr (15, mF q 0)), (q 1, .inl ((cm 1), 1749, .inl (fun _ => 0)))] H := hP
    have hD : va_D A [(h0, .inr (15, mF q 0)), (q 1, .inl ((cm 1), 1749, .inl (fun _ => 0)))] := hD
    try dsimp only at hw9
    by_cases hc10 : (-1 : Int32) ≤ p1 ∧ p1 ≤ (9 : Int32)
    · rw [if_pos hc10] at hw9
      subst hw9
      refine lv_if_ne (tgt := 47) hx hb dX12_weather_40 (by decide) (fun c11 => ?_) (fun c11 => absurd c11 (by decide))
      refine lv_iconst (v := 0) hx hb dX12_weather_47 (by decide) ?_
      refine lv_iconst (v := 1) hx hb dX12_weather_48 (by decide) ?_
      have hPc := hP.sub (ws' := [(h0, .inr (15, mF q 0))]) [0] rfl
      have hDc := hD.sub (ws' := [(h0, .inr (15, mF q 0))]) [0] (by decide) rfl
      have hKc := hK.sub (tys' := []) [] rfl
      have hFc := va_free (wc := [(h0, .inr (15, mF q 0))]) hD hS hA [0] rfl
      refine va_calli (va_runV (As := [.int 0, .int 1]) (rest := []) ⟨hx, hb, hml, hown, hts⟩ (c_m_throwsIf0 l dC dI h0 (mF q 0) 1 H.size ) (cwV 2 hts (goodIn_app (goodIn_r _ [8, 9, 10, 6] (by decide +kernel) (by decide +kernel)) (goodIn_ca (goodIn_r _ [7] (by decide +kernel) (by decide +kernel)) (bs_in _ _))) rfl rfl rfl (by decide +kernel) ⟨(Nat.le_of_ble_eq_true rfl), (Nat.le_of_ble_eq_true rfl)⟩) ⟨fun a U g mk q => by obtain ⟨q0, q1, qP, qK, qD⟩ := q; exact ⟨q0, q1, qP, va_K.moved (u := U) (U := U.calling g mk a) (Vm.Alike.refl U.vm) qK, qD⟩, va_recv hKc hPc (ci := 15) (q0 := 0) rfl rfl, fun U hU hW => ⟨rfl, by rw [hU], by rw [hU]; exact hPc, va_K.moved hW.alike hKc, hDc.weaken (fun _ _ _ _ => trivial)⟩⟩ rfl rfl hl.1 rfl (lv_room (Nat.le_of_ble_eq_true rfl)) dX12_weather_49 ⟨(Nat.le_of_ble_eq_true rfl), (Nat.le_of_ble_eq_true rfl)⟩) hS (fun q _ h => hFc q h) hFc (fun r13 u t H1 locs ht hvm hw14 hB hz1 hk1 hS => ?_)
      obtain ⟨hP1, hD1⟩ := hB
      rw [ht] at hP1
      obtain ⟨hP, hD⟩ := va_join (wr := [(q 1, .inl ((cm 1), 1749, .inl (fun _ => 0)))]) (w1 := [(h0, .inr (15, mF q 0))]) hP hD [0] [1] rfl rfl (by decide) (by decide) hk1 hFc hP1 hD1
      generalize H1 = H at hP hS ⊢
      have hP : va_P (dC, dI) vwCl [(q 1, .inl ((cm 1), 1749, .inl (fun _ => 0))), (h0, .inr (15, mF q 0))] H := hP
      have hD : va_D A [(q 1, .inl ((cm 1), 1749, .inl (fun _ => 0))), (h0, .inr (15, mF q 0))] := hD
      try dsimp only at hw14
      obtain rfl : 0 = r13 := (hw14).symm
      refine lv_if_eq (tgt := 57) hx hb dX12_weather_52 (by decide) (fun c15 => ?_) (fun c15 => absurd c15 (by decide))
      refine lv_iload_n hx hb dX12_weather_57 rfl (lv_at hl 1 rfl) ?_
      refine lv_if_eq (tgt := 67) hx hb dX12_weather_58 (by decide) (fun c16 => ?_) (fun c16 => absurd c16 (by decide))
      refine lv_sipush (v := 1503) hx hb dX12_weather_67 (by decide) ?_
      refine lv_istore (lv' := [(4, .int 1503), (0, .ref h0), (1, .int 0), (2, .int p0), (3, .int p1)]) hx hb dX12_weather_70 hl (by decide) rfl (fun ls hl => ?_)
      refine lv_iload_n hx hb dX12_weather_72 rfl (lv_at hl 2 rfl) ?_
      refine lv_if_eq (tgt := 82) hx hb dX12_weather_73 (by decide) (fun c17 => ?_) (fun c17 => absurd c17 (by decide))
      refine lv_sipush (v := 1504) hx hb dX12_weather_82 (by decide) ?_
      refine lv_iconst (v := 2) hx hb dX12_weather_85 (by decide) ?_
      refine lv_aload_n hx hb dX12_weather_86 rfl (lv_at hl 1 rfl) ?_
      refine va_get (D := (dC, dI)) (ci := 15) (v := .ref (q 1)) (C := RX12) (T := TX12) (N := 78) hx hb hts bF_X12 hown hK hP 1 rfl rfl 1 (by decide) (ht_at hts 10 rfl) (fun _ h9 => h9) rfl dX12_weather_87 ?_
      refine lv_iload hx hb dX12_weather_90 (lv_at hl 0 rfl) ?_
      refine va_iald hx hb hK hP 0 0 rfl rfl (by unfold vp_in; decide) dX12_weather_92 ?_
      refine lv_topi (fun x18 ex18 => ?_)
      obtain rfl : 0 = x18 := (ex18).symm
      refine lv_imul hx hb dX12_weather_93 ?_
      refine lv_topi (fun x19 ex19 => ?_)
      obtain rfl : x19 = 0 := ex19.trans (by decide)
      refine lv_iadd hx hb dX12_weather_94 ?_
      refine lv_topi (fun x20 ex20 => ?_)
      obtain rfl : x20 = 1504 := ex20.trans (by decide)
      refine lv_istore (lv' := [(5, .int 1504), (4, .int 1503), (0, .ref h0), (1, .int 0), (2, .int p0), (3, .int p1)]) hx hb dX12_weather_95 hl (by decide) rfl (fun ls hl => ?_)
      refine lv_aload_n hx hb dX12_weather_97 rfl (lv_at hl 2 rfl) ?_
      refine va_get (D := (dC, dI)) (ci := 15) (v := .ref (q 1)) (C := RX12) (T := TX12) (N := 78) hx hb hts bF_X12 hown hK hP 1 rfl rfl 1 (by decide) (ht_at hts 10 rfl) (fun _ h9 => h9) rfl dX12_weather_98 ?_
      refine lv_iload hx hb dX12_weather_101 (lv_at hl 1 rfl) ?_
      refine va_iald hx hb hK hP 0 0 rfl rfl (by unfold vp_in; decide) dX12_weather_103 ?_
      refine lv_topi (fun x21 ex21 => ?_)
      obtain rfl : 0 = x21 := (ex21).symm
      refine lv_bipush (v := 60) hx hb dX12_weather_104 (by decide) ?_
      refine lv_icmp_ne (tgt := 111) hx hb dX12_weather_106 (by decide) (fun c22 => ?_) (fun c22 => absurd c22 (by decide))
      refine lv_aload_n hx hb dX12_weather_111 rfl (lv_at hl 2 rfl) ?_
      refine va_get (D := (dC, dI)) (ci := 15) (v := .ref (q 1)) (C := RX12) (T := TX12) (N := 78) hx hb hts bF_X12 hown hK hP 1 rfl rfl 1 (by decide) (ht_at hts 10 rfl) (fun _ h9 => h9) rfl dX12_weather_112 ?_
      refine lv_iload hx hb dX12_weather_115 (lv_at hl 0 rfl) ?_
      refine lv_iload_n hx hb dX12_weather_117 rfl (lv_at hl 4 rfl) ?_
      refine va_iast hx hb hK hP hD hS 0 0 rfl rfl (by unfold vp_in; decide) dX12_weather_118 (fun H locs hP hD hS => ?_)
      have hP : va_P (dC, dI) vwCl [(q 1, .inl ((cm 1), 1749, .inl (upd (fun _ => 0) (1504 : Int32).toNatClampNeg p0))), (h0, .inr (15, mF q 0))] H := hP
      have hD : va_D A [(q 1, .inl ((cm 1), 1749, .inl (upd (fun _ => 0) (1504 : Int32).toNatClampNeg p0))), (h0, .inr (15, mF q 0))] := hD
      refine lv_aload_n hx hb dX12_weather_119 rfl (lv_at hl 2 rfl) ?_
      refine va_get (D := (dC, dI)) (ci := 15) (v := .ref (q 1)) (C := RX12) (T := TX12) (N := 78) hx hb hts bF_X12 hown hK hP 1 rfl rfl 1 (by decide) (ht_at hts 10 rfl) (fun _ h9 => h9) rfl dX12_weather_120 ?_
      refine lv_iload hx hb dX12_weather_123 (lv_at hl 0 rfl) ?_
      refine lv_iconst (v := 1) hx hb dX12_weather_125 (by decide) ?_
      refine lv_iadd hx hb dX12_weather_126 ?_
      refine lv_topi (fun x23 ex23 => ?_)
      obtain rfl : x23 = 1505 := ex23.trans (by decide)
      refine lv_iload_n hx hb dX12_weather_127 rfl (lv_at hl 5 rfl) ?_
      refine va_iast hx hb hK hP hD hS 0 0 rfl rfl (by unfold vp_in; decide) dX12_weather_128 (fun H locs hP hD hS => ?_)
      have hP : va_P (dC, dI) vwCl [(q 1, .inl ((cm 1), 1749, .inl (upd (upd (fun _ => 0) (1504 : Int32).toNatClampNeg p0) (1505 : Int32).toNatClampNeg p1))), (h0, .inr (15, mF q 0))] H := hP
      have hD : va_D A [(q 1, .inl ((cm 1), 1749, .inl (upd (upd (fun _ => 0) (1504 : Int32).toNatClampNeg p0) (1505 : Int32).toNatClampNeg p1))), (h0, .inr (15, mF q 0))] := hD
      refine lv_aload_n hx hb dX12_weather_129 rfl (lv_at hl 2 rfl) ?_
      refine va_get (D := (dC, dI)) (ci := 15) (v := .ref (q 1)) (C := RX12) (T := TX12) (N := 78) hx hb hts bF_X12 hown hK hP 1 rfl rfl 1 (by decide) (ht_at hts 10 rfl) (fun _ h9 => h9) rfl dX12_weather_130 ?_
      refine lv_iload hx hb dX12_weather_133 (lv_at hl 1 rfl) ?_
      refine lv_dup2_11 hx hb dX12_weather_135 rfl rfl ?_
      refine va_iald hx hb hK hP 0 0 rfl rfl (by unfold vp_in; decide) dX12_weather_136 ?_
      refine lv_topi (fun x24 ex24 => ?_)
      obtain rfl : 0 = x24 := (ex24.trans (by rw [pk_un (by decide), pk_un (by decide)])).symm
      refine lv_iconst (v := 1) hx hb dX12_weather_137 (by decide) ?_
      refine lv_iadd hx hb dX12_weather_138 ?_
      refine lv_topi (fun x25 ex25 => ?_)
      obtain rfl : x25 = 1 := ex25.trans (by decide)
      refine va_iast hx hb hK hP hD hS 0 0 rfl rfl (by unfold vp_in; decide) dX12_weather_139 (fun H locs hP hD hS => ?_)
      have hP : va_P (dC, dI) vwCl [(q 1, .inl ((cm 1), 1749, .inl (upd (upd (upd (fun _ => 0) (1504 : Int32).toNatClampNeg p0) (1505 : Int32).toNatClampNeg p1) (1503 : Int32).toNatClampNeg 1))), (h0, .inr (15, mF q 0))] H := hP
      have hD : va_D A [(q 1, .inl ((cm 1), 1749, .inl (upd (upd (upd (fun _ => 0) (1504 : Int32).toNatClampNeg p0) (1505 : Int32).toNatClampNeg p1) (1503 : Int32).toNatClampNeg 1))), (h0, .inr (15, mF q 0))] := hD
      refine lv_aload_n hx hb dX12_weather_140 rfl (lv_at hl 2 rfl) ?_
      refine lv_iconst (v := 0) hx hb dX12_weather_141 (by decide) ?_
      refine va_put (D := (dC, dI)) (ci := 15) (v := .int 0) (ty := .int) (C := RX12) (T := TX12) (N := 78) hx hb hts bF_X12 tyX12 tyX12_ok nmX12 hown hK hP hD hS 1 rfl rfl 9 (by decide) (ht_at hts 11 rfl) (fun _ h9 => h9) rfl (by decide +kernel) rfl rfl (Nat.le_of_ble_eq_true rfl) dX12_weather_142 (fun H locs hP hD hS => ?_)
      have hP : va_P (dC, dI) vwCl [(q 1, .inl ((cm 1), 1749, .inl (upd (upd (upd (fun _ => 0) (1504 : Int32).toNatClampNeg p0) (1505 : Int32).toNatClampNeg p1) (1503 : Int32).toNatClampNeg 1))), (h0, .inr (15, mF q 0))] H := hP
      have hD : va_D A [(q 1, .inl ((cm 1), 1749, .inl (upd (upd (upd (fun _ => 0) (1504 : Int32).toNatClampNeg p0) (1505 : Int32).toNatClampNeg p1) (1503 : Int32).toNatClampNeg 1))), (h0, .inr (15, mF q 0))] := hD
      refine lv_aload_n hx hb dX12_weather_145 rfl (lv_at hl 2 rfl) ?_
      refine va_get (D := (dC, dI)) (ci := 15) (v := .ref (q 1)) (C := RX12) (T := TX12) (N := 78) hx hb hts bF_X12 hown hK hP 1 rfl rfl 1 (by decide) (ht_at hts 10 rfl) (fun _ h9 => h9) rfl dX12_weather_146 ?_
      refine lv_iload hx hb dX12_weather_149 (lv_at hl 1 rfl) ?_
      refine va_iald hx hb hK hP 0 0 rfl rfl (by unfold vp_in; decide) dX12_weather_151 ?_
      refine lv_topi (fun x26 ex26 => ?_)
      obtain rfl : 1 = x26 := (ex26.trans pk_us).symm
      exact W.iret (v := 1) hx hb hr (fun t ht hW => ⟨⟨1, (mF q 0), rfl, (by unfold T_weather0; rw [if_pos hc4, if_pos hc10]; (first | exact ⟨rfl, fun _ => rfl⟩ | exact ⟨rfl, fun h => absurd h (by decide)⟩)), by rw [ht]; exact hP.sub (ws' := [(h0, .inr (15, mF q 0))]) [1] rfl, hD.sub (ws' := [(h0, .inr (15, mF q 0))]) [1] (by decide) rfl⟩, hS.F ht⟩) hS.2.2 dX12_weather_152
    · rw [if_neg hc10] at hw9
      subst hw9
      refine lv_if_ne (tgt := 47) hx hb dX12_weather_40 (by decide) (fun c27 => absurd c27 (by decide)) (fun c27 => ?_)
      refine lv_iconst (v := 1) hx hb dX12_weather_43 (by decide) ?_
      refine lv_goto (tgt := 48) hx hb dX12_weather_44 (by decide) ?_
      refine lv_iconst (v := 1) hx hb dX12_weather_48 (by decide) ?_
      have hPc := hP.sub (ws' := [(h0, .inr (15, mF q 0))]) [0] rfl
      have hDc := hD.sub (ws' := [(h0, .inr (15, mF q 0))]) [0] (by decide) rfl
      have hKc := hK.sub (tys' := []) [] rfl
      have hFc := va_free (wc := [(h0, .inr (15, mF q 0))]) hD hS hA [0] rfl
      refine va_calli (va_runV (As := [.int 1, .int 1]) (rest := []) ⟨hx, hb, hml, hown, hts⟩ (c_m_throwsIf1 l dC dI h0 (mF q 0) 1 H.size rfl) (cwV 2 hts (goodIn_app (goodIn_r _ [8, 9, 10, 6] (by decide +kernel) (by decide +kernel)) (goodIn_ca (goodIn_r _ [7, 1] (by decide +kernel) (by decide +kernel)) (bs_in _ _))) rfl rfl rfl (by decide +kernel) ⟨(Nat.le_of_ble_eq_true rfl), (Nat.le_of_ble_eq_true rfl)⟩) ⟨fun a U g mk q => by obtain ⟨q0, q1, qP, qK, qD⟩ := q; exact ⟨q0, q1, qP, va_K.moved (u := U) (U := U.calling g mk a) (Vm.Alike.refl U.vm) qK, qD⟩, va_recv hKc hPc (ci := 15) (q0 := 0) rfl rfl, fun U hU hW => ⟨rfl, by rw [hU], by rw [hU]; exact hPc, va_K.moved hW.alike hKc, hDc.weaken (fun _ _ _ _ => trivial)⟩⟩ rfl rfl hl.1 rfl (lv_room (Nat.le_of_ble_eq_true rfl)) dX12_weather_49 ⟨(Nat.le_of_ble_eq_true rfl), (Nat.le_of_ble_eq_true rfl)⟩) hS (fun q _ h => hFc q h) hFc (fun r29 u t H1 locs ht hvm hw30 hB hz1 hk1 hS => ?_)
      obtain ⟨hP1, hD1⟩ := hB
      rw [ht] at hP1
      obtain ⟨hP, hD⟩ := va_join (wr := [(q 1, .inl ((cm 1), 1749, .inl (fun _ => 0)))]) (w1 := [(h0, .inr (15, mF q 1))]) hP hD [0] [1] rfl rfl (by decide) (by decide) hk1 hFc hP1 hD1
      generalize H1 = H at hP hS ⊢
      have hP : va_P (dC, dI) vwCl [(q 1, .inl ((cm 1), 1749, .inl (fun _ => 0))), (h0, .inr (15, mF q 1))] H := hP
      have hD : va_D A [(q 1, .inl ((cm 1), 1749, .inl (fun _ => 0))), (h0, .inr (15, mF q 1))] := hD
      try dsimp only at hw30
      obtain rfl : 1 = r29 := (hw30).symm
      refine lv_if_eq (tgt := 57) hx hb dX12_weather_52 (by decide) (fun c31 => absurd c31 (by decide)) (fun c31 => ?_)
      refine lv_iconst (v := 0) hx hb dX12_weather_55 (by decide) ?_
      exact W.iret (v := 0) hx hb hr (fun t ht hW => ⟨⟨0, (mF q 1), rfl, (by unfold T_weather0; rw [if_pos hc4, if_neg hc10]; (first | exact ⟨rfl, fun _ => rfl⟩ | exact ⟨rfl, fun h => absurd h (by decide)⟩)), by rw [ht]; exact hP.sub (ws' := [(h0, .inr (15, mF q 1))]) [1] rfl, hD.sub (ws' := [(h0, .inr (15, mF q 1))]) [1] (by decide) rfl⟩, hS.F ht⟩) hS.2.2 dX12_weather_56
  · rw [if_neg hc4] at hw3
    subst hw3
    refine lv_if_eq (tgt := 43) hx hb dX12_weather_13 (by decide) (fun c32 => ?_) (fun c32 => absurd c32 (by decide))
    refine lv_iconst (v := 1) hx hb dX12_weather_43 (by decide) ?_
    refine lv_goto (tgt := 48) hx hb dX12_weather_44 (by decide) ?_
    refine lv_iconst (v := 1) hx hb dX12_weather_48 (by decide) ?_
    have hPc := hP.sub (ws' := [(h0, .inr (15, mF q 0))]) [0] rfl
    have hDc := hD.sub (ws' := [(h0, .inr (15, mF q 0))]) [0] (by decide) rfl
    have hKc := hK.sub (tys' := []) [] rfl
    have hFc := va_free (wc := [(h0, .inr (15, mF q 0))]) hD hS hA [0] rfl
    refine va_calli (va_runV (As := [.int 1, .int 1]) (rest := []) ⟨hx, hb, hml, hown, hts⟩ (c_m_throwsIf1 l dC dI h0 (mF q 0) 1 H.size rfl) (cwV 2 hts (goodIn_app (goodIn_r _ [8, 9, 10, 6] (by decide +kernel) (by decide +kernel)) (goodIn_ca (goodIn_r _ [7, 1] (by decide +kernel) (by decide +kernel)) (bs_in _ _))) rfl rfl rfl (by decide +kernel) ⟨(Nat.le_of_ble_eq_true rfl), (Nat.le_of_ble_eq_true rfl)⟩) ⟨fun a U g mk q => by obtain ⟨q0, q1, qP, qK, qD⟩ := q; exact ⟨q0, q1, qP, va_K.moved (u := U) (U := U.calling g mk a) (Vm.Alike.refl U.vm) qK, qD⟩, va_recv hKc hPc (ci := 15) (q0 := 0) rfl rfl, fun U hU hW => ⟨rfl, by rw [hU], by rw [hU]; exact hPc, va_K.moved hW.alike hKc, hDc.weaken (fun _ _ _ _ => trivial)⟩⟩ rfl rfl hl.1 rfl (lv_room (Nat.le_of_ble_eq_true rfl)) dX12_weather_49 ⟨(Nat.le_of_ble_eq_true rfl), (Nat.le_of_ble_eq_true rfl)⟩) hS (fun q _ h => hFc q h) hFc (fun r34 u t H1 locs ht hvm hw35 hB hz1 hk1 hS => ?_)
    obtain ⟨hP1, hD1⟩ := hB
    rw [ht] at hP1
    obtain ⟨hP, hD⟩ := va_join (wr := [(q 1, .inl ((cm 1), 1749, .inl (fun _ => 0)))]) (w1 := [(h0, .inr (15, mF q 1))]) hP hD [0] [1] rfl rfl (by decide) (by decide) hk1 hFc hP1 hD1
    generalize H1 = H at hP hS ⊢
    have hP : va_P (dC, dI) vwCl [(q 1, .inl ((cm 1), 1749, .inl (fun _ => 0))), (h0, .inr (15, mF q 1))] H := hP
    have hD : va_D A [(q 1, .inl ((cm 1), 1749, .inl (fun _ => 0))), (h0, .inr (15, mF q 1))] := hD
    try dsimp only at hw35
    obtain rfl : 1 = r34 := (hw35).symm
    refine lv_if_eq (tgt := 57) hx hb dX12_weather_52 (by decide) (fun c36 => absurd c36 (by decide)) (fun c36 => ?_)
    refine lv_iconst (v := 0) hx hb dX12_weather_55 (by decide) ?_
    exact W.iret (v := 0) hx hb hr (fun t ht hW => ⟨⟨0, (mF q 1), rfl, (by unfold T_weather0; rw [if_neg hc4]; (first | exact ⟨rfl, fun _ => rfl⟩ | exact ⟨rfl, fun h => absurd h (by decide)⟩)), by rw [ht]; exact hP.sub (ws' := [(h0, .inr (15, mF q 1))]) [1] rfl, hD.sub (ws' := [(h0, .inr (15, mF q 1))]) [1] (by decide) rfl⟩, hS.F ht⟩) hS.2.2 dX12_weather_56
def w_m_weather1 : List Cond := .code yX12_weather cX12_weather 6 (some .int) :: ([.fieldLink RX12 194 "SeaLandModel" "thrown" "I", .constant RX12 242 40000, .code yX12_in cX12_in 3 (some .boolean), .methodLink RX12 197 yX12_in, .static yX12_in, .initialized RX12, .code yX12_throwsIf cX12_throwsIf 3 (some .boolean), .methodLink RX12 224 yX12_throwsIf, .instanceMethod yX12_throwsIf, .selects RX12 yX12_throwsIf yX12_throwsIf, .fieldLink RX12 9 "SeaLandModel" "world" "[I", .fieldLink RX12 238 "SeaLandModel" "rows" "I"] ++ bs)
set_option maxHeartbeats 4000000 in
set_option maxRecDepth 100000 in
theorem m_weather1 (l : Launch) (dC : Nat → ClassId) (dI : Nat → Nat → Nat) (h0 : Nat) (q : Nat → Nat) (cm : Nat → ClassId) (p0 p1 : Int32) (sz : Nat) : Met l yX12_weather w_m_weather1 ({ frames := 1, cells := 0, slots := 0, locals := 22 }) (va_Pc [.ref h0, .int 1, .int p0, .int p1] (fun U => U.heap.size = sz ∧ va_P (dC, dI) vwCl [(h0, .inr (15, mF q 0)), (q 1, .inl ((cm 1), 1749, .inl (fun _ => 0)))] U.heap ∧ va_K (dC, dI) vwCl [((cm 1), .int)] U ∧ va_D (fun _ => True) [(h0, .inr (15, mF q 0)), (q 1, .inl ((cm 1), 1749, .inl (fun _ => 0)))])) (va_Qi (fun (r : Int32) (u : List Value) => u[0]? = some (.int (T_weather1 p0 p1).1) ∧ ((T_weather1 p0 p1).1 = 0 → r = (T_weather1 p0 p1).2)) (fun (fs : List Value) (t : State) => va_P (dC, dI) vwCl [(h0, .inr (15, fs))] t.heap ∧ va_D (va_A [(h0, .inr (15, mF q 0)), (q 1, .inl ((cm 1), 1749, .inl (fun _ => 0)))] sz) [(h0, .inr (15, fs))]) (va_A [(h0, .inr (15, mF q 0)), (q 1, .inl ((cm 1), 1749, .inl (fun _ => 0)))] sz)) 0 0 (va_A [(h0, .inr (15, mF q 0)), (q 1, .inl ((cm 1), 1749, .inl (fun _ => 0)))] sz) := by
  refine Met.ofW (cc := cX12_weather) (maxL := 6) (ret := (some .int)) (by decide) rfl ?_
  intro p e s m args below meth c s₁ B hml hv
  obtain ⟨rfl, hsz, hP, hK, hD0⟩ := hv
  have hx := B.exec
  have hb := B.bytes
  have hr := B.returns
  have hts := atoms_spec (ws := w_m_weather1) B.pre
  have hown : s.vm.findClass RX12 = some m.cls := findClass_of_methodNamed B.named
  have hlocks := B.notSynchronized
  subst hsz
  have hD := hD0.self (sz := s.heap.size)
  generalize hAe : va_A [(h0, .inr (15, mF q 0)), (q 1, .inl ((cm 1), 1749, .inl (fun _ => 0)))] s.heap.size = A at hD ⊢
  have hA : ∀ q : Nat, s.heap.size ≤ q → A q := fun q h => by rw [← hAe]; exact Or.inr h
  have hS : va_S A s.heap s.heap [] := va_S.rf
  have hP : va_P (dC, dI) vwCl [(h0, .inr (15, mF q 0)), (q 1, .inl ((cm 1), 1749, .inl (fun _ => 0)))] s.heap := hP
  have hl := lv_entry ([.ref h0, .int 1, .int p0, .int p1]) (n := 6) (Nat.le_of_ble_eq_true rfl)
  rw [lg_entry_eq]
  generalize (lg_sl ([.ref h0, .int 1, .int p0, .int p1]) ++ List.replicate (6 - (lg_sl ([.ref h0, .int 1, .int p0, .int p1])).length) Slot.unset).toArray = ls at hl ⊢
  have hl : lv_has ls 6 [(0, .ref h0), (1, .int 1), (2, .int p0), (3, .int p1)] := hl
  refine lv_aload_n hx hb dX12_weather_0 rfl (lv_at hl 0 rfl) ?_
  refine lv_iconst (v := 0) hx hb dX12_weather_1 (by decide) ?_
  refine va_put (D := (dC, dI)) (ci := 15) (v := .int 0) (ty := .int) (C := RX12) (T := TX12) (N := 78) hx hb hts bF_X12 tyX12 tyX12_ok nmX12 hown hK hP hD hS 0 rfl rfl 0 (by decide) (ht_at hts 0 rfl) (fun _ h9 => h9) rfl (by decide +kernel) rfl rfl (Nat.le_of_ble_eq_true rfl) dX12_weather_2 (fun H locs hP hD hS => ?_)
  have hP : va_P (dC, dI) vwCl [(h0, .inr (15, mF q 0)), (q 1, .inl ((cm 1), 1749, .inl (fun _ => 0)))] H := hP
  have hD : va_D A [(h0, .inr (15, mF q 0)), (q 1, .inl ((cm 1), 1749, .inl (fun _ => 0)))] := hD
  refine lv_aload_n hx hb dX12_weather_5 rfl (lv_at hl 0 rfl) ?_
  refine lv_iload_n hx hb dX12_weather_6 rfl (lv_at hl 2 rfl) ?_
  refine lv_iconst (v := 0) hx hb dX12_weather_7 (by decide) ?_
  refine lv_ldc (v := 40000) hx hb hown (ht_at hts 1 rfl) dX12_weather_8 ?_
  have hPc := hP.sub (ws' := []) [] rfl
  have hDc := hD.sub (ws' := []) [] (by decide) rfl
  have hKc := hK.sub (tys' := []) [] rfl
  have hFc := va_free (wc := []) hD hS hA [] rfl
  refine va_calli (va_runS (As := [.int p0, .int 0, .int 40000]) (rest := [.ref h0]) ⟨hx, hb, hml, hown, hts⟩ (c_min_ l dC dI p0 0 40000 H.size ) (va_cwS 3 hts (goodIn_app (goodIn_r _ [4, 5, 6] (by decide +kernel) (by decide +kernel)) (goodIn_ca (goodIn_r _ [3] (by decide +kernel) (by decide +kernel)) (bs_in _ _))) rfl rfl rfl (by decide +kernel) ⟨(Nat.le_of_ble_eq_true rfl), (Nat.le_of_ble_eq_true rfl)⟩) ⟨fun a U g mk q => by obtain ⟨q0, q1, qP, qK, qD⟩ := q; exact ⟨q0, q1, qP, va_K.moved (u := U) (U := U.calling g mk a) (Vm.Alike.refl U.vm) qK, qD⟩, fun U hU hW => ⟨rfl, by rw [hU], by rw [hU]; exact hPc, va_K.moved hW.alike hKc, hDc.weaken (fun _ _ _ _ => trivial)⟩⟩ rfl rfl hl.1 rfl (lv_room (Nat.le_of_ble_eq_true rfl)) dX12_weather_10 ⟨(Nat.le_of_ble_eq_true rfl), (Nat.le_of_ble_eq_true rfl)⟩) hS (fun q _ h => hFc q h) hFc (fun r2 u t H1 locs ht hvm hw3 hB hz1 hk1 hS => ?_)
  have hP1 : va_P (dC, dI) vwCl [] H1 := nilP
  have hD1 : va_D (va_A [] H.size) [] := nilD
  have hK := hK
  obtain ⟨hP, hD⟩ := va_join (wr := [(h0, .inr (15, mF q 0)), (q 1, .inl ((cm 1), 1749, .inl (fun _ => 0)))]) (w1 := []) hP hD [] [0, 1] rfl rfl (by decide) (by decide) hk1 hFc hP1 hD1
  generalize H1 = H at hP hS ⊢
  have hP : va_P (dC, dI) vwCl [(h0, .inr (15, mF q 0)), (q 1, .inl ((cm 1), 1749, .inl (fun _ => 0)))] H := hP
  have hD : va_D A [(h0, .inr (15, mF q 0)), (q 1, .inl ((cm 1), 1749, .inl (fun _ => 0)))] := hD
  try dsimp only at hw3
  by_cases hc4 : (0 : Int32) ≤ p0 ∧ p0 ≤ (40000 : Int32)
  · rw [if_pos hc4] at hw3
    subst hw3
    refine lv_if_eq (tgt := 43) hx hb dX12_weather_13 (by decide) (fun c5 => absurd c5 (by decide)) (fun c5 => ?_)
    refine lv_iload_n hx hb dX12_weather_16 rfl (lv_at hl 1 rfl) ?_
    refine lv_if_eq (tgt := 33) hx hb dX12_weather_17 (by decide) (fun c6 => absurd c6 (by decide)) (fun c6 => ?_)
    refine lv_iload_n hx hb dX12_weather_20 rfl (lv_at hl 3 rfl) ?_
    refine lv_iconst (v := 0) hx hb dX12_weather_21 (by decide) ?_
    refine lv_bipush (v := 20) hx hb dX12_weather_22 (by decide) ?_
    have hPc := hP.sub (ws' := []) [] rfl
    have hDc := hD.sub (ws' := []) [] (by decide) rfl
    have hKc := hK.sub (tys' := []) [] rfl
    have hFc := va_free (wc := []) hD hS hA [] rfl
    refine va_calli (va_runS (As := [.int p1, .int 0, .int 20]) (rest := [.ref h0]) ⟨hx, hb, hml, hown, hts⟩ (c_min_ l dC dI p1 0 20 H.size ) (va_cwS 3 hts (goodIn_app (goodIn_r _ [4, 5, 6] (by decide +kernel) (by decide +kernel)) (goodIn_ca (goodIn_r _ [3] (by decide +kernel) (by decide +kernel)) (bs_in _ _))) rfl rfl rfl (by decide +kernel) ⟨(Nat.le_of_ble_eq_true rfl), (Nat.le_of_ble_eq_true rfl)⟩) ⟨fun a U g mk q => by obtain ⟨q0, q1, qP, qK, qD⟩ := q; exact ⟨q0, q1, qP, va_K.moved (u := U) (U := U.calling g mk a) (Vm.Alike.refl U.vm) qK, qD⟩, fun U hU hW => ⟨rfl, by rw [hU], by rw [hU]; exact hPc, va_K.moved hW.alike hKc, hDc.weaken (fun _ _ _ _ => trivial)⟩⟩ rfl rfl hl.1 rfl (lv_room (Nat.le_of_ble_eq_true rfl)) dX12_weather_24 ⟨(Nat.le_of_ble_eq_true rfl), (Nat.le_of_ble_eq_true rfl)⟩) hS (fun q _ h => hFc q h) hFc (fun r8 u t H1 locs ht hvm hw9 hB hz1 hk1 hS => ?_)
    have hP1 : va_P (dC, dI) vwCl [] H1 := nilP
    have hD1 : va_D (va_A [] H.size) [] := nilD
    have hK := hK
    obtain ⟨hP, hD⟩ := va_join (wr := [(h0, .inr (15, mF q 0)), (q 1, .inl ((cm 1), 1749, .inl (fun _ => 0)))]) (w1 := []) hP hD [] [0, 1] rfl rfl (by decide) (by decide) hk1 hFc hP1 hD1
    generalize H1 = H at hP hS ⊢
    have hP : va_P (dC, dI) vwCl [(h0, .inr (15, mF q 0)), (q 1, .inl ((cm 1), 1749, .inl (fun _ => 0)))] H := hP
    have hD : va_D A [(h0, .inr (15, mF q 0)), (q 1, .inl ((cm 1), 1749, .inl (fun _ => 0)))] := hD
    try dsimp only at hw9
    by_cases hc10 : (0 : Int32) ≤ p1 ∧ p1 ≤ (20 : Int32)
    · rw [if_pos hc10] at hw9
      subst hw9
      refine lv_if_ne (tgt := 47) hx hb dX12_weather_27 (by decide) (fun c11 => ?_) (fun c11 => absurd c11 (by decide))
      refine lv_iconst (v := 0) hx hb dX12_weather_47 (by decide) ?_
      refine lv_iconst (v := 1) hx hb dX12_weather_48 (by decide) ?_
      have hPc := hP.sub (ws' := [(h0, .inr (15, mF q 0))]) [0] rfl
      have hDc := hD.sub (ws' := [(h0, .inr (15, mF q 0))]) [0] (by decide) rfl
      have hKc := hK.sub (tys' := []) [] rfl
      have hFc := va_free (wc := [(h0, .inr (15, mF q 0))]) hD hS hA [0] rfl
      refine va_calli (va_runV (As := [.int 0, .int 1]) (rest := []) ⟨hx, hb, hml, hown, hts⟩ (c_m_throwsIf0 l dC dI h0 (mF q 0) 1 H.size ) (cwV 2 hts (goodIn_app (goodIn_r _ [8, 9, 10, 6] (by decide +kernel) (by decide +kernel)) (goodIn_ca (goodIn_r _ [7] (by decide +kernel) (by decide +kernel)) (bs_in _ _))) rfl rfl rfl (by decide +kernel) ⟨(Nat.le_of_ble_eq_true rfl), (Nat.le_of_ble_eq_true rfl)⟩) ⟨fun a U g mk q => by obtain ⟨q0, q1, qP, qK, qD⟩ := q; exact ⟨q0, q1, qP, va_K.moved (u := U) (U := U.calling g mk a) (Vm.Alike.refl U.vm) qK, qD⟩, va_recv hKc hPc (ci := 15) (q0 := 0) rfl rfl, fun U hU hW => ⟨rfl, by rw [hU], by rw [hU]; exact hPc, va_K.moved hW.alike hKc, hDc.weaken (fun _ _ _ _ => trivial)⟩⟩ rfl rfl hl.1 rfl (lv_room (Nat.le_of_ble_eq_true rfl)) dX12_weather_49 ⟨(Nat.le_of_ble_eq_true rfl), (Nat.le_of_ble_eq_true rfl)⟩) hS (fun q _ h => hFc q h) hFc (fun r13 u t H1 locs ht hvm hw14 hB hz1 hk1 hS => ?_)
      obtain ⟨hP1, hD1⟩ := hB
      rw [ht] at hP1
      obtain ⟨hP, hD⟩ := va_join (wr := [(q 1, .inl ((cm 1), 1749, .inl (fun _ => 0)))]) (w1 := [(h0, .inr (15, mF q 0))]) hP hD [0] [1] rfl rfl (by decide) (by decide) hk1 hFc hP1 hD1
      generalize H1 = H at hP hS ⊢
      have hP : va_P (dC, dI) vwCl [(q 1, .inl ((cm 1), 1749, .inl (fun _ => 0))), (h0, .inr (15, mF q 0))] H := hP
      have hD : va_D A [(q 1, .inl ((cm 1), 1749, .inl (fun _ => 0))), (h0, .inr (15, mF q 0))] := hD
      try dsimp only at hw14
      obtain rfl : 0 = r13 := (hw14).symm
      refine lv_if_eq (tgt := 57) hx hb dX12_weather_52 (by decide) (fun c15 => ?_) (fun c15 => absurd c15 (by decide))
      refine lv_iload_n hx hb dX12_weather_57 rfl (lv_at hl 1 rfl) ?_
      refine lv_if_eq (tgt := 67) hx hb dX12_weather_58 (by decide) (fun c16 => absurd c16 (by decide)) (fun c16 => ?_)
      refine lv_sipush (v := 1624) hx hb dX12_weather_61 (by decide) ?_
      refine lv_goto (tgt := 70) hx hb dX12_weather_64 (by decide) ?_
      refine lv_istore (lv' := [(4, .int 1624), (0, .ref h0), (1, .int 1), (2, .int p0), (3, .int p1)]) hx hb dX12_weather_70 hl (by decide) rfl (fun ls hl => ?_)
      refine lv_iload_n hx hb dX12_weather_72 rfl (lv_at hl 2 rfl) ?_
      refine lv_if_eq (tgt := 82) hx hb dX12_weather_73 (by decide) (fun c17 => absurd c17 (by decide)) (fun c17 => ?_)
      refine lv_sipush (v := 1625) hx hb dX12_weather_76 (by decide) ?_
      refine lv_goto (tgt := 85) hx hb dX12_weather_79 (by decide) ?_
      refine lv_iconst (v := 2) hx hb dX12_weather_85 (by decide) ?_
      refine lv_aload_n hx hb dX12_weather_86 rfl (lv_at hl 1 rfl) ?_
      refine va_get (D := (dC, dI)) (ci := 15) (v := .ref (q 1)) (C := RX12) (T := TX12) (N := 78) hx hb hts bF_X12 hown hK hP 1 rfl rfl 1 (by decide) (ht_at hts 10 rfl) (fun _ h9 => h9) rfl dX12_weather_87 ?_
      refine lv_iload hx hb dX12_weather_90 (lv_at hl 0 rfl) ?_
      refine va_iald hx hb hK hP 0 0 rfl rfl (by unfold vp_in; decide) dX12_weather_92 ?_
      refine lv_topi (fun x18 ex18 => ?_)
      obtain rfl : 0 = x18 := (ex18).symm
      refine lv_imul hx hb dX12_weather_93 ?_
      refine lv_topi (fun x19 ex19 => ?_)
      obtain rfl : x19 = 0 := ex19.trans (by decide)
      refine lv_iadd hx hb dX12_weather_94 ?_
      refine lv_topi (fun x20 ex20 => ?_)
      obtain rfl : x20 = 1625 := ex20.trans (by decide)
      refine lv_istore (lv' := [(5, .int 1625), (4, .int 1624), (0, .ref h0), (1, .int 1), (2, .int p0), (3, .int p1)]) hx hb dX12_weather_95 hl (by decide) rfl (fun ls hl => ?_)
      refine lv_aload_n hx hb dX12_weather_97 rfl (lv_at hl 2 rfl) ?_
      refine va_get (D := (dC, dI)) (ci := 15) (v := .ref (q 1)) (C := RX12) (T := TX12) (N := 78) hx hb hts bF_X12 hown hK hP 1 rfl rfl 1 (by decide) (ht_at hts 10 rfl) (fun _ h9 => h9) rfl dX12_weather_98 ?_
      refine lv_iload hx hb dX12_weather_101 (lv_at hl 1 rfl) ?_
      refine va_iald hx hb hK hP 0 0 rfl rfl (by unfold vp_in; decide) dX12_weather_103 ?_
      refine lv_topi (fun x21 ex21 => ?_)
      obtain rfl : 0 = x21 := (ex21).symm
      refine lv_bipush (v := 60) hx hb dX12_weather_104 (by decide) ?_
      refine lv_icmp_ne (tgt := 111) hx hb dX12_weather_106 (by decide) (fun c22 => ?_) (fun c22 => absurd c22 (by decide))
      refine lv_aload_n hx hb dX12_weather_111 rfl (lv_at hl 2 rfl) ?_
      refine va_get (D := (dC, dI)) (ci := 15) (v := .ref (q 1)) (C := RX12) (T := TX12) (N := 78) hx hb hts bF_X12 hown hK hP 1 rfl rfl 1 (by decide) (ht_at hts 10 rfl) (fun _ h9 => h9) rfl dX12_weather_112 ?_
      refine lv_iload hx hb dX12_weather_115 (lv_at hl 0 rfl) ?_
      refine lv_iload_n hx hb dX12_weather_117 rfl (lv_at hl 4 rfl) ?_
      refine va_iast hx hb hK hP hD hS 0 0 rfl rfl (by unfold vp_in; decide) dX12_weather_118 (fun H locs hP hD hS => ?_)
      have hP : va_P (dC, dI) vwCl [(q 1, .inl ((cm 1), 1749, .inl (upd (fun _ => 0) (1625 : Int32).toNatClampNeg p0))), (h0, .inr (15, mF q 0))] H := hP
      have hD : va_D A [(q 1, .inl ((cm 1), 1749, .inl (upd (fun _ => 0) (1625 : Int32).toNatClampNeg p0))), (h0, .inr (15, mF q 0))] := hD
      refine lv_aload_n hx hb dX12_weather_119 rfl (lv_at hl 2 rfl) ?_
      refine va_get (D := (dC, dI)) (ci := 15) (v := .ref (q 1)) (C := RX12) (T := TX12) (N := 78) hx hb hts bF_X12 hown hK hP 1 rfl rfl 1 (by decide) (ht_at hts 10 rfl) (fun _ h9 => h9) rfl dX12_weather_120 ?_
      refine lv_iload hx hb dX12_weather_123 (lv_at hl 0 rfl) ?_
      refine lv_iconst (v := 1) hx hb dX12_weather_125 (by decide) ?_
      refine lv_iadd hx hb dX12_weather_126 ?_
      refine lv_topi (fun x23 ex23 => ?_)
      obtain rfl : x23 = 1626 := ex23.trans (by decide)
      refine lv_iload_n hx hb dX12_weather_127 rfl (lv_at hl 5 rfl) ?_
      refine va_iast hx hb hK hP hD hS 0 0 rfl rfl (by unfold vp_in; decide) dX12_weather_128 (fun H locs hP hD hS => ?_)
      have hP : va_P (dC, dI) vwCl [(q 1, .inl ((cm 1), 1749, .inl (upd (upd (fun _ => 0) (1625 : Int32).toNatClampNeg p0) (1626 : Int32).toNatClampNeg p1))), (h0, .inr (15, mF q 0))] H := hP
      have hD : va_D A [(q 1, .inl ((cm 1), 1749, .inl (upd (upd (fun _ => 0) (1625 : Int32).toNatClampNeg p0) (1626 : Int32).toNatClampNeg p1))), (h0, .inr (15, mF q 0))] := hD
      refine lv_aload_n hx hb dX12_weather_129 rfl (lv_at hl 2 rfl) ?_
      refine va_get (D := (dC, dI)) (ci := 15) (v := .ref (q 1)) (C := RX12) (T := TX12) (N := 78) hx hb hts bF_X12 hown hK hP 1 rfl rfl 1 (by decide) (ht_at hts 10 rfl) (fun _ h9 => h9) rfl dX12_weather_130 ?_
      refine lv_iload hx hb dX12_weather_133 (lv_at hl 1 rfl) ?_
      refine lv_dup2_11 hx hb dX12_weather_135 rfl rfl ?_
      refine va_iald hx hb hK hP 0 0 rfl rfl (by unfold vp_in; decide) dX12_weather_136 ?_
      refine lv_topi (fun x24 ex24 => ?_)
      obtain rfl : 0 = x24 := (ex24.trans (by rw [pk_un (by decide), pk_un (by decide)])).symm
      refine lv_iconst (v := 1) hx hb dX12_weather_137 (by decide) ?_
      refine lv_iadd hx hb dX12_weather_138 ?_
      refine lv_topi (fun x25 ex25 => ?_)
      obtain rfl : x25 = 1 := ex25.trans (by decide)
      refine va_iast hx hb hK hP hD hS 0 0 rfl rfl (by unfold vp_in; decide) dX12_weather_139 (fun H locs hP hD hS => ?_)
      have hP : va_P (dC, dI) vwCl [(q 1, .inl ((cm 1), 1749, .inl (upd (upd (upd (fun _ => 0) (1625 : Int32).toNatClampNeg p0) (1626 : Int32).toNatClampNeg p1) (1624 : Int32).toNatClampNeg 1))), (h0, .inr (15, mF q 0))] H := hP
      have hD : va_D A [(q 1, .inl ((cm 1), 1749, .inl (upd (upd (upd (fun _ => 0) (1625 : Int32).toNatClampNeg p0) (1626 : Int32).toNatClampNeg p1) (1624 : Int32).toNatClampNeg 1))), (h0, .inr (15, mF q 0))] := hD
      refine lv_aload_n hx hb dX12_weather_140 rfl (lv_at hl 2 rfl) ?_
      refine lv_iconst (v := 0) hx hb dX12_weather_141 (by decide) ?_
      refine va_put (D := (dC, dI)) (ci := 15) (v := .int 0) (ty := .int) (C := RX12) (T := TX12) (N := 78) hx hb hts bF_X12 tyX12 tyX12_ok nmX12 hown hK hP hD hS 1 rfl rfl 9 (by decide) (ht_at hts 11 rfl) (fun _ h9 => h9) rfl (by decide +kernel) rfl rfl (Nat.le_of_ble_eq_true rfl) dX12_weather_142 (fun H locs hP hD hS => ?_)
      have hP : va_P (dC, dI) vwCl [(q 1, .inl ((cm 1), 1749, .inl (upd (upd (upd (fun _ => 0) (1625 : Int32).toNatClampNeg p0) (1626 : Int32).toNatClampNeg p1) (1624 : Int32).toNatClampNeg 1))), (h0, .inr (15, mF q 0))] H := hP
      have hD : va_D A [(q 1, .inl ((cm 1), 1749, .inl (upd (upd (upd (fun _ => 0) (1625 : Int32).toNatClampNeg p0) (1626 : Int32).toNatClampNeg p1) (1624 : Int32).toNatClampNeg 1))), (h0, .inr (15, mF q 0))] := hD
      refine lv_aload_n hx hb dX12_weather_145 rfl (lv_at hl 2 rfl) ?_
      refine va_get (D := (dC, dI)) (ci := 15) (v := .ref (q 1)) (C := RX12) (T := TX12) (N := 78) hx hb hts bF_X12 hown hK hP 1 rfl rfl 1 (by decide) (ht_at hts 10 rfl) (fun _ h9 => h9) rfl dX12_weather_146 ?_
      refine lv_iload hx hb dX12_weather_149 (lv_at hl 1 rfl) ?_
      refine va_iald hx hb hK hP 0 0 rfl rfl (by unfold vp_in; decide) dX12_weather_151 ?_
      refine lv_topi (fun x26 ex26 => ?_)
      obtain rfl : 1 = x26 := (ex26.trans pk_us).symm
      exact W.iret (v := 1) hx hb hr (fun t ht hW => ⟨⟨1, (mF q 0), rfl, (by unfold T_weather1; rw [if_pos hc4, if_pos hc10]; (first | exact ⟨rfl, fun _ => rfl⟩ | exact ⟨rfl, fun h => absurd h (by decide)⟩)), by rw [ht]; exact hP.sub (ws' := [(h0, .inr (15, mF q 0))]) [1] rfl, hD.sub (ws' := [(h0, .inr (15, mF q 0))]) [1] (by decide) rfl⟩, hS.F ht⟩) hS.2.2 dX12_weather_152
    · rw [if_neg hc10] at hw9
      subst hw9
      refine lv_if_ne (tgt := 47) hx hb dX12_weather_27 (by decide) (fun c27 => absurd c27 (by decide)) (fun c27 => ?_)
      refine lv_goto (tgt := 43) hx hb dX12_weather_30 (by decide) ?_
      refine lv_iconst (v := 1) hx hb dX12_weather_43 (by decide) ?_
      refine lv_goto (tgt := 48) hx hb dX12_weather_44 (by decide) ?_
      refine lv_iconst (v := 1) hx hb dX12_weather_48 (by decide) ?_
      have hPc := hP.sub (ws' := [(h0, .inr (15, mF q 0))]) [0] rfl
      have hDc := hD.sub (ws' := [(h0, .inr (15, mF q 0))]) [0] (by decide) rfl
      have hKc := hK.sub (tys' := []) [] rfl
      have hFc := va_free (wc := [(h0, .inr (15, mF q 0))]) hD hS hA [0] rfl
      refine va_calli (va_runV (As := [.int 1, .int 1]) (rest := []) ⟨hx, hb, hml, hown, hts⟩ (c_m_throwsIf1 l dC dI h0 (mF q 0) 1 H.size rfl) (cwV 2 hts (goodIn_app (goodIn_r _ [8, 9, 10, 6] (by decide +kernel) (by decide +kernel)) (goodIn_ca (goodIn_r _ [7, 1] (by decide +kernel) (by decide +kernel)) (bs_in _ _))) rfl rfl rfl (by decide +kernel) ⟨(Nat.le_of_ble_eq_true rfl), (Nat.le_of_ble_eq_true rfl)⟩) ⟨fun a U g mk q => by obtain ⟨q0, q1, qP, qK, qD⟩ := q; exact ⟨q0, q1, qP, va_K.moved (u := U) (U := U.calling g mk a) (Vm.Alike.refl U.vm) qK, qD⟩, va_recv hKc hPc (ci := 15) (q0 := 0) rfl rfl, fun U hU hW => ⟨rfl, by rw [hU], by rw [hU]; exact hPc, va_K.moved hW.alike hKc, hDc.weaken (fun _ _ _ _ => trivial)⟩⟩ rfl rfl hl.1 rfl (lv_room (Nat.le_of_ble_eq_true rfl)) dX12_weather_49 ⟨(Nat.le_of_ble_eq_true rfl), (Nat.le_of_ble_eq_true rfl)⟩) hS (fun q _ h => hFc q h) hFc (fun r29 u t H1 locs ht hvm hw30 hB hz1 hk1 hS => ?_)
      obtain ⟨hP1, hD1⟩ := hB
      rw [ht] at hP1
      obtain ⟨hP, hD⟩ := va_join (wr := [(q 1, .inl ((cm 1), 1749, .inl (fun _ => 0)))]) (w1 := [(h0, .inr (15, mF q 1))]) hP hD [0] [1] rfl rfl (by decide) (by decide) hk1 hFc hP1 hD1
      generalize H1 = H at hP hS ⊢
      have hP : va_P (dC, dI) vwCl [(q 1, .inl ((cm 1), 1749, .inl (fun _ => 0))), (h0, .inr (15, mF q 1))] H := hP
      have hD : va_D A [(q 1, .inl ((cm 1), 1749, .inl (fun _ => 0))), (h0, .inr (15, mF q 1))] := hD
      try dsimp only at hw30
      obtain rfl : 1 = r29 := (hw30).symm
      refine lv_if_eq (tgt := 57) hx hb dX12_weather_52 (by decide) (fun c31 => absurd c31 (by decide)) (fun c31 => ?_)
      refine lv_iconst (v := 0) hx hb dX12_weather_55 (by decide) ?_
      exact W.iret (v := 0) hx hb hr (fun t ht hW => ⟨⟨0, (mF q 1), rfl, (by unfold T_weather1; rw [if_pos hc4, if_neg hc10]; (first | exact ⟨rfl, fun _ => rfl⟩ | exact ⟨rfl, fun h => absurd h (by decide)⟩)), by rw [ht]; exact hP.sub (ws' := [(h0, .inr (15, mF q 1))]) [1] rfl, hD.sub (ws' := [(h0, .inr (15, mF q 1))]) [1] (by decide) rfl⟩, hS.F ht⟩) hS.2.2 dX12_weather_56
  · rw [if_neg hc4] at hw3
    subst hw3
    refine lv_if_eq (tgt := 43) hx hb dX12_weather_13 (by decide) (fun c32 => ?_) (fun c32 => absurd c32 (by decide))
    refine lv_iconst (v := 1) hx hb dX12_weather_43 (by decide) ?_
    refine lv_goto (tgt := 48) hx hb dX12_weather_44 (by decide) ?_
    refine lv_iconst (v := 1) hx hb dX12_weather_48 (by decide) ?_
    have hPc := hP.sub (ws' := [(h0, .inr (15, mF q 0))]) [0] rfl
    have hDc := hD.sub (ws' := [(h0, .inr (15, mF q 0))]) [0] (by decide) rfl
    have hKc := hK.sub (tys' := []) [] rfl
    have hFc := va_free (wc := [(h0, .inr (15, mF q 0))]) hD hS hA [0] rfl
    refine va_calli (va_runV (As := [.int 1, .int 1]) (rest := []) ⟨hx, hb, hml, hown, hts⟩ (c_m_throwsIf1 l dC dI h0 (mF q 0) 1 H.size rfl) (cwV 2 hts (goodIn_app (goodIn_r _ [8, 9, 10, 6] (by decide +kernel) (by decide +kernel)) (goodIn_ca (goodIn_r _ [7, 1] (by decide +kernel) (by decide +kernel)) (bs_in _ _))) rfl rfl rfl (by decide +kernel) ⟨(Nat.le_of_ble_eq_true rfl), (Nat.le_of_ble_eq_true rfl)⟩) ⟨fun a U g mk q => by obtain ⟨q0, q1, qP, qK, qD⟩ := q; exact ⟨q0, q1, qP, va_K.moved (u := U) (U := U.calling g mk a) (Vm.Alike.refl U.vm) qK, qD⟩, va_recv hKc hPc (ci := 15) (q0 := 0) rfl rfl, fun U hU hW => ⟨rfl, by rw [hU], by rw [hU]; exact hPc, va_K.moved hW.alike hKc, hDc.weaken (fun _ _ _ _ => trivial)⟩⟩ rfl rfl hl.1 rfl (lv_room (Nat.le_of_ble_eq_true rfl)) dX12_weather_49 ⟨(Nat.le_of_ble_eq_true rfl), (Nat.le_of_ble_eq_true rfl)⟩) hS (fun q _ h => hFc q h) hFc (fun r34 u t H1 locs ht hvm hw35 hB hz1 hk1 hS => ?_)
    obtain ⟨hP1, hD1⟩ := hB
    rw [ht] at hP1
    obtain ⟨hP, hD⟩ := va_join (wr := [(q 1, .inl ((cm 1), 1749, .inl (fun _ => 0)))]) (w1 := [(h0, .inr (15, mF q 1))]) hP hD [0] [1] rfl rfl (by decide) (by decide) hk1 hFc hP1 hD1
    generalize H1 = H at hP hS ⊢
    have hP : va_P (dC, dI) vwCl [(q 1, .inl ((cm 1), 1749, .inl (fun _ => 0))), (h0, .inr (15, mF q 1))] H := hP
    have hD : va_D A [(q 1, .inl ((cm 1), 1749, .inl (fun _ => 0))), (h0, .inr (15, mF q 1))] := hD
    try dsimp only at hw35
    obtain rfl : 1 = r34 := (hw35).symm
    refine lv_if_eq (tgt := 57) hx hb dX12_weather_52 (by decide) (fun c36 => absurd c36 (by decide)) (fun c36 => ?_)
    refine lv_iconst (v := 0) hx hb dX12_weather_55 (by decide) ?_
    exact W.iret (v := 0) hx hb hr (fun t ht hW => ⟨⟨0, (mF q 1), rfl, (by unfold T_weather1; rw [if_neg hc4]; (first | exact ⟨rfl, fun _ => rfl⟩ | exact ⟨rfl, fun h => absurd h (by decide)⟩)), by rw [ht]; exact hP.sub (ws' := [(h0, .inr (15, mF q 1))]) [1] rfl, hD.sub (ws' := [(h0, .inr (15, mF q 1))]) [1] (by decide) rfl⟩, hS.F ht⟩) hS.2.2 dX12_weather_56
def w_m_sky : List Cond := .code yX12_sky cX12_sky 3 (some .int) :: ([.fieldLink RX12 194 "SeaLandModel" "thrown" "I", .constant RX12 242 40000, .code yX12_in cX12_in 3 (some .boolean), .methodLink RX12 197 yX12_in, .static yX12_in, .initialized RX12, .code yX12_throwsIf cX12_throwsIf 3 (some .boolean), .methodLink RX12 224 yX12_throwsIf, .instanceMethod yX12_throwsIf, .selects RX12 yX12_throwsIf yX12_throwsIf, .code yX12_rain cX12_rain 3 (some .int), .code yX12_telling cX12_telling 6 (some .int), .fieldLink RX12 9 "SeaLandModel" "world" "[I", .methodLink RX12 243 yX12_telling, .instanceMethod yX12_telling, .selects RX12 yX12_telling yX12_telling, .methodLink RX12 253 yX12_rain, .instanceMethod yX12_rain, .selects RX12 yX12_rain yX12_rain, .code yX12_wind cX12_wind 7 (some .int), .methodLink RX12 250 yX12_wind, .instanceMethod yX12_wind, .selects RX12 yX12_wind yX12_wind, .code yX12_outside cX12_outside 4 (some .int), .methodLink RX12 247 yX12_outside, .instanceMethod yX12_outside, .selects RX12 yX12_outside yX12_outside] ++ bs)
set_option maxHeartbeats 4000000 in
set_option maxRecDepth 100000 in
theorem m_sky (l : Launch) (dC : Nat → ClassId) (dI : Nat → Nat → Nat) (h0 : Nat) (q : Nat → Nat) (cm : Nat → ClassId) (p0 p1 : Int32) (sz : Nat) : Met l yX12_sky w_m_sky ({ frames := 2, cells := 0, slots := 0, locals := 51 }) (va_Pc [.ref h0, .int p0, .int p1] (fun U => U.heap.size = sz ∧ va_P (dC, dI) vwCl [(h0, .inr (15, mF q 0)), (q 1, .inl ((cm 1), 1749, .inl (fun _ => 0)))] U.heap ∧ va_K (dC, dI) vwCl [((cm 1), .int)] U ∧ va_D (fun _ => True) [(h0, .inr (15, mF q 0)), (q 1, .inl ((cm 1), 1749, .inl (fun _ => 0)))])) (va_Qi (fun (r : Int32) (u : List Value) => u[0]? = some (.int (T_sky p0 p1).1) ∧ ((T_sky p0 p1).1 = 0 → r = (T_sky p0 p1).2)) (fun (fs : List Value) (t : State) => va_P (dC, dI) vwCl [(h0, .inr (15, fs))] t.heap ∧ va_D (va_A [(h0, .inr (15, mF q 0)), (q 1, .inl ((cm 1), 1749, .inl (fun _ => 0)))] sz) [(h0, .inr (15, fs))]) (va_A [(h0, .inr (15, mF q 0)), (q 1, .inl ((cm 1), 1749, .inl (fun _ => 0)))] sz)) 0 0 (va_A [(h0, .inr (15, mF q 0)), (q 1, .inl ((cm 1), 1749, .inl (fun _ => 0)))] sz) := by
  refine Met.ofW (cc := cX12_sky) (maxL := 3) (ret := (some .int)) (by decide) rfl ?_
  intro p e s m args below meth c s₁ B hml hv
  obtain ⟨rfl, hsz, hP, hK, hD0⟩ := hv
  have hx := B.exec
  have hb := B.bytes
  have hr := B.returns
  have hts := atoms_spec (ws := w_m_sky) B.pre
  have hown : s.vm.findClass RX12 = some m.cls := findClass_of_methodNamed B.named
  have hlocks := B.notSynchronized
  subst hsz
  have hD := hD0.self (sz := s.heap.size)
  generalize hAe : va_A [(h0, .inr (15, mF q 0)), (q 1, .inl ((cm 1), 1749, .inl (fun _ => 0)))] s.heap.size = A at hD ⊢
  have hA : ∀ q : Nat, s.heap.size ≤ q → A q := fun q h => by rw [← hAe]; exact Or.inr h
  have hS : va_S A s.heap s.heap [] := va_S.rf
  have hP : va_P (dC, dI) vwCl [(h0, .inr (15, mF q 0)), (q 1, .inl ((cm 1), 1749, .inl (fun _ => 0)))] s.heap := hP
  have hl := lv_entry ([.ref h0, .int p0, .int p1]) (n := 3) (Nat.le_of_ble_eq_true rfl)
  rw [lg_entry_eq]
  generalize (lg_sl ([.ref h0, .int p0, .int p1]) ++ List.replicate (3 - (lg_sl ([.ref h0, .int p0, .int p1])).length) Slot.unset).toArray = ls at hl ⊢
  have hl : lv_has ls 3 [(0, .ref h0), (1, .int p0), (2, .int p1)] := hl
  refine lv_aload_n hx hb dX12_sky_0 rfl (lv_at hl 0 rfl) ?_
  refine lv_iconst (v := 0) hx hb dX12_sky_1 (by decide) ?_
  refine va_put (D := (dC, dI)) (ci := 15) (v := .int 0) (ty := .int) (C := RX12) (T := TX12) (N := 78) hx hb hts bF_X12 tyX12 tyX12_ok nmX12 hown hK hP hD hS 0 rfl rfl 0 (by decide) (ht_at hts 0 rfl) (fun _ h9 => h9) rfl (by decide +kernel) rfl rfl (Nat.le_of_ble_eq_true rfl) dX12_sky_2 (fun H locs hP hD hS => ?_)
  have hP : va_P (dC, dI) vwCl [(h0, .inr (15, mF q 0)), (q 1, .inl ((cm 1), 1749, .inl (fun _ => 0)))] H := hP
  have hD : va_D A [(h0, .inr (15, mF q 0)), (q 1, .inl ((cm 1), 1749, .inl (fun _ => 0)))] := hD
  refine lv_aload_n hx hb dX12_sky_5 rfl (lv_at hl 0 rfl) ?_
  refine lv_iload_n hx hb dX12_sky_6 rfl (lv_at hl 1 rfl) ?_
  refine lv_iconst (v := 0) hx hb dX12_sky_7 (by decide) ?_
  refine lv_ldc (v := 40000) hx hb hown (ht_at hts 1 rfl) dX12_sky_8 ?_
  have hPc := hP.sub (ws' := []) [] rfl
  have hDc := hD.sub (ws' := []) [] (by decide) rfl
  have hKc := hK.sub (tys' := []) [] rfl
  have hFc := va_free (wc := []) hD hS hA [] rfl
  refine va_calli (va_runS (As := [.int p0, .int 0, .int 40000]) (rest := [.ref h0]) ⟨hx, hb, hml, hown, hts⟩ (c_min_ l dC dI p0 0 40000 H.size ) (va_cwS 3 hts (goodIn_app (goodIn_r _ [4, 5, 6] (by decide +kernel) (by decide +kernel)) (goodIn_ca (goodIn_r _ [3] (by decide +kernel) (by decide +kernel)) (bs_in _ _))) rfl rfl rfl (by decide +kernel) ⟨(Nat.le_of_ble_eq_true rfl), (Nat.le_of_ble_eq_true rfl)⟩) ⟨fun a U g mk q => by obtain ⟨q0, q1, qP, qK, qD⟩ := q; exact ⟨q0, q1, qP, va_K.moved (u := U) (U := U.calling g mk a) (Vm.Alike.refl U.vm) qK, qD⟩, fun U hU hW => ⟨rfl, by rw [hU], by rw [hU]; exact hPc, va_K.moved hW.alike hKc, hDc.weaken (fun _ _ _ _ => trivial)⟩⟩ rfl rfl hl.1 rfl (lv_room (Nat.le_of_ble_eq_true rfl)) dX12_sky_10 ⟨(Nat.le_of_ble_eq_true rfl), (Nat.le_of_ble_eq_true rfl)⟩) hS (fun q _ h => hFc q h) hFc (fun r2 u t H1 locs ht hvm hw3 hB hz1 hk1 hS => ?_)
  have hP1 : va_P (dC, dI) vwCl [] H1 := nilP
  have hD1 : va_D (va_A [] H.size) [] := nilD
  have hK := hK
  obtain ⟨hP, hD⟩ := va_join (wr := [(h0, .inr (15, mF q 0)), (q 1, .inl ((cm 1), 1749, .inl (fun _ => 0)))]) (w1 := []) hP hD [] [0, 1] rfl rfl (by decide) (by decide) hk1 hFc hP1 hD1
  generalize H1 = H at hP hS ⊢
  have hP : va_P (dC, dI) vwCl [(h0, .inr (15, mF q 0)), (q 1, .inl ((cm 1), 1749, .inl (fun _ => 0)))] H := hP
  have hD : va_D A [(h0, .inr (15, mF q 0)), (q 1, .inl ((cm 1), 1749, .inl (fun _ => 0)))] := hD
  try dsimp only at hw3
  by_cases hc4 : (0 : Int32) ≤ p0 ∧ p0 ≤ (40000 : Int32)
  · rw [if_pos hc4] at hw3
    subst hw3
    refine lv_if_eq (tgt := 25) hx hb dX12_sky_13 (by decide) (fun c5 => absurd c5 (by decide)) (fun c5 => ?_)
    refine lv_iload_n hx hb dX12_sky_16 rfl (lv_at hl 2 rfl) ?_
    refine lv_iconst (v := 0) hx hb dX12_sky_17 (by decide) ?_
    refine lv_iconst (v := 2) hx hb dX12_sky_18 (by decide) ?_
    have hPc := hP.sub (ws' := []) [] rfl
    have hDc := hD.sub (ws' := []) [] (by decide) rfl
    have hKc := hK.sub (tys' := []) [] rfl
    have hFc := va_free (wc := []) hD hS hA [] rfl
    refine va_calli (va_runS (As := [.int p1, .int 0, .int 2]) (rest := [.ref h0]) ⟨hx, hb, hml, hown, hts⟩ (c_min_ l dC dI p1 0 2 H.size ) (va_cwS 3 hts (goodIn_app (goodIn_r _ [4, 5, 6] (by decide +kernel) (by decide +kernel)) (goodIn_ca (goodIn_r _ [3] (by decide +kernel) (by decide +kernel)) (bs_in _ _))) rfl rfl rfl (by decide +kernel) ⟨(Nat.le_of_ble_eq_true rfl), (Nat.le_of_ble_eq_true rfl)⟩) ⟨fun a U g mk q => by obtain ⟨q0, q1, qP, qK, qD⟩ := q; exact ⟨q0, q1, qP, va_K.moved (u := U) (U := U.calling g mk a) (Vm.Alike.refl U.vm) qK, qD⟩, fun U hU hW => ⟨rfl, by rw [hU], by rw [hU]; exact hPc, va_K.moved hW.alike hKc, hDc.weaken (fun _ _ _ _ => trivial)⟩⟩ rfl rfl hl.1 rfl (lv_room (Nat.le_of_ble_eq_true rfl)) dX12_sky_19 ⟨(Nat.le_of_ble_eq_true rfl), (Nat.le_of_ble_eq_true rfl)⟩) hS (fun q _ h => hFc q h) hFc (fun r7 u t H1 locs ht hvm hw8 hB hz1 hk1 hS => ?_)
    have hP1 : va_P (dC, dI) vwCl [] H1 := nilP
    have hD1 : va_D (va_A [] H.size) [] := nilD
    have hK := hK
    obtain ⟨hP, hD⟩ := va_join (wr := [(h0, .inr (15, mF q 0)), (q 1, .inl ((cm 1), 1749, .inl (fun _ => 0)))]) (w1 := []) hP hD [] [0, 1] rfl rfl (by decide) (by decide) hk1 hFc hP1 hD1
    generalize H1 = H at hP hS ⊢
    have hP : va_P (dC, dI) vwCl [(h0, .inr (15, mF q 0)), (q 1, .inl ((cm 1), 1749, .inl (fun _ => 0)))] H := hP
    have hD : va_D A [(h0, .inr (15, mF q 0)), (q 1, .inl ((cm 1), 1749, .inl (fun _ => 0)))] := hD
    try dsimp only at hw8
    by_cases hc9 : (0 : Int32) ≤ p1 ∧ p1 ≤ (2 : Int32)
    · rw [if_pos hc9] at hw8
      subst hw8
      refine lv_if_ne (tgt := 29) hx hb dX12_sky_22 (by decide) (fun c10 => ?_) (fun c10 => absurd c10 (by decide))
      refine lv_iconst (v := 0) hx hb dX12_sky_29 (by decide) ?_
      refine lv_iconst (v := 1) hx hb dX12_sky_30 (by decide) ?_
      have hPc := hP.sub (ws' := [(h0, .inr (15, mF q 0))]) [0] rfl
      have hDc := hD.sub (ws' := [(h0, .inr (15, mF q 0))]) [0] (by decide) rfl
      have hKc := hK.sub (tys' := []) [] rfl
      have hFc := va_free (wc := [(h0, .inr (15, mF q 0))]) hD hS hA [0] rfl
      refine va_calli (va_runV (As := [.int 0, .int 1]) (rest := []) ⟨hx, hb, hml, hown, hts⟩ (c_m_throwsIf0 l dC dI h0 (mF q 0) 1 H.size ) (cwV 2 hts (goodIn_app (goodIn_r _ [8, 9, 10, 6] (by decide +kernel) (by decide +kernel)) (goodIn_ca (goodIn_r _ [7] (by decide +kernel) (by decide +kernel)) (bs_in _ _))) rfl rfl rfl (by decide +kernel) ⟨(Nat.le_of_ble_eq_true rfl), (Nat.le_of_ble_eq_true rfl)⟩) ⟨fun a U g mk q => by obtain ⟨q0, q1, qP, qK, qD⟩ := q; exact ⟨q0, q1, qP, va_K.moved (u := U) (U := U.calling g mk a) (Vm.Alike.refl U.vm) qK, qD⟩, va_recv hKc hPc (ci := 15) (q0 := 0) rfl rfl, fun U hU hW => ⟨rfl, by rw [hU], by rw [hU]; exact hPc, va_K.moved hW.alike hKc, hDc.weaken (fun _ _ _ _ => trivial)⟩⟩ rfl rfl hl.1 rfl (lv_room (Nat.le_of_ble_eq_true rfl)) dX12_sky_31 ⟨(Nat.le_of_ble_eq_true rfl), (Nat.le_of_ble_eq_true rfl)⟩) hS (fun q _ h => hFc q h) hFc (fun r12 u t H1 locs ht hvm hw13 hB hz1 hk1 hS => ?_)
      obtain ⟨hP1, hD1⟩ := hB
      rw [ht] at hP1
      obtain ⟨hP, hD⟩ := va_join (wr := [(q 1, .inl ((cm 1), 1749, .inl (fun _ => 0)))]) (w1 := [(h0, .inr (15, mF q 0))]) hP hD [0] [1] rfl rfl (by decide) (by decide) hk1 hFc hP1 hD1
      generalize H1 = H at hP hS ⊢
      have hP : va_P (dC, dI) vwCl [(q 1, .inl ((cm 1), 1749, .inl (fun _ => 0))), (h0, .inr (15, mF q 0))] H := hP
      have hD : va_D A [(q 1, .inl ((cm 1), 1749, .inl (fun _ => 0))), (h0, .inr (15, mF q 0))] := hD
      try dsimp only at hw13
      obtain rfl : 0 = r12 := (hw13).symm
      refine lv_if_eq (tgt := 39) hx hb dX12_sky_34 (by decide) (fun c14 => ?_) (fun c14 => absurd c14 (by decide))
      refine lv_iload_n hx hb dX12_sky_39 rfl (lv_at hl 2 rfl) ?_
      refine lv_if_ne (tgt := 51) hx hb dX12_sky_40 (by decide) (fun c15 => ?_) (fun c15 => ?_)
      · refine lv_iload_n hx hb dX12_sky_51 rfl (lv_at hl 2 rfl) ?_
        refine lv_iconst (v := 1) hx hb dX12_sky_52 (by decide) ?_
        refine lv_icmp_ne (tgt := 64) hx hb dX12_sky_53 (by decide) (fun c16 => ?_) (fun c16 => ?_)
        · refine lv_aload_n hx hb dX12_sky_64 rfl (lv_at hl 0 rfl) ?_
          refine lv_iload_n hx hb dX12_sky_65 rfl (lv_at hl 1 rfl) ?_
          have hPc := hP.sub (ws' := [(h0, .inr (15, mF q 0)), (q 1, .inl ((cm 1), 1749, .inl (fun _ => 0)))]) [1, 0] rfl
          have hDc := hD.sub (ws' := [(h0, .inr (15, mF q 0)), (q 1, .inl ((cm 1), 1749, .inl (fun _ => 0)))]) [1, 0] (by decide) rfl
          have hKc := hK.sub (tys' := [((cm 1), .int)]) [0] rfl
          have hFc := va_free (wc := [(h0, .inr (15, mF q 0)), (q 1, .inl ((cm 1), 1749, .inl (fun _ => 0)))]) hD hS hA [1, 0] rfl
          refine va_calli (va_runV (As := [.int p0]) (rest := []) ⟨hx, hb, hml, hown, hts⟩ (m_rain l dC dI h0 q cm p0 H.size ) (cwV 1 hts (goodIn_app (goodIn_r _ [17, 18, 19, 6] (by decide +kernel) (by decide +kernel)) (goodIn_ca (goodIn_r _ [11, 12, 13, 14, 15, 16, 6] (by decide +kernel) (by decide +kernel)) (bs_in _ _))) rfl rfl rfl (by decide +kernel) ⟨(Nat.le_of_ble_eq_true rfl), (Nat.le_of_ble_eq_true rfl)⟩) ⟨fun a U g mk q => by obtain ⟨q0, q1, qP, qK, qD⟩ := q; exact ⟨q0, q1, qP, va_K.moved (u := U) (U := U.calling g mk a) (Vm.Alike.refl U.vm) qK, qD⟩, va_recv hKc hPc (ci := 15) (q0 := 0) rfl rfl, fun U hU hW => ⟨rfl, by rw [hU], by rw [hU]; exact hPc, va_K.moved hW.alike hKc, hDc.weaken (fun _ _ _ _ => trivial)⟩⟩ rfl rfl hl.1 rfl (lv_room (Nat.le_of_ble_eq_true rfl)) dX12_sky_66 ⟨(Nat.le_of_ble_eq_true rfl), (Nat.le_of_ble_eq_true rfl)⟩) hS (fun q _ h => hFc q h) hFc (fun r18 u t H1 locs ht hvm hw19 hB hz1 hk1 hS => ?_)
          obtain ⟨hP1, hD1⟩ := hB
          rw [ht] at hP1
          obtain ⟨hP, hD⟩ := va_join (wr := []) (w1 := [(h0, .inr (15, mF q 0)), (q 1, .inl ((cm 1), 1749, .inl (fun _ => 0)))]) hP hD [1, 0] [] rfl rfl (by decide) (by decide) hk1 hFc hP1 hD1
          generalize H1 = H at hP hS ⊢
          have hP : va_P (dC, dI) vwCl [(h0, .inr (15, mF q 0)), (q 1, .inl ((cm 1), 1749, .inl (fun _ => 0)))] H := hP
          have hD : va_D A [(h0, .inr (15, mF q 0)), (q 1, .inl ((cm 1), 1749, .inl (fun _ => 0)))] := hD
          try dsimp only at hw19
          obtain rfl : 0 = r18 := (hw19).symm
          exact W.iret (v := 0) hx hb hr (fun t ht hW => ⟨⟨0, (mF q 0), rfl, (by unfold T_sky; rw [if_pos hc4, if_pos hc9]; (first | exact ⟨rfl, fun _ => rfl⟩ | exact ⟨rfl, fun h => absurd h (by decide)⟩)), by rw [ht]; exact hP.sub (ws' := [(h0, .inr (15, mF q 0))]) [0] rfl, hD.sub (ws' := [(h0, .inr (15, mF q 0))]) [0] (by decide) rfl⟩, hS.F ht⟩) hS.2.2 dX12_sky_69
        · refine lv_aload_n hx hb dX12_sky_56 rfl (lv_at hl 0 rfl) ?_
          refine lv_iload_n hx hb dX12_sky_57 rfl (lv_at hl 1 rfl) ?_
          have hPc := hP.sub (ws' := [(h0, .inr (15, mF q 0)), (q 1, .inl ((cm 1), 1749, .inl (fun _ => 0)))]) [1, 0] rfl
          have hDc := hD.sub (ws' := [(h0, .inr (15, mF q 0)), (q 1, .inl ((cm 1), 1749, .inl (fun _ => 0)))]) [1, 0] (by decide) rfl
          have hKc := hK.sub (tys' := [((cm 1), .int)]) [0] rfl
          have hFc := va_free (wc := [(h0, .inr (15, mF q 0)), (q 1, .inl ((cm 1), 1749, .inl (fun _ => 0)))]) hD hS hA [1, 0] rfl
          refine va_calli (va_runV (As := [.int p0]) (rest := []) ⟨hx, hb, hml, hown, hts⟩ (m_wind l dC dI h0 q cm p0 H.size ) (cwV 1 hts (goodIn_app (goodIn_r _ [21, 22, 23, 6] (by decide +kernel) (by decide +kernel)) (goodIn_ca (goodIn_r _ [20, 12, 13, 14, 15, 16, 6] (by decide +kernel) (by decide +kernel)) (bs_in _ _))) rfl rfl rfl (by decide +kernel) ⟨(Nat.le_of_ble_eq_true rfl), (Nat.le_of_ble_eq_true rfl)⟩) ⟨fun a U g mk q => by obtain ⟨q0, q1, qP, qK, qD⟩ := q; exact ⟨q0, q1, qP, va_K.moved (u := U) (U := U.calling g mk a) (Vm.Alike.refl U.vm) qK, qD⟩, va_recv hKc hPc (ci := 15) (q0 := 0) rfl rfl, fun U hU hW => ⟨rfl, by rw [hU], by rw [hU]; exact hPc, va_K.moved hW.alike hKc, hDc.weaken (fun _ _ _ _ => trivial)⟩⟩ rfl rfl hl.1 rfl (lv_room (Nat.le_of_ble_eq_true rfl)) dX12_sky_58 ⟨(Nat.le_of_ble_eq_true rfl), (Nat.le_of_ble_eq_true rfl)⟩) hS (fun q _ h => hFc q h) hFc (fun r21 u t H1 locs ht hvm hw22 hB hz1 hk1 hS => ?_)
          obtain ⟨hP1, hD1⟩ := hB
          rw [ht] at hP1
          obtain ⟨hP, hD⟩ := va_join (wr := []) (w1 := [(h0, .inr (15, mF q 0)), (q 1, .inl ((cm 1), 1749, .inl (fun _ => 0)))]) hP hD [1, 0] [] rfl rfl (by decide) (by decide) hk1 hFc hP1 hD1
          generalize H1 = H at hP hS ⊢
          have hP : va_P (dC, dI) vwCl [(h0, .inr (15, mF q 0)), (q 1, .inl ((cm 1), 1749, .inl (fun _ => 0)))] H := hP
          have hD : va_D A [(h0, .inr (15, mF q 0)), (q 1, .inl ((cm 1), 1749, .inl (fun _ => 0)))] := hD
          try dsimp only at hw22
          obtain rfl : 0 = r21 := (hw22).symm
          refine lv_goto (tgt := 69) hx hb dX12_sky_61 (by decide) ?_
          exact W.iret (v := 0) hx hb hr (fun t ht hW => ⟨⟨0, (mF q 0), rfl, (by unfold T_sky; rw [if_pos hc4, if_pos hc9]; (first | exact ⟨rfl, fun _ => rfl⟩ | exact ⟨rfl, fun h => absurd h (by decide)⟩)), by rw [ht]; exact hP.sub (ws' := [(h0, .inr (15, mF q 0))]) [0] rfl, hD.sub (ws' := [(h0, .inr (15, mF q 0))]) [0] (by decide) rfl⟩, hS.F ht⟩) hS.2.2 dX12_sky_69
      · refine lv_aload_n hx hb dX12_sky_43 rfl (lv_at hl 0 rfl) ?_
        refine lv_iload_n hx hb dX12_sky_44 rfl (lv_at hl 1 rfl) ?_
        have hPc := hP.sub (ws' := [(h0, .inr (15, mF q 0)), (q 1, .inl ((cm 1), 1749, .inl (fun _ => 0)))]) [1, 0] rfl
        have hDc := hD.sub (ws' := [(h0, .inr (15, mF q 0)), (q 1, .inl ((cm 1), 1749, .inl (fun _ => 0)))]) [1, 0] (by decide) rfl
        have hKc := hK.sub (tys' := [((cm 1), .int)]) [0] rfl
        have hFc := va_free (wc := [(h0, .inr (15, mF q 0)), (q 1, .inl ((cm 1), 1749, .inl (fun _ => 0)))]) hD hS hA [1, 0] rfl
        refine va_calli (va_runV (As := [.int p0]) (rest := []) ⟨hx, hb, hml, hown, hts⟩ (m_outside l dC dI h0 q cm p0 H.size hc4.1) (cwV 1 hts (goodIn_app (goodIn_r _ [25, 26, 27, 6] (by decide +kernel) (by decide +kernel)) (goodIn_ca (goodIn_r _ [24, 13] (by decide +kernel) (by decide +kernel)) (bs_in _ _))) rfl rfl rfl (by decide +kernel) ⟨(Nat.le_of_ble_eq_true rfl), (Nat.le_of_ble_eq_true rfl)⟩) ⟨fun a U g mk q => by obtain ⟨q0, q1, qP, qK, qD⟩ := q; exact ⟨q0, q1, qP, va_K.moved (u := U) (U := U.calling g mk a) (Vm.Alike.refl U.vm) qK, qD⟩, va_recv hKc hPc (ci := 15) (q0 := 0) rfl rfl, fun U hU hW => ⟨rfl, by rw [hU], by rw [hU]; exact hPc, va_K.moved hW.alike hKc, hDc.weaken (fun _ _ _ _ => trivial)⟩⟩ rfl rfl hl.1 rfl (lv_room (Nat.le_of_ble_eq_true rfl)) dX12_sky_45 ⟨(Nat.le_of_ble_eq_true rfl), (Nat.le_of_ble_eq_true rfl)⟩) hS (fun q _ h => hFc q h) hFc (fun r24 u t H1 locs ht hvm hw25 hB hz1 hk1 hS => ?_)
        obtain ⟨hP1, hD1⟩ := hB
        rw [ht] at hP1
        obtain ⟨hP, hD⟩ := va_join (wr := []) (w1 := [(h0, .inr (15, mF q 0)), (q 1, .inl ((cm 1), 1749, .inl (fun _ => 0)))]) hP hD [1, 0] [] rfl rfl (by decide) (by decide) hk1 hFc hP1 hD1
        generalize H1 = H at hP hS ⊢
        have hP : va_P (dC, dI) vwCl [(h0, .inr (15, mF q 0)), (q 1, .inl ((cm 1), 1749, .inl (fun _ => 0)))] H := hP
        have hD : va_D A [(h0, .inr (15, mF q 0)), (q 1, .inl ((cm 1), 1749, .inl (fun _ => 0)))] := hD
        try dsimp only at hw25
        obtain rfl : 0 = r24 := (hw25).symm
        refine lv_goto (tgt := 69) hx hb dX12_sky_48 (by decide) ?_
        exact W.iret (v := 0) hx hb hr (fun t ht hW => ⟨⟨0, (mF q 0), rfl, (by unfold T_sky; rw [if_pos hc4, if_pos hc9]; (first | exact ⟨rfl, fun _ => rfl⟩ | exact ⟨rfl, fun h => absurd h (by decide)⟩)), by rw [ht]; exact hP.sub (ws' := [(h0, .inr (15, mF q 0))]) [0] rfl, hD.sub (ws' := [(h0, .inr (15, mF q 0))]) [0] (by decide) rfl⟩, hS.F ht⟩) hS.2.2 dX12_sky_69
    · rw [if_neg hc9] at hw8
      subst hw8
      refine lv_if_ne (tgt := 29) hx hb dX12_sky_22 (by decide) (fun c26 => absurd c26 (by decide)) (fun c26 => ?_)
      refine lv_iconst (v := 1) hx hb dX12_sky_25 (by decide) ?_
      refine lv_goto (tgt := 30) hx hb dX12_sky_26 (by decide) ?_
      refine lv_iconst (v := 1) hx hb dX12_sky_30 (by decide) ?_
      have hPc := hP.sub (ws' := [(h0, .inr (15, mF q 0))]) [0] rfl
      have hDc := hD.sub (ws' := [(h0, .inr (15, mF q 0))]) [0] (by decide) rfl
      have hKc := hK.sub (tys' := []) [] rfl
      have hFc := va_free (wc := [(h0, .inr (15, mF q 0))]) hD hS hA [0] rfl
      refine va_calli (va_runV (As := [.int 1, .int 1]) (rest := []) ⟨hx, hb, hml, hown, hts⟩ (c_m_throwsIf1 l dC dI h0 (mF q 0) 1 H.size rfl) (cwV 2 hts (goodIn_app (goodIn_r _ [8, 9, 10, 6] (by decide +kernel) (by decide +kernel)) (goodIn_ca (goodIn_r _ [7, 1] (by decide +kernel) (by decide +kernel)) (bs_in _ _))) rfl rfl rfl (by decide +kernel) ⟨(Nat.le_of_ble_eq_true rfl), (Nat.le_of_ble_eq_true rfl)⟩) ⟨fun a U g mk q => by obtain ⟨q0, q1, qP, qK, qD⟩ := q; exact ⟨q0, q1, qP, va_K.moved (u := U) (U := U.calling g mk a) (Vm.Alike.refl U.vm) qK, qD⟩, va_recv hKc hPc (ci := 15) (q0 := 0) rfl rfl, fun U hU hW => ⟨rfl, by rw [hU], by rw [hU]; exact hPc, va_K.moved hW.alike hKc, hDc.weaken (fun _ _ _ _ => trivial)⟩⟩ rfl rfl hl.1 rfl (lv_room (Nat.le_of_ble_eq_true rfl)) dX12_sky_31 ⟨(Nat.le_of_ble_eq_true rfl), (Nat.le_of_ble_eq_true rfl)⟩) hS (fun q _ h => hFc q h) hFc (fun r28 u t H1 locs ht hvm hw29 hB hz1 hk1 hS => ?_)
      obtain ⟨hP1, hD1⟩ := hB
      rw [ht] at hP1
      obtain ⟨hP, hD⟩ := va_join (wr := [(q 1, .inl ((cm 1), 1749, .inl (fun _ => 0)))]) (w1 := [(h0, .inr (15, mF q 1))]) hP hD [0] [1] rfl rfl (by decide) (by decide) hk1 hFc hP1 hD1
      generalize H1 = H at hP hS ⊢
      have hP : va_P (dC, dI) vwCl [(q 1, .inl ((cm 1), 1749, .inl (fun _ => 0))), (h0, .inr (15, mF q 1))] H := hP
      have hD : va_D A [(q 1, .inl ((cm 1), 1749, .inl (fun _ => 0))), (h0, .inr (15, mF q 1))] := hD
      try dsimp only at hw29
      obtain rfl : 1 = r28 := (hw29).symm
      refine lv_if_eq (tgt := 39) hx hb dX12_sky_34 (by decide) (fun c30 => absurd c30 (by decide)) (fun c30 => ?_)
      refine lv_iconst (v := 0) hx hb dX12_sky_37 (by decide) ?_
      exact W.iret (v := 0) hx hb hr (fun t ht hW => ⟨⟨0, (mF q 1), rfl, (by unfold T_sky; rw [if_pos hc4, if_neg hc9]; (first | exact ⟨rfl, fun _ => rfl⟩ | exact ⟨rfl, fun h => absurd h (by decide)⟩)), by rw [ht]; exact hP.sub (ws' := [(h0, .inr (15, mF q 1))]) [1] rfl, hD.sub (ws' := [(h0, .inr (15, mF q 1))]) [1] (by decide) rfl⟩, hS.F ht⟩) hS.2.2 dX12_sky_38
  · rw [if_neg hc4] at hw3
    subst hw3
    refine lv_if_eq (tgt := 25) hx hb dX12_sky_13 (by decide) (fun c31 => ?_) (fun c31 => absurd c31 (by decide))
    refine lv_iconst (v := 1) hx hb dX12_sky_25 (by decide) ?_
    refine lv_goto (tgt := 30) hx hb dX12_sky_26 (by decide) ?_
    refine lv_iconst (v := 1) hx hb dX12_sky_30 (by decide) ?_
    have hPc := hP.sub (ws' := [(h0, .inr (15, mF q 0))]) [0] rfl
    have hDc := hD.sub (ws' := [(h0, .inr (15, mF q 0))]) [0] (by decide) rfl
    have hKc := hK.sub (tys' := []) [] rfl
    have hFc := va_free (wc := [(h0, .inr (15, mF q 0))]) hD hS hA [0] rfl
    refine va_calli (va_runV (As := [.int 1, .int 1]) (rest := []) ⟨hx, hb, hml, hown, hts⟩ (c_m_throwsIf1 l dC dI h0 (mF q 0) 1 H.size rfl) (cwV 2 hts (goodIn_app (goodIn_r _ [8, 9, 10, 6] (by decide +kernel) (by decide +kernel)) (goodIn_ca (goodIn_r _ [7, 1] (by decide +kernel) (by decide +kernel)) (bs_in _ _))) rfl rfl rfl (by decide +kernel) ⟨(Nat.le_of_ble_eq_true rfl), (Nat.le_of_ble_eq_true rfl)⟩) ⟨fun a U g mk q => by obtain ⟨q0, q1, qP, qK, qD⟩ := q; exact ⟨q0, q1, qP, va_K.moved (u := U) (U := U.calling g mk a) (Vm.Alike.refl U.vm) qK, qD⟩, va_recv hKc hPc (ci := 15) (q0 := 0) rfl rfl, fun U hU hW => ⟨rfl, by rw [hU], by rw [hU]; exact hPc, va_K.moved hW.alike hKc, hDc.weaken (fun _ _ _ _ => trivial)⟩⟩ rfl rfl hl.1 rfl (lv_room (Nat.le_of_ble_eq_true rfl)) dX12_sky_31 ⟨(Nat.le_of_ble_eq_true rfl), (Nat.le_of_ble_eq_true rfl)⟩) hS (fun q _ h => hFc q h) hFc (fun r33 u t H1 locs ht hvm hw34 hB hz1 hk1 hS => ?_)
    obtain ⟨hP1, hD1⟩ := hB
    rw [ht] at hP1
    obtain ⟨hP, hD⟩ := va_join (wr := [(q 1, .inl ((cm 1), 1749, .inl (fun _ => 0)))]) (w1 := [(h0, .inr (15, mF q 1))]) hP hD [0] [1] rfl rfl (by decide) (by decide) hk1 hFc hP1 hD1
    generalize H1 = H at hP hS ⊢
    have hP : va_P (dC, dI) vwCl [(q 1, .inl ((cm 1), 1749, .inl (fun _ => 0))), (h0, .inr (15, mF q 1))] H := hP
    have hD : va_D A [(q 1, .inl ((cm 1), 1749, .inl (fun _ => 0))), (h0, .inr (15, mF q 1))] := hD
    try dsimp only at hw34
    obtain rfl : 1 = r33 := (hw34).symm
    refine lv_if_eq (tgt := 39) hx hb dX12_sky_34 (by decide) (fun c35 => absurd c35 (by decide)) (fun c35 => ?_)
    refine lv_iconst (v := 0) hx hb dX12_sky_37 (by decide) ?_
    exact W.iret (v := 0) hx hb hr (fun t ht hW => ⟨⟨0, (mF q 1), rfl, (by unfold T_sky; rw [if_neg hc4]; (first | exact ⟨rfl, fun _ => rfl⟩ | exact ⟨rfl, fun h => absurd h (by decide)⟩)), by rw [ht]; exact hP.sub (ws' := [(h0, .inr (15, mF q 1))]) [1] rfl, hD.sub (ws' := [(h0, .inr (15, mF q 1))]) [1] (by decide) rfl⟩, hS.F ht⟩) hS.2.2 dX12_sky_38
def w_m_dike : List Cond := .code yX12_dike cX12_dike 5 (some .int) :: ([.fieldLink RX12 194 "SeaLandModel" "thrown" "I", .code yX12_noSquare cX12_noSquare 1 (some .boolean), .code yX12_in cX12_in 3 (some .boolean), .methodLink RX12 197 yX12_in, .static yX12_in, .initialized RX12, .methodLink RX12 220 yX12_noSquare, .static yX12_noSquare, .code yX12_throwsIf cX12_throwsIf 3 (some .boolean), .methodLink RX12 224 yX12_throwsIf, .instanceMethod yX12_throwsIf, .selects RX12 yX12_throwsIf yX12_throwsIf, .fieldLink RX12 9 "SeaLandModel" "world" "[I", .code yX12_noPlace cX12_noPlace 2 (some .boolean), .code yX12_isLand cX12_isLand 2 (some .boolean), .methodLink RX12 235 yX12_isLand, .instanceMethod yX12_isLand, .selects RX12 yX12_isLand yX12_isLand, .methodLink RX12 259 yX12_noPlace, .instanceMethod yX12_noPlace, .selects RX12 yX12_noPlace yX12_noPlace] ++ bs)
set_option maxHeartbeats 4000000 in
set_option maxRecDepth 100000 in
theorem m_dike (l : Launch) (dC : Nat → ClassId) (dI : Nat → Nat → Nat) (h0 : Nat) (q : Nat → Nat) (cm : Nat → ClassId) (p0 p1 p2 p3 : Int32) (sz : Nat) : Met l yX12_dike w_m_dike ({ frames := 2, cells := 0, slots := 0, locals := 42 }) (va_Pc [.ref h0, .int p0, .int p1, .int p2, .int p3] (fun U => U.heap.size = sz ∧ va_P (dC, dI) vwCl [(h0, .inr (15, mF q 0)), (q 1, .inl ((cm 1), 1749, .inl (fun _ => 0)))] U.heap ∧ va_K (dC, dI) vwCl [((cm 1), .int)] U ∧ va_D (fun _ => True) [(h0, .inr (15, mF q 0)), (q 1, .inl ((cm 1), 1749, .inl (fun _ => 0)))])) (va_Qi (fun (r : Int32) (u : List Value) => u[0]? = some (.int (T_dike p0 p1 p2 p3).1) ∧ ((T_dike p0 p1 p2 p3).1 = 0 → r = (T_dike p0 p1 p2 p3).2)) (fun (fs : List Value) (t : State) => va_P (dC, dI) vwCl [(h0, .inr (15, fs))] t.heap ∧ va_D (va_A [(h0, .inr (15, mF q 0)), (q 1, .inl ((cm 1), 1749, .inl (fun _ => 0)))] sz) [(h0, .inr (15, fs))]) (va_A [(h0, .inr (15, mF q 0)), (q 1, .inl ((cm 1), 1749, .inl (fun _ => 0)))] sz)) 0 0 (va_A [(h0, .inr (15, mF q 0)), (q 1, .inl ((cm 1), 1749, .inl (fun _ => 0)))] sz) := by
  refine Met.ofW (cc := cX12_dike) (maxL := 5) (ret := (some .int)) (by decide) rfl ?_
  intro p e s m args below meth c s₁ B hml hv
  obtain ⟨rfl, hsz, hP, hK, hD0⟩ := hv
  have hx := B.exec
  have hb := B.bytes
  have hr := B.returns
  have hts := atoms_spec (ws := w_m_dike) B.pre
  have hown : s.vm.findClass RX12 = some m.cls := findClass_of_methodNamed B.named
  have hlocks := B.notSynchronized
  subst hsz
  have hD := hD0.self (sz := s.heap.size)
  generalize hAe : va_A [(h0, .inr (15, mF q 0)), (q 1, .inl ((cm 1), 1749, .inl (fun _ => 0)))] s.heap.size = A at hD ⊢
  have hA : ∀ q : Nat, s.heap.size ≤ q → A q := fun q h => by rw [← hAe]; exact Or.inr h
  have hS : va_S A s.heap s.heap [] := va_S.rf
  have hP : va_P (dC, dI) vwCl [(h0, .inr (15, mF q 0)), (q 1, .inl ((cm 1), 1749, .inl (fun _ => 0)))] s.heap := hP
  have hl := lv_entry ([.ref h0, .int p0, .int p1, .int p2, .int p3]) (n := 5) (Nat.le_of_ble_eq_true rfl)
  rw [lg_entry_eq]
  generalize (lg_sl ([.ref h0, .int p0, .int p1, .int p2, .int p3]) ++ List.replicate (5 - (lg_sl ([.ref h0, .int p0, .int p1, .int p2, .int p3])).length) Slot.unset).toArray = ls at hl ⊢
  have hl : lv_has ls 5 [(0, .ref h0), (1, .int p0), (2, .int p1), (3, .int p2), (4, .int p3)] := hl
  refine lv_aload_n hx hb dX12_dike_0 rfl (lv_at hl 0 rfl) ?_
  refine lv_iconst (v := 0) hx hb dX12_dike_1 (by decide) ?_
  refine va_put (D := (dC, dI)) (ci := 15) (v := .int 0) (ty := .int) (C := RX12) (T := TX12) (N := 78) hx hb hts bF_X12 tyX12 tyX12_ok nmX12 hown hK hP hD hS 0 rfl rfl 0 (by decide) (ht_at hts 0 rfl) (fun _ h9 => h9) rfl (by decide +kernel) rfl rfl (Nat.le_of_ble_eq_true rfl) dX12_dike_2 (fun H locs hP hD hS => ?_)
  have hP : va_P (dC, dI) vwCl [(h0, .inr (15, mF q 0)), (q 1, .inl ((cm 1), 1749, .inl (fun _ => 0)))] H := hP
  have hD : va_D A [(h0, .inr (15, mF q 0)), (q 1, .inl ((cm 1), 1749, .inl (fun _ => 0)))] := hD
  refine lv_aload_n hx hb dX12_dike_5 rfl (lv_at hl 0 rfl) ?_
  refine lv_iload_n hx hb dX12_dike_6 rfl (lv_at hl 1 rfl) ?_
  have hPc := hP.sub (ws' := []) [] rfl
  have hDc := hD.sub (ws' := []) [] (by decide) rfl
  have hKc := hK.sub (tys' := []) [] rfl
  have hFc := va_free (wc := []) hD hS hA [] rfl
  refine va_calli (va_runS (As := [.int p0]) (rest := [.ref h0]) ⟨hx, hb, hml, hown, hts⟩ (c_m_noSquare l dC dI p0 H.size ) (va_cwS 1 hts (goodIn_app (goodIn_r _ [7, 8, 6] (by decide +kernel) (by decide +kernel)) (goodIn_ca (goodIn_r _ [2, 3, 4, 5, 6] (by decide +kernel) (by decide +kernel)) (bs_in _ _))) rfl rfl rfl (by decide +kernel) ⟨(Nat.le_of_ble_eq_true rfl), (Nat.le_of_ble_eq_true rfl)⟩) ⟨fun a U g mk q => by obtain ⟨q0, q1, qP, qK, qD⟩ := q; exact ⟨q0, q1, qP, va_K.moved (u := U) (U := U.calling g mk a) (Vm.Alike.refl U.vm) qK, qD⟩, fun U hU hW => ⟨rfl, by rw [hU], by rw [hU]; exact hPc, va_K.moved hW.alike hKc, hDc.weaken (fun _ _ _ _ => trivial)⟩⟩ rfl rfl hl.1 rfl (lv_room (Nat.le_of_ble_eq_true rfl)) dX12_dike_7 ⟨(Nat.le_of_ble_eq_true rfl), (Nat.le_of_ble_eq_true rfl)⟩) hS (fun q _ h => hFc q h) hFc (fun r2 u t H1 locs ht hvm hw3 hB hz1 hk1 hS => ?_)
  have hP1 : va_P (dC, dI) vwCl [] H1 := nilP
  have hD1 : va_D (va_A [] H.size) [] := nilD
  have hK := hK
  obtain ⟨hP, hD⟩ := va_join (wr := [(h0, .inr (15, mF q 0)), (q 1, .inl ((cm 1), 1749, .inl (fun _ => 0)))]) (w1 := []) hP hD [] [0, 1] rfl rfl (by decide) (by decide) hk1 hFc hP1 hD1
  generalize H1 = H at hP hS ⊢
  have hP : va_P (dC, dI) vwCl [(h0, .inr (15, mF q 0)), (q 1, .inl ((cm 1), 1749, .inl (fun _ => 0)))] H := hP
  have hD : va_D A [(h0, .inr (15, mF q 0)), (q 1, .inl ((cm 1), 1749, .inl (fun _ => 0)))] := hD
  try dsimp only at hw3
  by_cases hc4 : 0 ≤ p0 ∧ p0 ≤ 95
  · rw [if_pos hc4] at hw3
    subst hw3
    refine lv_if_ne (tgt := 27) hx hb dX12_dike_10 (by decide) (fun c5 => absurd c5 (by decide)) (fun c5 => ?_)
    refine lv_iload_n hx hb dX12_dike_13 rfl (lv_at hl 2 rfl) ?_
    have hPc := hP.sub (ws' := []) [] rfl
    have hDc := hD.sub (ws' := []) [] (by decide) rfl
    have hKc := hK.sub (tys' := []) [] rfl
    have hFc := va_free (wc := []) hD hS hA [] rfl
    refine va_calli (va_runS (As := [.int p1]) (rest := [.ref h0]) ⟨hx, hb, hml, hown, hts⟩ (c_m_noSquare l dC dI p1 H.size ) (va_cwS 1 hts (goodIn_app (goodIn_r _ [7, 8, 6] (by decide +kernel) (by decide +kernel)) (goodIn_ca (goodIn_r _ [2, 3, 4, 5, 6] (by decide +kernel) (by decide +kernel)) (bs_in _ _))) rfl rfl rfl (by decide +kernel) ⟨(Nat.le_of_ble_eq_true rfl), (Nat.le_of_ble_eq_true rfl)⟩) ⟨fun a U g mk q => by obtain ⟨q0, q1, qP, qK, qD⟩ := q; exact ⟨q0, q1, qP, va_K.moved (u := U) (U := U.calling g mk a) (Vm.Alike.refl U.vm) qK, qD⟩, fun U hU hW => ⟨rfl, by rw [hU], by rw [hU]; exact hPc, va_K.moved hW.alike hKc, hDc.weaken (fun _ _ _ _ => trivial)⟩⟩ rfl rfl hl.1 rfl (lv_room (Nat.le_of_ble_eq_true rfl)) dX12_dike_14 ⟨(Nat.le_of_ble_eq_true rfl), (Nat.le_of_ble_eq_true rfl)⟩) hS (fun q _ h => hFc q h) hFc (fun r7 u t H1 locs ht hvm hw8 hB hz1 hk1 hS => ?_)
    have hP1 : va_P (dC, dI) vwCl [] H1 := nilP
    have hD1 : va_D (va_A [] H.size) [] := nilD
    have hK := hK
    obtain ⟨hP, hD⟩ := va_join (wr := [(h0, .inr (15, mF q 0)), (q 1, .inl ((cm 1), 1749, .inl (fun _ => 0)))]) (w1 := []) hP hD [] [0, 1] rfl rfl (by decide) (by decide) hk1 hFc hP1 hD1
    generalize H1 = H at hP hS ⊢
    have hP : va_P (dC, dI) vwCl [(h0, .inr (15, mF q 0)), (q 1, .inl ((cm 1), 1749, .inl (fun _ => 0)))] H := hP
    have hD : va_D A [(h0, .inr (15, mF q 0)), (q 1, .inl ((cm 1), 1749, .inl (fun _ => 0)))] := hD
    try dsimp only at hw8
    by_cases hc9 : 0 ≤ p1 ∧ p1 ≤ 95
    · rw [if_pos hc9] at hw8
      subst hw8
      refine lv_if_ne (tgt := 27) hx hb dX12_dike_17 (by decide) (fun c10 => absurd c10 (by decide)) (fun c10 => ?_)
      refine lv_iload_n hx hb dX12_dike_20 rfl (lv_at hl 3 rfl) ?_
      have hPc := hP.sub (ws' := []) [] rfl
      have hDc := hD.sub (ws' := []) [] (by decide) rfl
      have hKc := hK.sub (tys' := []) [] rfl
      have hFc := va_free (wc := []) hD hS hA [] rfl
      refine va_calli (va_runS (As := [.int p2]) (rest := [.ref h0]) ⟨hx, hb, hml, hown, hts⟩ (c_m_noSquare l dC dI p2 H.size ) (va_cwS 1 hts (goodIn_app (goodIn_r _ [7, 8, 6] (by decide +kernel) (by decide +kernel)) (goodIn_ca (goodIn_r _ [2, 3, 4, 5, 6] (by decide +kernel) (by decide +kernel)) (bs_in _ _))) rfl rfl rfl (by decide +kernel) ⟨(Nat.le_of_ble_eq_true rfl), (Nat.le_of_ble_eq_true rfl)⟩) ⟨fun a U g mk q => by obtain ⟨q0, q1, qP, qK, qD⟩ := q; exact ⟨q0, q1, qP, va_K.moved (u := U) (U := U.calling g mk a) (Vm.Alike.refl U.vm) qK, qD⟩, fun U hU hW => ⟨rfl, by rw [hU], by rw [hU]; exact hPc, va_K.moved hW.alike hKc, hDc.weaken (fun _ _ _ _ => trivial)⟩⟩ rfl rfl hl.1 rfl (lv_room (Nat.le_of_ble_eq_true rfl)) dX12_dike_21 ⟨(Nat.le_of_ble_eq_true rfl), (Nat.le_of_ble_eq_true rfl)⟩) hS (fun q _ h => hFc q h) hFc (fun r12 u t H1 locs ht hvm hw13 hB hz1 hk1 hS => ?_)
      have hP1 : va_P (dC, dI) vwCl [] H1 := nilP
      have hD1 : va_D (va_A [] H.size) [] := nilD
      have hK := hK
      obtain ⟨hP, hD⟩ := va_join (wr := [(h0, .inr (15, mF q 0)), (q 1, .inl ((cm 1), 1749, .inl (fun _ => 0)))]) (w1 := []) hP hD [] [0, 1] rfl rfl (by decide) (by decide) hk1 hFc hP1 hD1
      generalize H1 = H at hP hS ⊢
      have hP : va_P (dC, dI) vwCl [(h0, .inr (15, mF q 0)), (q 1, .inl ((cm 1), 1749, .inl (fun _ => 0)))] H := hP
      have hD : va_D A [(h0, .inr (15, mF q 0)), (q 1, .inl ((cm 1), 1749, .inl (fun _ => 0)))] := hD
      try dsimp only at hw13
      by_cases hc14 : 0 ≤ p2 ∧ p2 ≤ 95
      · rw [if_pos hc14] at hw13
        subst hw13
        refine lv_if_eq (tgt := 31) hx hb dX12_dike_24 (by decide) (fun c15 => ?_) (fun c15 => absurd c15 (by decide))
        refine lv_iconst (v := 0) hx hb dX12_dike_31 (by decide) ?_
        refine lv_iconst (v := 1) hx hb dX12_dike_32 (by decide) ?_
        have hPc := hP.sub (ws' := [(h0, .inr (15, mF q 0))]) [0] rfl
        have hDc := hD.sub (ws' := [(h0, .inr (15, mF q 0))]) [0] (by decide) rfl
        have hKc := hK.sub (tys' := []) [] rfl
        have hFc := va_free (wc := [(h0, .inr (15, mF q 0))]) hD hS hA [0] rfl
        refine va_calli (va_runV (As := [.int 0, .int 1]) (rest := []) ⟨hx, hb, hml, hown, hts⟩ (c_m_throwsIf0 l dC dI h0 (mF q 0) 1 H.size ) (cwV 2 hts (goodIn_app (goodIn_r _ [10, 11, 12, 6] (by decide +kernel) (by decide +kernel)) (goodIn_ca (goodIn_r _ [9] (by decide +kernel) (by decide +kernel)) (bs_in _ _))) rfl rfl rfl (by decide +kernel) ⟨(Nat.le_of_ble_eq_true rfl), (Nat.le_of_ble_eq_true rfl)⟩) ⟨fun a U g mk q => by obtain ⟨q0, q1, qP, qK, qD⟩ := q; exact ⟨q0, q1, qP, va_K.moved (u := U) (U := U.calling g mk a) (Vm.Alike.refl U.vm) qK, qD⟩, va_recv hKc hPc (ci := 15) (q0 := 0) rfl rfl, fun U hU hW => ⟨rfl, by rw [hU], by rw [hU]; exact hPc, va_K.moved hW.alike hKc, hDc.weaken (fun _ _ _ _ => trivial)⟩⟩ rfl rfl hl.1 rfl (lv_room (Nat.le_of_ble_eq_true rfl)) dX12_dike_33 ⟨(Nat.le_of_ble_eq_true rfl), (Nat.le_of_ble_eq_true rfl)⟩) hS (fun q _ h => hFc q h) hFc (fun r17 u t H1 locs ht hvm hw18 hB hz1 hk1 hS => ?_)
        obtain ⟨hP1, hD1⟩ := hB
        rw [ht] at hP1
        obtain ⟨hP, hD⟩ := va_join (wr := [(q 1, .inl ((cm 1), 1749, .inl (fun _ => 0)))]) (w1 := [(h0, .inr (15, mF q 0))]) hP hD [0] [1] rfl rfl (by decide) (by decide) hk1 hFc hP1 hD1
        generalize H1 = H at hP hS ⊢
        have hP : va_P (dC, dI) vwCl [(q 1, .inl ((cm 1), 1749, .inl (fun _ => 0))), (h0, .inr (15, mF q 0))] H := hP
        have hD : va_D A [(q 1, .inl ((cm 1), 1749, .inl (fun _ => 0))), (h0, .inr (15, mF q 0))] := hD
        try dsimp only at hw18
        obtain rfl : 0 = r17 := (hw18).symm
        refine lv_if_ne (tgt := 90) hx hb dX12_dike_36 (by decide) (fun c19 => absurd c19 (by decide)) (fun c19 => ?_)
        refine lv_aload_n hx hb dX12_dike_39 rfl (lv_at hl 0 rfl) ?_
        refine lv_iload hx hb dX12_dike_40 (lv_at hl 4 rfl) ?_
        refine lv_iconst (v := 1) hx hb dX12_dike_42 (by decide) ?_
        refine lv_sipush (v := 1000) hx hb dX12_dike_43 (by decide) ?_
        have hPc := hP.sub (ws' := []) [] rfl
        have hDc := hD.sub (ws' := []) [] (by decide) rfl
        have hKc := hK.sub (tys' := []) [] rfl
        have hFc := va_free (wc := []) hD hS hA [] rfl
        refine va_calli (va_runS (As := [.int p3, .int 1, .int 1000]) (rest := [.ref h0]) ⟨hx, hb, hml, hown, hts⟩ (c_min_ l dC dI p3 1 1000 H.size ) (va_cwS 3 hts (goodIn_app (goodIn_r _ [4, 5, 6] (by decide +kernel) (by decide +kernel)) (goodIn_ca (goodIn_r _ [3] (by decide +kernel) (by decide +kernel)) (bs_in _ _))) rfl rfl rfl (by decide +kernel) ⟨(Nat.le_of_ble_eq_true rfl), (Nat.le_of_ble_eq_true rfl)⟩) ⟨fun a U g mk q => by obtain ⟨q0, q1, qP, qK, qD⟩ := q; exact ⟨q0, q1, qP, va_K.moved (u := U) (U := U.calling g mk a) (Vm.Alike.refl U.vm) qK, qD⟩, fun U hU hW => ⟨rfl, by rw [hU], by rw [hU]; exact hPc, va_K.moved hW.alike hKc, hDc.weaken (fun _ _ _ _ => trivial)⟩⟩ rfl rfl hl.1 rfl (lv_room (Nat.le_of_ble_eq_true rfl)) dX12_dike_46 ⟨(Nat.le_of_ble_eq_true rfl), (Nat.le_of_ble_eq_true rfl)⟩) hS (fun q _ h => hFc q h) hFc (fun r21 u t H1 locs ht hvm hw22 hB hz1 hk1 hS => ?_)
        have hP1 : va_P (dC, dI) vwCl [] H1 := nilP
        have hD1 : va_D (va_A [] H.size) [] := nilD
        have hK := hK
        obtain ⟨hP, hD⟩ := va_join (wr := [(q 1, .inl ((cm 1), 1749, .inl (fun _ => 0))), (h0, .inr (15, mF q 0))]) (w1 := []) hP hD [] [0, 1] rfl rfl (by decide) (by decide) hk1 hFc hP1 hD1
        generalize H1 = H at hP hS ⊢
        have hP : va_P (dC, dI) vwCl [(q 1, .inl ((cm 1), 1749, .inl (fun _ => 0))), (h0, .inr (15, mF q 0))] H := hP
        have hD : va_D A [(q 1, .inl ((cm 1), 1749, .inl (fun _ => 0))), (h0, .inr (15, mF q 0))] := hD
        try dsimp only at hw22
        by_cases hc23 : (1 : Int32) ≤ p3 ∧ p3 ≤ (1000 : Int32)
        · rw [if_pos hc23] at hw22
          subst hw22
          refine lv_if_ne (tgt := 56) hx hb dX12_dike_49 (by decide) (fun c24 => ?_) (fun c24 => absurd c24 (by decide))
          refine lv_iconst (v := 0) hx hb dX12_dike_56 (by decide) ?_
          refine lv_iconst (v := 2) hx hb dX12_dike_57 (by decide) ?_
          have hPc := hP.sub (ws' := [(h0, .inr (15, mF q 0))]) [1] rfl
          have hDc := hD.sub (ws' := [(h0, .inr (15, mF q 0))]) [1] (by decide) rfl
          have hKc := hK.sub (tys' := []) [] rfl
          have hFc := va_free (wc := [(h0, .inr (15, mF q 0))]) hD hS hA [1] rfl
          refine va_calli (va_runV (As := [.int 0, .int 2]) (rest := []) ⟨hx, hb, hml, hown, hts⟩ (c_m_throwsIf0 l dC dI h0 (mF q 0) 2 H.size ) (cwV 2 hts (goodIn_app (goodIn_r _ [10, 11, 12, 6] (by decide +kernel) (by decide +kernel)) (goodIn_ca (goodIn_r _ [9] (by decide +kernel) (by decide +kernel)) (bs_in _ _))) rfl rfl rfl (by decide +kernel) ⟨(Nat.le_of_ble_eq_true rfl), (Nat.le_of_ble_eq_true rfl)⟩) ⟨fun a U g mk q => by obtain ⟨q0, q1, qP, qK, qD⟩ := q; exact ⟨q0, q1, qP, va_K.moved (u := U) (U := U.calling g mk a) (Vm.Alike.refl U.vm) qK, qD⟩, va_recv hKc hPc (ci := 15) (q0 := 0) rfl rfl, fun U hU hW => ⟨rfl, by rw [hU], by rw [hU]; exact hPc, va_K.moved hW.alike hKc, hDc.weaken (fun _ _ _ _ => trivial)⟩⟩ rfl rfl hl.1 rfl (lv_room (Nat.le_of_ble_eq_true rfl)) dX12_dike_58 ⟨(Nat.le_of_ble_eq_true rfl), (Nat.le_of_ble_eq_true rfl)⟩) hS (fun q _ h => hFc q h) hFc (fun r26 u t H1 locs ht hvm hw27 hB hz1 hk1 hS => ?_)
          obtain ⟨hP1, hD1⟩ := hB
          rw [ht] at hP1
          obtain ⟨hP, hD⟩ := va_join (wr := [(q 1, .inl ((cm 1), 1749, .inl (fun _ => 0)))]) (w1 := [(h0, .inr (15, mF q 0))]) hP hD [1] [0] rfl rfl (by decide) (by decide) hk1 hFc hP1 hD1
          generalize H1 = H at hP hS ⊢
          have hP : va_P (dC, dI) vwCl [(q 1, .inl ((cm 1), 1749, .inl (fun _ => 0))), (h0, .inr (15, mF q 0))] H := hP
          have hD : va_D A [(q 1, .inl ((cm 1), 1749, .inl (fun _ => 0))), (h0, .inr (15, mF q 0))] := hD
          try dsimp only at hw27
          obtain rfl : 0 = r26 := (hw27).symm
          refine lv_if_ne (tgt := 90) hx hb dX12_dike_61 (by decide) (fun c28 => absurd c28 (by decide)) (fun c28 => ?_)
          refine lv_aload_n hx hb dX12_dike_64 rfl (lv_at hl 0 rfl) ?_
          refine lv_aload_n hx hb dX12_dike_65 rfl (lv_at hl 0 rfl) ?_
          refine va_get (D := (dC, dI)) (ci := 15) (v := .ref (q 1)) (C := RX12) (T := TX12) (N := 78) hx hb hts bF_X12 hown hK hP 1 rfl rfl 1 (by decide) (ht_at hts 12 rfl) (fun _ h9 => h9) rfl dX12_dike_66 ?_
          refine lv_sipush (v := 1428) hx hb dX12_dike_69 (by decide) ?_
          refine va_iald hx hb hK hP 0 0 rfl rfl (by unfold vp_in; decide) dX12_dike_72 ?_
          refine lv_topi (fun x29 ex29 => ?_)
          obtain rfl : 0 = x29 := (ex29).symm
          refine lv_bipush (v := 30) hx hb dX12_dike_73 (by decide) ?_
          refine lv_icmp_ne (tgt := 82) hx hb dX12_dike_75 (by decide) (fun c30 => ?_) (fun c30 => absurd c30 (by decide))
          refine lv_iconst (v := 0) hx hb dX12_dike_82 (by decide) ?_
          refine lv_iconst (v := 3) hx hb dX12_dike_83 (by decide) ?_
          have hPc := hP.sub (ws' := [(h0, .inr (15, mF q 0))]) [1] rfl
          have hDc := hD.sub (ws' := [(h0, .inr (15, mF q 0))]) [1] (by decide) rfl
          have hKc := hK.sub (tys' := []) [] rfl
          have hFc := va_free (wc := [(h0, .inr (15, mF q 0))]) hD hS hA [1] rfl
          refine va_calli (va_runV (As := [.int 0, .int 3]) (rest := []) ⟨hx, hb, hml, hown, hts⟩ (c_m_throwsIf0 l dC dI h0 (mF q 0) 3 H.size ) (cwV 2 hts (goodIn_app (goodIn_r _ [10, 11, 12, 6] (by decide +kernel) (by decide +kernel)) (goodIn_ca (goodIn_r _ [9] (by decide +kernel) (by decide +kernel)) (bs_in _ _))) rfl rfl rfl (by decide +kernel) ⟨(Nat.le_of_ble_eq_true rfl), (Nat.le_of_ble_eq_true rfl)⟩) ⟨fun a U g mk q => by obtain ⟨q0, q1, qP, qK, qD⟩ := q; exact ⟨q0, q1, qP, va_K.moved (u := U) (U := U.calling g mk a) (Vm.Alike.refl U.vm) qK, qD⟩, va_recv hKc hPc (ci := 15) (q0 := 0) rfl rfl, fun U hU hW => ⟨rfl, by rw [hU], by rw [hU]; exact hPc, va_K.moved hW.alike hKc, hDc.weaken (fun _ _ _ _ => trivial)⟩⟩ rfl rfl hl.1 rfl (lv_room (Nat.le_of_ble_eq_true rfl)) dX12_dike_84 ⟨(Nat.le_of_ble_eq_true rfl), (Nat.le_of_ble_eq_true rfl)⟩) hS (fun q _ h => hFc q h) hFc (fun r32 u t H1 locs ht hvm hw33 hB hz1 hk1 hS => ?_)
          obtain ⟨hP1, hD1⟩ := hB
          rw [ht] at hP1
          obtain ⟨hP, hD⟩ := va_join (wr := [(q 1, .inl ((cm 1), 1749, .inl (fun _ => 0)))]) (w1 := [(h0, .inr (15, mF q 0))]) hP hD [1] [0] rfl rfl (by decide) (by decide) hk1 hFc hP1 hD1
          generalize H1 = H at hP hS ⊢
          have hP : va_P (dC, dI) vwCl [(q 1, .inl ((cm 1), 1749, .inl (fun _ => 0))), (h0, .inr (15, mF q 0))] H := hP
          have hD : va_D A [(q 1, .inl ((cm 1), 1749, .inl (fun _ => 0))), (h0, .inr (15, mF q 0))] := hD
          try dsimp only at hw33
          obtain rfl : 0 = r32 := (hw33).symm
          refine lv_if_eq (tgt := 92) hx hb dX12_dike_87 (by decide) (fun c34 => ?_) (fun c34 => absurd c34 (by decide))
          refine lv_aload_n hx hb dX12_dike_92 rfl (lv_at hl 0 rfl) ?_
          refine lv_iload_n hx hb dX12_dike_93 rfl (lv_at hl 1 rfl) ?_
          have hPc := hP.sub (ws' := [(h0, .inr (15, mF q 0)), (q 1, .inl ((cm 1), 1749, .inl (fun _ => 0)))]) [1, 0] rfl
          have hDc := hD.sub (ws' := [(h0, .inr (15, mF q 0)), (q 1, .inl ((cm 1), 1749, .inl (fun _ => 0)))]) [1, 0] (by decide) rfl
          have hKc := hK.sub (tys' := [((cm 1), .int)]) [0] rfl
          have hFc := va_free (wc := [(h0, .inr (15, mF q 0)), (q 1, .inl ((cm 1), 1749, .inl (fun _ => 0)))]) hD hS hA [1, 0] rfl
          refine va_calli (va_runV (As := [.int p0]) (rest := []) ⟨hx, hb, hml, hown, hts⟩ (m_noPlace l dC dI h0 q cm p0 H.size hc4) (cwV 1 hts (goodIn_app (goodIn_r _ [19, 20, 21, 6] (by decide +kernel) (by decide +kernel)) (goodIn_ca (goodIn_r _ [14, 15, 13, 16, 17, 18, 6] (by decide +kernel) (by decide +kernel)) (bs_in _ _))) rfl rfl rfl (by decide +kernel) ⟨(Nat.le_of_ble_eq_true rfl), (Nat.le_of_ble_eq_true rfl)⟩) ⟨fun a U g mk q => by obtain ⟨q0, q1, qP, qK, qD⟩ := q; exact ⟨q0, q1, qP, va_K.moved (u := U) (U := U.calling g mk a) (Vm.Alike.refl U.vm) qK, qD⟩, va_recv hKc hPc (ci := 15) (q0 := 0) rfl rfl, fun U hU hW => ⟨rfl, by rw [hU], by rw [hU]; exact hPc, va_K.moved hW.alike hKc, hDc.weaken (fun _ _ _ _ => trivial)⟩⟩ rfl rfl hl.1 rfl (lv_room (Nat.le_of_ble_eq_true rfl)) dX12_dike_94 ⟨(Nat.le_of_ble_eq_true rfl), (Nat.le_of_ble_eq_true rfl)⟩) hS (fun q _ h => hFc q h) hFc (fun r36 u t H1 locs ht hvm hw37 hB hz1 hk1 hS => ?_)
          obtain ⟨hP1, hD1⟩ := hB
          rw [ht] at hP1
          obtain ⟨hP, hD⟩ := va_join (wr := []) (w1 := [(h0, .inr (15, mF q 0)), (q 1, .inl ((cm 1), 1749, .inl (fun _ => 0)))]) hP hD [1, 0] [] rfl rfl (by decide) (by decide) hk1 hFc hP1 hD1
          generalize H1 = H at hP hS ⊢
          have hP : va_P (dC, dI) vwCl [(h0, .inr (15, mF q 0)), (q 1, .inl ((cm 1), 1749, .inl (fun _ => 0)))] H := hP
          have hD : va_D A [(h0, .inr (15, mF q 0)), (q 1, .inl ((cm 1), 1749, .inl (fun _ => 0)))] := hD
          try dsimp only at hw37
          obtain rfl : 1 = r36 := (hw37).symm
          refine lv_if_ne (tgt := 134) hx hb dX12_dike_97 (by decide) (fun c38 => ?_) (fun c38 => absurd c38 (by decide))
          refine lv_iconst (v := (-1)) hx hb dX12_dike_134 (by decide) ?_
          exact W.iret (v := (-1)) hx hb hr (fun t ht hW => ⟨⟨(-1), (mF q 0), rfl, (by unfold T_dike; rw [if_pos hc4, if_pos hc9, if_pos hc14, if_pos hc23]; (first | exact ⟨rfl, fun _ => rfl⟩ | exact ⟨rfl, fun h => absurd h (by decide)⟩)), by rw [ht]; exact hP.sub (ws' := [(h0, .inr (15, mF q 0))]) [0] rfl, hD.sub (ws' := [(h0, .inr (15, mF q 0))]) [0] (by decide) rfl⟩, hS.F ht⟩) hS.2.2 dX12_dike_135
        · rw [if_neg hc23] at hw22
          subst hw22
          refine lv_if_ne (tgt := 56) hx hb dX12_dike_49 (by decide) (fun c39 => absurd c39 (by decide)) (fun c39 => ?_)
          refine lv_iconst (v := 1) hx hb dX12_dike_52 (by decide) ?_
          refine lv_goto (tgt := 57) hx hb dX12_dike_53 (by decide) ?_
          refine lv_iconst (v := 2) hx hb dX12_dike_57 (by decide) ?_
          have hPc := hP.sub (ws' := [(h0, .inr (15, mF q 0))]) [1] rfl
          have hDc := hD.sub (ws' := [(h0, .inr (15, mF q 0))]) [1] (by decide) rfl
          have hKc := hK.sub (tys' := []) [] rfl
          have hFc := va_free (wc := [(h0, .inr (15, mF q 0))]) hD hS hA [1] rfl
          refine va_calli (va_runV (As := [.int 1, .int 2]) (rest := []) ⟨hx, hb, hml, hown, hts⟩ (c_m_throwsIf1 l dC dI h0 (mF q 0) 2 H.size rfl) (cwV 2 hts (goodIn_app (goodIn_r _ [10, 11, 12, 6] (by decide +kernel) (by decide +kernel)) (goodIn_ca (goodIn_r _ [9, 1] (by decide +kernel) (by decide +kernel)) (bs_in _ _))) rfl rfl rfl (by decide +kernel) ⟨(Nat.le_of_ble_eq_true rfl), (Nat.le_of_ble_eq_true rfl)⟩) ⟨fun a U g mk q => by obtain ⟨q0, q1, qP, qK, qD⟩ := q; exact ⟨q0, q1, qP, va_K.moved (u := U) (U := U.calling g mk a) (Vm.Alike.refl U.vm) qK, qD⟩, va_recv hKc hPc (ci := 15) (q0 := 0) rfl rfl, fun U hU hW => ⟨rfl, by rw [hU], by rw [hU]; exact hPc, va_K.moved hW.alike hKc, hDc.weaken (fun _ _ _ _ => trivial)⟩⟩ rfl rfl hl.1 rfl (lv_room (Nat.le_of_ble_eq_true rfl)) dX12_dike_58 ⟨(Nat.le_of_ble_eq_true rfl), (Nat.le_of_ble_eq_true rfl)⟩) hS (fun q _ h => hFc q h) hFc (fun r41 u t H1 locs ht hvm hw42 hB hz1 hk1 hS => ?_)
          obtain ⟨hP1, hD1⟩ := hB
          rw [ht] at hP1
          obtain ⟨hP, hD⟩ := va_join (wr := [(q 1, .inl ((cm 1), 1749, .inl (fun _ => 0)))]) (w1 := [(h0, .inr (15, mF q 2))]) hP hD [1] [0] rfl rfl (by decide) (by decide) hk1 hFc hP1 hD1
          generalize H1 = H at hP hS ⊢
          have hP : va_P (dC, dI) vwCl [(q 1, .inl ((cm 1), 1749, .inl (fun _ => 0))), (h0, .inr (15, mF q 2))] H := hP
          have hD : va_D A [(q 1, .inl ((cm 1), 1749, .inl (fun _ => 0))), (h0, .inr (15, mF q 2))] := hD
          try dsimp only at hw42
          obtain rfl : 1 = r41 := (hw42).symm
          refine lv_if_ne (tgt := 90) hx hb dX12_dike_61 (by decide) (fun c43 => ?_) (fun c43 => absurd c43 (by decide))
          refine lv_iconst (v := 0) hx hb dX12_dike_90 (by decide) ?_
          exact W.iret (v := 0) hx hb hr (fun t ht hW => ⟨⟨0, (mF q 2), rfl, (by unfold T_dike; rw [if_pos hc4, if_pos hc9, if_pos hc14, if_neg hc23]; (first | exact ⟨rfl, fun _ => rfl⟩ | exact ⟨rfl, fun h => absurd h (by decide)⟩)), by rw [ht]; exact hP.sub (ws' := [(h0, .inr (15, mF q 2))]) [1] rfl, hD.sub (ws' := [(h0, .inr (15, mF q 2))]) [1] (by decide) rfl⟩, hS.F ht⟩) hS.2.2 dX12_dike_91
      · rw [if_neg hc14] at hw13
        subst hw13
        refine lv_if_eq (tgt := 31) hx hb dX12_dike_24 (by decide) (fun c44 => absurd c44 (by decide)) (fun c44 => ?_)
        refine lv_iconst (v := 1) hx hb dX12_dike_27 (by decide) ?_
        refine lv_goto (tgt := 32) hx hb dX12_dike_28 (by decide) ?_
        refine lv_iconst (v := 1) hx hb dX12_dike_32 (by decide) ?_
        have hPc := hP.sub (ws' := [(h0, .inr (15, mF q 0))]) [0] rfl
        have hDc := hD.sub (ws' := [(h0, .inr (15, mF q 0))]) [0] (by decide) rfl
        have hKc := hK.sub (tys' := []) [] rfl
        have hFc := va_free (wc := [(h0, .inr (15, mF q 0))]) hD hS hA [0] rfl
        refine va_calli (va_runV (As := [.int 1, .int 1]) (rest := []) ⟨hx, hb, hml, hown, hts⟩ (c_m_throwsIf1 l dC dI h0 (mF q 0) 1 H.size rfl) (cwV 2 hts (goodIn_app (goodIn_r _ [10, 11, 12, 6] (by decide +kernel) (by decide +kernel)) (goodIn_ca (goodIn_r _ [9, 1] (by decide +kernel) (by decide +kernel)) (bs_in _ _))) rfl rfl rfl (by decide +kernel) ⟨(Nat.le_of_ble_eq_true rfl), (Nat.le_of_ble_eq_true rfl)⟩) ⟨fun a U g mk q => by obtain ⟨q0, q1, qP, qK, qD⟩ := q; exact ⟨q0, q1, qP, va_K.moved (u := U) (U := U.calling g mk a) (Vm.Alike.refl U.vm) qK, qD⟩, va_recv hKc hPc (ci := 15) (q0 := 0) rfl rfl, fun U hU hW => ⟨rfl, by rw [hU], by rw [hU]; exact hPc, va_K.moved hW.alike hKc, hDc.weaken (fun _ _ _ _ => trivial)⟩⟩ rfl rfl hl.1 rfl (lv_room (Nat.le_of_ble_eq_true rfl)) dX12_dike_33 ⟨(Nat.le_of_ble_eq_true rfl), (Nat.le_of_ble_eq_true rfl)⟩) hS (fun q _ h => hFc q h) hFc (fun r46 u t H1 locs ht hvm hw47 hB hz1 hk1 hS => ?_)
        obtain ⟨hP1, hD1⟩ := hB
        rw [ht] at hP1
        obtain ⟨hP, hD⟩ := va_join (wr := [(q 1, .inl ((cm 1), 1749, .inl (fun _ => 0)))]) (w1 := [(h0, .inr (15, mF q 1))]) hP hD [0] [1] rfl rfl (by decide) (by decide) hk1 hFc hP1 hD1
        generalize H1 = H at hP hS ⊢
        have hP : va_P (dC, dI) vwCl [(q 1, .inl ((cm 1), 1749, .inl (fun _ => 0))), (h0, .inr (15, mF q 1))] H := hP
        have hD : va_D A [(q 1, .inl ((cm 1), 1749, .inl (fun _ => 0))), (h0, .inr (15, mF q 1))] := hD
        try dsimp only at hw47
        obtain rfl : 1 = r46 := (hw47).symm
        refine lv_if_ne (tgt := 90) hx hb dX12_dike_36 (by decide) (fun c48 => ?_) (fun c48 => absurd c48 (by decide))
        refine lv_iconst (v := 0) hx hb dX12_dike_90 (by decide) ?_
        exact W.iret (v := 0) hx hb hr (fun t ht hW => ⟨⟨0, (mF q 1), rfl, (by unfold T_dike; rw [if_pos hc4, if_pos hc9, if_neg hc14]; (first | exact ⟨rfl, fun _ => rfl⟩ | exact ⟨rfl, fun h => absurd h (by decide)⟩)), by rw [ht]; exact hP.sub (ws' := [(h0, .inr (15, mF q 1))]) [1] rfl, hD.sub (ws' := [(h0, .inr (15, mF q 1))]) [1] (by decide) rfl⟩, hS.F ht⟩) hS.2.2 dX12_dike_91
    · rw [if_neg hc9] at hw8
      subst hw8
      refine lv_if_ne (tgt := 27) hx hb dX12_dike_17 (by decide) (fun c49 => ?_) (fun c49 => absurd c49 (by decide))
      refine lv_iconst (v := 1) hx hb dX12_dike_27 (by decide) ?_
      refine lv_goto (tgt := 32) hx hb dX12_dike_28 (by decide) ?_
      refine lv_iconst (v := 1) hx hb dX12_dike_32 (by decide) ?_
      have hPc := hP.sub (ws' := [(h0, .inr (15, mF q 0))]) [0] rfl
      have hDc := hD.sub (ws' := [(h0, .inr (15, mF q 0))]) [0] (by decide) rfl
      have hKc := hK.sub (tys' := []) [] rfl
      have hFc := va_free (wc := [(h0, .inr (15, mF q 0))]) hD hS hA [0] rfl
      refine va_calli (va_runV (As := [.int 1, .int 1]) (rest := []) ⟨hx, hb, hml, hown, hts⟩ (c_m_throwsIf1 l dC dI h0 (mF q 0) 1 H.size rfl) (cwV 2 hts (goodIn_app (goodIn_r _ [10, 11, 12, 6] (by decide +kernel) (by decide +kernel)) (goodIn_ca (goodIn_r _ [9, 1] (by decide +kernel) (by decide +kernel)) (bs_in _ _))) rfl rfl rfl (by decide +kernel) ⟨(Nat.le_of_ble_eq_true rfl), (Nat.le_of_ble_eq_true rfl)⟩) ⟨fun a U g mk q => by obtain ⟨q0, q1, qP, qK, qD⟩ := q; exact ⟨q0, q1, qP, va_K.moved (u := U) (U := U.calling g mk a) (Vm.Alike.refl U.vm) qK, qD⟩, va_recv hKc hPc (ci := 15) (q0 := 0) rfl rfl, fun U hU hW => ⟨rfl, by rw [hU], by rw [hU]; exact hPc, va_K.moved hW.alike hKc, hDc.weaken (fun _ _ _ _ => trivial)⟩⟩ rfl rfl hl.1 rfl (lv_room (Nat.le_of_ble_eq_true rfl)) dX12_dike_33 ⟨(Nat.le_of_ble_eq_true rfl), (Nat.le_of_ble_eq_true rfl)⟩) hS (fun q _ h => hFc q h) hFc (fun r51 u t H1 locs ht hvm hw52 hB hz1 hk1 hS => ?_)
      obtain ⟨hP1, hD1⟩ := hB
      rw [ht] at hP1
      obtain ⟨hP, hD⟩ := va_join (wr := [(q 1, .inl ((cm 1), 1749, .inl (fun _ => 0)))]) (w1 := [(h0, .inr (15, mF q 1))]) hP hD [0] [1] rfl rfl (by decide) (by decide) hk1 hFc hP1 hD1
      generalize H1 = H at hP hS ⊢
      have hP : va_P (dC, dI) vwCl [(q 1, .inl ((cm 1), 1749, .inl (fun _ => 0))), (h0, .inr (15, mF q 1))] H := hP
      have hD : va_D A [(q 1, .inl ((cm 1), 1749, .inl (fun _ => 0))), (h0, .inr (15, mF q 1))] := hD
      try dsimp only at hw52
      obtain rfl : 1 = r51 := (hw52).symm
      refine lv_if_ne (tgt := 90) hx hb dX12_dike_36 (by decide) (fun c53 => ?_) (fun c53 => absurd c53 (by decide))
      refine lv_iconst (v := 0) hx hb dX12_dike_90 (by decide) ?_
      exact W.iret (v := 0) hx hb hr (fun t ht hW => ⟨⟨0, (mF q 1), rfl, (by unfold T_dike; rw [if_pos hc4, if_neg hc9]; (first | exact ⟨rfl, fun _ => rfl⟩ | exact ⟨rfl, fun h => absurd h (by decide)⟩)), by rw [ht]; exact hP.sub (ws' := [(h0, .inr (15, mF q 1))]) [1] rfl, hD.sub (ws' := [(h0, .inr (15, mF q 1))]) [1] (by decide) rfl⟩, hS.F ht⟩) hS.2.2 dX12_dike_91
  · rw [if_neg hc4] at hw3
    subst hw3
    refine lv_if_ne (tgt := 27) hx hb dX12_dike_10 (by decide) (fun c54 => ?_) (fun c54 => absurd c54 (by decide))
    refine lv_iconst (v := 1) hx hb dX12_dike_27 (by decide) ?_
    refine lv_goto (tgt := 32) hx hb dX12_dike_28 (by decide) ?_
    refine lv_iconst (v := 1) hx hb dX12_dike_32 (by decide) ?_
    have hPc := hP.sub (ws' := [(h0, .inr (15, mF q 0))]) [0] rfl
    have hDc := hD.sub (ws' := [(h0, .inr (15, mF q 0))]) [0] (by decide) rfl
    have hKc := hK.sub (tys' := []) [] rfl
    have hFc := va_free (wc := [(h0, .inr (15, mF q 0))]) hD hS hA [0] rfl
    refine va_calli (va_runV (As := [.int 1, .int 1]) (rest := []) ⟨hx, hb, hml, hown, hts⟩ (c_m_throwsIf1 l dC dI h0 (mF q 0) 1 H.size rfl) (cwV 2 hts (goodIn_app (goodIn_r _ [10, 11, 12, 6] (by decide +kernel) (by decide +kernel)) (goodIn_ca (goodIn_r _ [9, 1] (by decide +kernel) (by decide +kernel)) (bs_in _ _))) rfl rfl rfl (by decide +kernel) ⟨(Nat.le_of_ble_eq_true rfl), (Nat.le_of_ble_eq_true rfl)⟩) ⟨fun a U g mk q => by obtain ⟨q0, q1, qP, qK, qD⟩ := q; exact ⟨q0, q1, qP, va_K.moved (u := U) (U := U.calling g mk a) (Vm.Alike.refl U.vm) qK, qD⟩, va_recv hKc hPc (ci := 15) (q0 := 0) rfl rfl, fun U hU hW => ⟨rfl, by rw [hU], by rw [hU]; exact hPc, va_K.moved hW.alike hKc, hDc.weaken (fun _ _ _ _ => trivial)⟩⟩ rfl rfl hl.1 rfl (lv_room (Nat.le_of_ble_eq_true rfl)) dX12_dike_33 ⟨(Nat.le_of_ble_eq_true rfl), (Nat.le_of_ble_eq_true rfl)⟩) hS (fun q _ h => hFc q h) hFc (fun r56 u t H1 locs ht hvm hw57 hB hz1 hk1 hS => ?_)
    obtain ⟨hP1, hD1⟩ := hB
    rw [ht] at hP1
    obtain ⟨hP, hD⟩ := va_join (wr := [(q 1, .inl ((cm 1), 1749, .inl (fun _ => 0)))]) (w1 := [(h0, .inr (15, mF q 1))]) hP hD [0] [1] rfl rfl (by decide) (by decide) hk1 hFc hP1 hD1
    generalize H1 = H at hP hS ⊢
    have hP : va_P (dC, dI) vwCl [(q 1, .inl ((cm 1), 1749, .inl (fun _ => 0))), (h0, .inr (15, mF q 1))] H := hP
    have hD : va_D A [(q 1, .inl ((cm 1), 1749, .inl (fun _ => 0))), (h0, .inr (15, mF q 1))] := hD
    try dsimp only at hw57
    obtain rfl : 1 = r56 := (hw57).symm
    refine lv_if_ne (tgt := 90) hx hb dX12_dike_36 (by decide) (fun c58 => ?_) (fun c58 => absurd c58 (by decide))
    refine lv_iconst (v := 0) hx hb dX12_dike_90 (by decide) ?_
    exact W.iret (v := 0) hx hb hr (fun t ht hW => ⟨⟨0, (mF q 1), rfl, (by unfold T_dike; rw [if_neg hc4]; (first | exact ⟨rfl, fun _ => rfl⟩ | exact ⟨rfl, fun h => absurd h (by decide)⟩)), by rw [ht]; exact hP.sub (ws' := [(h0, .inr (15, mF q 1))]) [1] rfl, hD.sub (ws' := [(h0, .inr (15, mF q 1))]) [1] (by decide) rfl⟩, hS.F ht⟩) hS.2.2 dX12_dike_91
def w_m_mill : List Cond := .code yX12_mill cX12_mill 5 (some .int) :: ([.fieldLink RX12 194 "SeaLandModel" "thrown" "I", .code yX12_noSquare cX12_noSquare 1 (some .boolean), .code yX12_in cX12_in 3 (some .boolean), .methodLink RX12 197 yX12_in, .static yX12_in, .initialized RX12, .methodLink RX12 220 yX12_noSquare, .static yX12_noSquare, .code yX12_throwsIf cX12_throwsIf 3 (some .boolean), .methodLink RX12 224 yX12_throwsIf, .instanceMethod yX12_throwsIf, .selects RX12 yX12_throwsIf yX12_throwsIf, .fieldLink RX12 9 "SeaLandModel" "world" "[I", .code yX12_noPlace cX12_noPlace 2 (some .boolean), .code yX12_isLand cX12_isLand 2 (some .boolean), .methodLink RX12 235 yX12_isLand, .instanceMethod yX12_isLand, .selects RX12 yX12_isLand yX12_isLand, .methodLink RX12 259 yX12_noPlace, .instanceMethod yX12_noPlace, .selects RX12 yX12_noPlace yX12_noPlace] ++ bs)
set_option maxHeartbeats 4000000 in
set_option maxRecDepth 100000 in
theorem m_mill (l : Launch) (dC : Nat → ClassId) (dI : Nat → Nat → Nat) (h0 : Nat) (q : Nat → Nat) (cm : Nat → ClassId) (p0 p1 p2 p3 : Int32) (sz : Nat) : Met l yX12_mill w_m_mill ({ frames := 2, cells := 0, slots := 0, locals := 42 }) (va_Pc [.ref h0, .int p0, .int p1, .int p2, .int p3] (fun U => U.heap.size = sz ∧ va_P (dC, dI) vwCl [(h0, .inr (15, mF q 0)), (q 1, .inl ((cm 1), 1749, .inl (fun _ => 0)))] U.heap ∧ va_K (dC, dI) vwCl [((cm 1), .int)] U ∧ va_D (fun _ => True) [(h0, .inr (15, mF q 0)), (q 1, .inl ((cm 1), 1749, .inl (fun _ => 0)))])) (va_Qi (fun (r : Int32) (u : List Value) => u[0]? = some (.int (T_mill p0 p1 p2 p3).1) ∧ ((T_mill p0 p1 p2 p3).1 = 0 → r = (T_mill p0 p1 p2 p3).2)) (fun (fs : List Value) (t : State) => va_P (dC, dI) vwCl [(h0, .inr (15, fs))] t.heap ∧ va_D (va_A [(h0, .inr (15, mF q 0)), (q 1, .inl ((cm 1), 1749, .inl (fun _ => 0)))] sz) [(h0, .inr (15, fs))]) (va_A [(h0, .inr (15, mF q 0)), (q 1, .inl ((cm 1), 1749, .inl (fun _ => 0)))] sz)) 0 0 (va_A [(h0, .inr (15, mF q 0)), (q 1, .inl ((cm 1), 1749, .inl (fun _ => 0)))] sz) := by
  refine Met.ofW (cc := cX12_mill) (maxL := 5) (ret := (some .int)) (by decide) rfl ?_
  intro p e s m args below meth c s₁ B hml hv
  obtain ⟨rfl, hsz, hP, hK, hD0⟩ := hv
  have hx := B.exec
  have hb := B.bytes
  have hr := B.returns
  have hts := atoms_spec (ws := w_m_mill) B.pre
  have hown : s.vm.findClass RX12 = some m.cls := findClass_of_methodNamed B.named
  have hlocks := B.notSynchronized
  subst hsz
  have hD := hD0.self (sz := s.heap.size)
  generalize hAe : va_A [(h0, .inr (15, mF q 0)), (q 1, .inl ((cm 1), 1749, .inl (fun _ => 0)))] s.heap.size = A at hD ⊢
  have hA : ∀ q : Nat, s.heap.size ≤ q → A q := fun q h => by rw [← hAe]; exact Or.inr h
  have hS : va_S A s.heap s.heap [] := va_S.rf
  have hP : va_P (dC, dI) vwCl [(h0, .inr (15, mF q 0)), (q 1, .inl ((cm 1), 1749, .inl (fun _ => 0)))] s.heap := hP
  have hl := lv_entry ([.ref h0, .int p0, .int p1, .int p2, .int p3]) (n := 5) (Nat.le_of_ble_eq_true rfl)
  rw [lg_entry_eq]
  generalize (lg_sl ([.ref h0, .int p0, .int p1, .int p2, .int p3]) ++ List.replicate (5 - (lg_sl ([.ref h0, .int p0, .int p1, .int p2, .int p3])).length) Slot.unset).toArray = ls at hl ⊢
  have hl : lv_has ls 5 [(0, .ref h0), (1, .int p0), (2, .int p1), (3, .int p2), (4, .int p3)] := hl
  refine lv_aload_n hx hb dX12_mill_0 rfl (lv_at hl 0 rfl) ?_
  refine lv_iconst (v := 0) hx hb dX12_mill_1 (by decide) ?_
  refine va_put (D := (dC, dI)) (ci := 15) (v := .int 0) (ty := .int) (C := RX12) (T := TX12) (N := 78) hx hb hts bF_X12 tyX12 tyX12_ok nmX12 hown hK hP hD hS 0 rfl rfl 0 (by decide) (ht_at hts 0 rfl) (fun _ h9 => h9) rfl (by decide +kernel) rfl rfl (Nat.le_of_ble_eq_true rfl) dX12_mill_2 (fun H locs hP hD hS => ?_)
  have hP : va_P (dC, dI) vwCl [(h0, .inr (15, mF q 0)), (q 1, .inl ((cm 1), 1749, .inl (fun _ => 0)))] H := hP
  have hD : va_D A [(h0, .inr (15, mF q 0)), (q 1, .inl ((cm 1), 1749, .inl (fun _ => 0)))] := hD
  refine lv_aload_n hx hb dX12_mill_5 rfl (lv_at hl 0 rfl) ?_
  refine lv_iload_n hx hb dX12_mill_6 rfl (lv_at hl 1 rfl) ?_
  have hPc := hP.sub (ws' := []) [] rfl
  have hDc := hD.sub (ws' := []) [] (by decide) rfl
  have hKc := hK.sub (tys' := []) [] rfl
  have hFc := va_free (wc := []) hD hS hA [] rfl
  refine va_calli (va_runS (As := [.int p0]) (rest := [.ref h0]) ⟨hx, hb, hml, hown, hts⟩ (c_m_noSquare l dC dI p0 H.size ) (va_cwS 1 hts (goodIn_app (goodIn_r _ [7, 8, 6] (by decide +kernel) (by decide +kernel)) (goodIn_ca (goodIn_r _ [2, 3, 4, 5, 6] (by decide +kernel) (by decide +kernel)) (bs_in _ _))) rfl rfl rfl (by decide +kernel) ⟨(Nat.le_of_ble_eq_true rfl), (Nat.le_of_ble_eq_true rfl)⟩) ⟨fun a U g mk q => by obtain ⟨q0, q1, qP, qK, qD⟩ := q; exact ⟨q0, q1, qP, va_K.moved (u := U) (U := U.calling g mk a) (Vm.Alike.refl U.vm) qK, qD⟩, fun U hU hW => ⟨rfl, by rw [hU], by rw [hU]; exact hPc, va_K.moved hW.alike hKc, hDc.weaken (fun _ _ _ _ => trivial)⟩⟩ rfl rfl hl.1 rfl (lv_room (Nat.le_of_ble_eq_true rfl)) dX12_mill_7 ⟨(Nat.le_of_ble_eq_true rfl), (Nat.le_of_ble_eq_true rfl)⟩) hS (fun q _ h => hFc q h) hFc (fun r2 u t H1 locs ht hvm hw3 hB hz1 hk1 hS => ?_)
  have hP1 : va_P (dC, dI) vwCl [] H1 := nilP
  have hD1 : va_D (va_A [] H.size) [] := nilD
  have hK := hK
  obtain ⟨hP, hD⟩ := va_join (wr := [(h0, .inr (15, mF q 0)), (q 1, .inl ((cm 1), 1749, .inl (fun _ => 0)))]) (w1 := []) hP hD [] [0, 1] rfl rfl (by decide) (by decide) hk1 hFc hP1 hD1
  generalize H1 = H at hP hS ⊢
  have hP : va_P (dC, dI) vwCl [(h0, .inr (15, mF q 0)), (q 1, .inl ((cm 1), 1749, .inl (fun _ => 0)))] H := hP
  have hD : va_D A [(h0, .inr (15, mF q 0)), (q 1, .inl ((cm 1), 1749, .inl (fun _ => 0)))] := hD
  try dsimp only at hw3
  by_cases hc4 : 0 ≤ p0 ∧ p0 ≤ 95
  · rw [if_pos hc4] at hw3
    subst hw3
    refine lv_if_ne (tgt := 20) hx hb dX12_mill_10 (by decide) (fun c5 => absurd c5 (by decide)) (fun c5 => ?_)
    refine lv_iload_n hx hb dX12_mill_13 rfl (lv_at hl 2 rfl) ?_
    have hPc := hP.sub (ws' := []) [] rfl
    have hDc := hD.sub (ws' := []) [] (by decide) rfl
    have hKc := hK.sub (tys' := []) [] rfl
    have hFc := va_free (wc := []) hD hS hA [] rfl
    refine va_calli (va_runS (As := [.int p1]) (rest := [.ref h0]) ⟨hx, hb, hml, hown, hts⟩ (c_m_noSquare l dC dI p1 H.size ) (va_cwS 1 hts (goodIn_app (goodIn_r _ [7, 8, 6] (by decide +kernel) (by decide +kernel)) (goodIn_ca (goodIn_r _ [2, 3, 4, 5, 6] (by decide +kernel) (by decide +kernel)) (bs_in _ _))) rfl rfl rfl (by decide +kernel) ⟨(Nat.le_of_ble_eq_true rfl), (Nat.le_of_ble_eq_true rfl)⟩) ⟨fun a U g mk q => by obtain ⟨q0, q1, qP, qK, qD⟩ := q; exact ⟨q0, q1, qP, va_K.moved (u := U) (U := U.calling g mk a) (Vm.Alike.refl U.vm) qK, qD⟩, fun U hU hW => ⟨rfl, by rw [hU], by rw [hU]; exact hPc, va_K.moved hW.alike hKc, hDc.weaken (fun _ _ _ _ => trivial)⟩⟩ rfl rfl hl.1 rfl (lv_room (Nat.le_of_ble_eq_true rfl)) dX12_mill_14 ⟨(Nat.le_of_ble_eq_true rfl), (Nat.le_of_ble_eq_true rfl)⟩) hS (fun q _ h => hFc q h) hFc (fun r7 u t H1 locs ht hvm hw8 hB hz1 hk1 hS => ?_)
    have hP1 : va_P (dC, dI) vwCl [] H1 := nilP
    have hD1 : va_D (va_A [] H.size) [] := nilD
    have hK := hK
    obtain ⟨hP, hD⟩ := va_join (wr := [(h0, .inr (15, mF q 0)), (q 1, .inl ((cm 1), 1749, .inl (fun _ => 0)))]) (w1 := []) hP hD [] [0, 1] rfl rfl (by decide) (by decide) hk1 hFc hP1 hD1
    generalize H1 = H at hP hS ⊢
    have hP : va_P (dC, dI) vwCl [(h0, .inr (15, mF q 0)), (q 1, .inl ((cm 1), 1749, .inl (fun _ => 0)))] H := hP
    have hD : va_D A [(h0, .inr (15, mF q 0)), (q 1, .inl ((cm 1), 1749, .inl (fun _ => 0)))] := hD
    try dsimp only at hw8
    by_cases hc9 : 0 ≤ p1 ∧ p1 ≤ 95
    · rw [if_pos hc9] at hw8
      subst hw8
      refine lv_if_eq (tgt := 24) hx hb dX12_mill_17 (by decide) (fun c10 => ?_) (fun c10 => absurd c10 (by decide))
      refine lv_iconst (v := 0) hx hb dX12_mill_24 (by decide) ?_
      refine lv_iconst (v := 1) hx hb dX12_mill_25 (by decide) ?_
      have hPc := hP.sub (ws' := [(h0, .inr (15, mF q 0))]) [0] rfl
      have hDc := hD.sub (ws' := [(h0, .inr (15, mF q 0))]) [0] (by decide) rfl
      have hKc := hK.sub (tys' := []) [] rfl
      have hFc := va_free (wc := [(h0, .inr (15, mF q 0))]) hD hS hA [0] rfl
      refine va_calli (va_runV (As := [.int 0, .int 1]) (rest := []) ⟨hx, hb, hml, hown, hts⟩ (c_m_throwsIf0 l dC dI h0 (mF q 0) 1 H.size ) (cwV 2 hts (goodIn_app (goodIn_r _ [10, 11, 12, 6] (by decide +kernel) (by decide +kernel)) (goodIn_ca (goodIn_r _ [9] (by decide +kernel) (by decide +kernel)) (bs_in _ _))) rfl rfl rfl (by decide +kernel) ⟨(Nat.le_of_ble_eq_true rfl), (Nat.le_of_ble_eq_true rfl)⟩) ⟨fun a U g mk q => by obtain ⟨q0, q1, qP, qK, qD⟩ := q; exact ⟨q0, q1, qP, va_K.moved (u := U) (U := U.calling g mk a) (Vm.Alike.refl U.vm) qK, qD⟩, va_recv hKc hPc (ci := 15) (q0 := 0) rfl rfl, fun U hU hW => ⟨rfl, by rw [hU], by rw [hU]; exact hPc, va_K.moved hW.alike hKc, hDc.weaken (fun _ _ _ _ => trivial)⟩⟩ rfl rfl hl.1 rfl (lv_room (Nat.le_of_ble_eq_true rfl)) dX12_mill_26 ⟨(Nat.le_of_ble_eq_true rfl), (Nat.le_of_ble_eq_true rfl)⟩) hS (fun q _ h => hFc q h) hFc (fun r12 u t H1 locs ht hvm hw13 hB hz1 hk1 hS => ?_)
      obtain ⟨hP1, hD1⟩ := hB
      rw [ht] at hP1
      obtain ⟨hP, hD⟩ := va_join (wr := [(q 1, .inl ((cm 1), 1749, .inl (fun _ => 0)))]) (w1 := [(h0, .inr (15, mF q 0))]) hP hD [0] [1] rfl rfl (by decide) (by decide) hk1 hFc hP1 hD1
      generalize H1 = H at hP hS ⊢
      have hP : va_P (dC, dI) vwCl [(q 1, .inl ((cm 1), 1749, .inl (fun _ => 0))), (h0, .inr (15, mF q 0))] H := hP
      have hD : va_D A [(q 1, .inl ((cm 1), 1749, .inl (fun _ => 0))), (h0, .inr (15, mF q 0))] := hD
      try dsimp only at hw13
      obtain rfl : 0 = r12 := (hw13).symm
      refine lv_if_ne (tgt := 81) hx hb dX12_mill_29 (by decide) (fun c14 => absurd c14 (by decide)) (fun c14 => ?_)
      refine lv_aload_n hx hb dX12_mill_32 rfl (lv_at hl 0 rfl) ?_
      refine lv_iload_n hx hb dX12_mill_33 rfl (lv_at hl 3 rfl) ?_
      refine lv_iconst (v := 1) hx hb dX12_mill_34 (by decide) ?_
      refine lv_bipush (v := 60) hx hb dX12_mill_35 (by decide) ?_
      have hPc := hP.sub (ws' := []) [] rfl
      have hDc := hD.sub (ws' := []) [] (by decide) rfl
      have hKc := hK.sub (tys' := []) [] rfl
      have hFc := va_free (wc := []) hD hS hA [] rfl
      refine va_calli (va_runS (As := [.int p2, .int 1, .int 60]) (rest := [.ref h0]) ⟨hx, hb, hml, hown, hts⟩ (c_min_ l dC dI p2 1 60 H.size ) (va_cwS 3 hts (goodIn_app (goodIn_r _ [4, 5, 6] (by decide +kernel) (by decide +kernel)) (goodIn_ca (goodIn_r _ [3] (by decide +kernel) (by decide +kernel)) (bs_in _ _))) rfl rfl rfl (by decide +kernel) ⟨(Nat.le_of_ble_eq_true rfl), (Nat.le_of_ble_eq_true rfl)⟩) ⟨fun a U g mk q => by obtain ⟨q0, q1, qP, qK, qD⟩ := q; exact ⟨q0, q1, qP, va_K.moved (u := U) (U := U.calling g mk a) (Vm.Alike.refl U.vm) qK, qD⟩, fun U hU hW => ⟨rfl, by rw [hU], by rw [hU]; exact hPc, va_K.moved hW.alike hKc, hDc.weaken (fun _ _ _ _ => trivial)⟩⟩ rfl rfl hl.1 rfl (lv_room (Nat.le_of_ble_eq_true rfl)) dX12_mill_37 ⟨(Nat.le_of_ble_eq_true rfl), (Nat.le_of_ble_eq_true rfl)⟩) hS (fun q _ h => hFc q h) hFc (fun r16 u t H1 locs ht hvm hw17 hB hz1 hk1 hS => ?_)
      have hP1 : va_P (dC, dI) vwCl [] H1 := nilP
      have hD1 : va_D (va_A [] H.size) [] := nilD
      have hK := hK
      obtain ⟨hP, hD⟩ := va_join (wr := [(q 1, .inl ((cm 1), 1749, .inl (fun _ => 0))), (h0, .inr (15, mF q 0))]) (w1 := []) hP hD [] [0, 1] rfl rfl (by decide) (by decide) hk1 hFc hP1 hD1
      generalize H1 = H at hP hS ⊢
      have hP : va_P (dC, dI) vwCl [(q 1, .inl ((cm 1), 1749, .inl (fun _ => 0))), (h0, .inr (15, mF q 0))] H := hP
      have hD : va_D A [(q 1, .inl ((cm 1), 1749, .inl (fun _ => 0))), (h0, .inr (15, mF q 0))] := hD
      try dsimp only at hw17
      by_cases hc18 : (1 : Int32) ≤ p2 ∧ p2 ≤ (60 : Int32)
      · rw [if_pos hc18] at hw17
        subst hw17
        refine lv_if_ne (tgt := 47) hx hb dX12_mill_40 (by decide) (fun c19 => ?_) (fun c19 => absurd c19 (by decide))
        refine lv_iconst (v := 0) hx hb dX12_mill_47 (by decide) ?_
        refine lv_iconst (v := 2) hx hb dX12_mill_48 (by decide) ?_
        have hPc := hP.sub (ws' := [(h0, .inr (15, mF q 0))]) [1] rfl
        have hDc := hD.sub (ws' := [(h0, .inr (15, mF q 0))]) [1] (by decide) rfl
        have hKc := hK.sub (tys' := []) [] rfl
        have hFc := va_free (wc := [(h0, .inr (15, mF q 0))]) hD hS hA [1] rfl
        refine va_calli (va_runV (As := [.int 0, .int 2]) (rest := []) ⟨hx, hb, hml, hown, hts⟩ (c_m_throwsIf0 l dC dI h0 (mF q 0) 2 H.size ) (cwV 2 hts (goodIn_app (goodIn_r _ [10, 11, 12, 6] (by decide +kernel) (by decide +kernel)) (goodIn_ca (goodIn_r _ [9] (by decide +kernel) (by decide +kernel)) (bs_in _ _))) rfl rfl rfl (by decide +kernel) ⟨(Nat.le_of_ble_eq_true rfl), (Nat.le_of_ble_eq_true rfl)⟩) ⟨fun a U g mk q => by obtain ⟨q0, q1, qP, qK, qD⟩ := q; exact ⟨q0, q1, qP, va_K.moved (u := U) (U := U.calling g mk a) (Vm.Alike.refl U.vm) qK, qD⟩, va_recv hKc hPc (ci := 15) (q0 := 0) rfl rfl, fun U hU hW => ⟨rfl, by rw [hU], by rw [hU]; exact hPc, va_K.moved hW.alike hKc, hDc.weaken (fun _ _ _ _ => trivial)⟩⟩ rfl rfl hl.1 rfl (lv_room (Nat.le_of_ble_eq_true rfl)) dX12_mill_49 ⟨(Nat.le_of_ble_eq_true rfl), (Nat.le_of_ble_eq_true rfl)⟩) hS (fun q _ h => hFc q h) hFc (fun r21 u t H1 locs ht hvm hw22 hB hz1 hk1 hS => ?_)
        obtain ⟨hP1, hD1⟩ := hB
        rw [ht] at hP1
        obtain ⟨hP, hD⟩ := va_join (wr := [(q 1, .inl ((cm 1), 1749, .inl (fun _ => 0)))]) (w1 := [(h0, .inr (15, mF q 0))]) hP hD [1] [0] rfl rfl (by decide) (by decide) hk1 hFc hP1 hD1
        generalize H1 = H at hP hS ⊢
        have hP : va_P (dC, dI) vwCl [(q 1, .inl ((cm 1), 1749, .inl (fun _ => 0))), (h0, .inr (15, mF q 0))] H := hP
        have hD : va_D A [(q 1, .inl ((cm 1), 1749, .inl (fun _ => 0))), (h0, .inr (15, mF q 0))] := hD
        try dsimp only at hw22
        obtain rfl : 0 = r21 := (hw22).symm
        refine lv_if_ne (tgt := 81) hx hb dX12_mill_52 (by decide) (fun c23 => absurd c23 (by decide)) (fun c23 => ?_)
        refine lv_aload_n hx hb dX12_mill_55 rfl (lv_at hl 0 rfl) ?_
        refine lv_aload_n hx hb dX12_mill_56 rfl (lv_at hl 0 rfl) ?_
        refine va_get (D := (dC, dI)) (ci := 15) (v := .ref (q 1)) (C := RX12) (T := TX12) (N := 78) hx hb hts bF_X12 hown hK hP 1 rfl rfl 1 (by decide) (ht_at hts 12 rfl) (fun _ h9 => h9) rfl dX12_mill_57 ?_
        refine lv_sipush (v := 1428) hx hb dX12_mill_60 (by decide) ?_
        refine va_iald hx hb hK hP 0 0 rfl rfl (by unfold vp_in; decide) dX12_mill_63 ?_
        refine lv_topi (fun x24 ex24 => ?_)
        obtain rfl : 0 = x24 := (ex24).symm
        refine lv_bipush (v := 30) hx hb dX12_mill_64 (by decide) ?_
        refine lv_icmp_ne (tgt := 73) hx hb dX12_mill_66 (by decide) (fun c25 => ?_) (fun c25 => absurd c25 (by decide))
        refine lv_iconst (v := 0) hx hb dX12_mill_73 (by decide) ?_
        refine lv_iconst (v := 3) hx hb dX12_mill_74 (by decide) ?_
        have hPc := hP.sub (ws' := [(h0, .inr (15, mF q 0))]) [1] rfl
        have hDc := hD.sub (ws' := [(h0, .inr (15, mF q 0))]) [1] (by decide) rfl
        have hKc := hK.sub (tys' := []) [] rfl
        have hFc := va_free (wc := [(h0, .inr (15, mF q 0))]) hD hS hA [1] rfl
        refine va_calli (va_runV (As := [.int 0, .int 3]) (rest := []) ⟨hx, hb, hml, hown, hts⟩ (c_m_throwsIf0 l dC dI h0 (mF q 0) 3 H.size ) (cwV 2 hts (goodIn_app (goodIn_r _ [10, 11, 12, 6] (by decide +kernel) (by decide +kernel)) (goodIn_ca (goodIn_r _ [9] (by decide +kernel) (by decide +kernel)) (bs_in _ _))) rfl rfl rfl (by decide +kernel) ⟨(Nat.le_of_ble_eq_true rfl), (Nat.le_of_ble_eq_true rfl)⟩) ⟨fun a U g mk q => by obtain ⟨q0, q1, qP, qK, qD⟩ := q; exact ⟨q0, q1, qP, va_K.moved (u := U) (U := U.calling g mk a) (Vm.Alike.refl U.vm) qK, qD⟩, va_recv hKc hPc (ci := 15) (q0 := 0) rfl rfl, fun U hU hW => ⟨rfl, by rw [hU], by rw [hU]; exact hPc, va_K.moved hW.alike hKc, hDc.weaken (fun _ _ _ _ => trivial)⟩⟩ rfl rfl hl.1 rfl (lv_room (Nat.le_of_ble_eq_true rfl)) dX12_mill_75 ⟨(Nat.le_of_ble_eq_true rfl), (Nat.le_of_ble_eq_true rfl)⟩) hS (fun q _ h => hFc q h) hFc (fun r27 u t H1 locs ht hvm hw28 hB hz1 hk1 hS => ?_)
        obtain ⟨hP1, hD1⟩ := hB
        rw [ht] at hP1
        obtain ⟨hP, hD⟩ := va_join (wr := [(q 1, .inl ((cm 1), 1749, .inl (fun _ => 0)))]) (w1 := [(h0, .inr (15, mF q 0))]) hP hD [1] [0] rfl rfl (by decide) (by decide) hk1 hFc hP1 hD1
        generalize H1 = H at hP hS ⊢
        have hP : va_P (dC, dI) vwCl [(q 1, .inl ((cm 1), 1749, .inl (fun _ => 0))), (h0, .inr (15, mF q 0))] H := hP
        have hD : va_D A [(q 1, .inl ((cm 1), 1749, .inl (fun _ => 0))), (h0, .inr (15, mF q 0))] := hD
        try dsimp only at hw28
        obtain rfl : 0 = r27 := (hw28).symm
        refine lv_if_eq (tgt := 83) hx hb dX12_mill_78 (by decide) (fun c29 => ?_) (fun c29 => absurd c29 (by decide))
        refine lv_aload_n hx hb dX12_mill_83 rfl (lv_at hl 0 rfl) ?_
        refine lv_iload_n hx hb dX12_mill_84 rfl (lv_at hl 1 rfl) ?_
        have hPc := hP.sub (ws' := [(h0, .inr (15, mF q 0)), (q 1, .inl ((cm 1), 1749, .inl (fun _ => 0)))]) [1, 0] rfl
        have hDc := hD.sub (ws' := [(h0, .inr (15, mF q 0)), (q 1, .inl ((cm 1), 1749, .inl (fun _ => 0)))]) [1, 0] (by decide) rfl
        have hKc := hK.sub (tys' := [((cm 1), .int)]) [0] rfl
        have hFc := va_free (wc := [(h0, .inr (15, mF q 0)), (q 1, .inl ((cm 1), 1749, .inl (fun _ => 0)))]) hD hS hA [1, 0] rfl
        refine va_calli (va_runV (As := [.int p0]) (rest := []) ⟨hx, hb, hml, hown, hts⟩ (m_noPlace l dC dI h0 q cm p0 H.size hc4) (cwV 1 hts (goodIn_app (goodIn_r _ [19, 20, 21, 6] (by decide +kernel) (by decide +kernel)) (goodIn_ca (goodIn_r _ [14, 15, 13, 16, 17, 18, 6] (by decide +kernel) (by decide +kernel)) (bs_in _ _))) rfl rfl rfl (by decide +kernel) ⟨(Nat.le_of_ble_eq_true rfl), (Nat.le_of_ble_eq_true rfl)⟩) ⟨fun a U g mk q => by obtain ⟨q0, q1, qP, qK, qD⟩ := q; exact ⟨q0, q1, qP, va_K.moved (u := U) (U := U.calling g mk a) (Vm.Alike.refl U.vm) qK, qD⟩, va_recv hKc hPc (ci := 15) (q0 := 0) rfl rfl, fun U hU hW => ⟨rfl, by rw [hU], by rw [hU]; exact hPc, va_K.moved hW.alike hKc, hDc.weaken (fun _ _ _ _ => trivial)⟩⟩ rfl rfl hl.1 rfl (lv_room (Nat.le_of_ble_eq_true rfl)) dX12_mill_85 ⟨(Nat.le_of_ble_eq_true rfl), (Nat.le_of_ble_eq_true rfl)⟩) hS (fun q _ h => hFc q h) hFc (fun r31 u t H1 locs ht hvm hw32 hB hz1 hk1 hS => ?_)
        obtain ⟨hP1, hD1⟩ := hB
        rw [ht] at hP1
        obtain ⟨hP, hD⟩ := va_join (wr := []) (w1 := [(h0, .inr (15, mF q 0)), (q 1, .inl ((cm 1), 1749, .inl (fun _ => 0)))]) hP hD [1, 0] [] rfl rfl (by decide) (by decide) hk1 hFc hP1 hD1
        generalize H1 = H at hP hS ⊢
        have hP : va_P (dC, dI) vwCl [(h0, .inr (15, mF q 0)), (q 1, .inl ((cm 1), 1749, .inl (fun _ => 0)))] H := hP
        have hD : va_D A [(h0, .inr (15, mF q 0)), (q 1, .inl ((cm 1), 1749, .inl (fun _ => 0)))] := hD
        try dsimp only at hw32
        obtain rfl : 1 = r31 := (hw32).symm
        refine lv_if_ne (tgt := 108) hx hb dX12_mill_88 (by decide) (fun c33 => ?_) (fun c33 => absurd c33 (by decide))
        refine lv_iconst (v := (-1)) hx hb dX12_mill_108 (by decide) ?_
        exact W.iret (v := (-1)) hx hb hr (fun t ht hW => ⟨⟨(-1), (mF q 0), rfl, (by unfold T_mill; rw [if_pos hc4, if_pos hc9, if_pos hc18]; (first | exact ⟨rfl, fun _ => rfl⟩ | exact ⟨rfl, fun h => absurd h (by decide)⟩)), by rw [ht]; exact hP.sub (ws' := [(h0, .inr (15, mF q 0))]) [0] rfl, hD.sub (ws' := [(h0, .inr (15, mF q 0))]) [0] (by decide) rfl⟩, hS.F ht⟩) hS.2.2 dX12_mill_109
      · rw [if_neg hc18] at hw17
        subst hw17
        refine lv_if_ne (tgt := 47) hx hb dX12_mill_40 (by decide) (fun c34 => absurd c34 (by decide)) (fun c34 => ?_)
        refine lv_iconst (v := 1) hx hb dX12_mill_43 (by decide) ?_
        refine lv_goto (tgt := 48) hx hb dX12_mill_44 (by decide) ?_
        refine lv_iconst (v := 2) hx hb dX12_mill_48 (by decide) ?_
        have hPc := hP.sub (ws' := [(h0, .inr (15, mF q 0))]) [1] rfl
        have hDc := hD.sub (ws' := [(h0, .inr (15, mF q 0))]) [1] (by decide) rfl
        have hKc := hK.sub (tys' := []) [] rfl
        have hFc := va_free (wc := [(h0, .inr (15, mF q 0))]) hD hS hA [1] rfl
        refine va_calli (va_runV (As := [.int 1, .int 2]) (rest := []) ⟨hx, hb, hml, hown, hts⟩ (c_m_throwsIf1 l dC dI h0 (mF q 0) 2 H.size rfl) (cwV 2 hts (goodIn_app (goodIn_r _ [10, 11, 12, 6] (by decide +kernel) (by decide +kernel)) (goodIn_ca (goodIn_r _ [9, 1] (by decide +kernel) (by decide +kernel)) (bs_in _ _))) rfl rfl rfl (by decide +kernel) ⟨(Nat.le_of_ble_eq_true rfl), (Nat.le_of_ble_eq_true rfl)⟩) ⟨fun a U g mk q => by obtain ⟨q0, q1, qP, qK, qD⟩ := q; exact ⟨q0, q1, qP, va_K.moved (u := U) (U := U.calling g mk a) (Vm.Alike.refl U.vm) qK, qD⟩, va_recv hKc hPc (ci := 15) (q0 := 0) rfl rfl, fun U hU hW => ⟨rfl, by rw [hU], by rw [hU]; exact hPc, va_K.moved hW.alike hKc, hDc.weaken (fun _ _ _ _ => trivial)⟩⟩ rfl rfl hl.1 rfl (lv_room (Nat.le_of_ble_eq_true rfl)) dX12_mill_49 ⟨(Nat.le_of_ble_eq_true rfl), (Nat.le_of_ble_eq_true rfl)⟩) hS (fun q _ h => hFc q h) hFc (fun r36 u t H1 locs ht hvm hw37 hB hz1 hk1 hS => ?_)
        obtain ⟨hP1, hD1⟩ := hB
        rw [ht] at hP1
        obtain ⟨hP, hD⟩ := va_join (wr := [(q 1, .inl ((cm 1), 1749, .inl (fun _ => 0)))]) (w1 := [(h0, .inr (15, mF q 2))]) hP hD [1] [0] rfl rfl (by decide) (by decide) hk1 hFc hP1 hD1
        generalize H1 = H at hP hS ⊢
        have hP : va_P (dC, dI) vwCl [(q 1, .inl ((cm 1), 1749, .inl (fun _ => 0))), (h0, .inr (15, mF q 2))] H := hP
        have hD : va_D A [(q 1, .inl ((cm 1), 1749, .inl (fun _ => 0))), (h0, .inr (15, mF q 2))] := hD
        try dsimp only at hw37
        obtain rfl : 1 = r36 := (hw37).symm
        refine lv_if_ne (tgt := 81) hx hb dX12_mill_52 (by decide) (fun c38 => ?_) (fun c38 => absurd c38 (by decide))
        refine lv_iconst (v := 0) hx hb dX12_mill_81 (by decide) ?_
        exact W.iret (v := 0) hx hb hr (fun t ht hW => ⟨⟨0, (mF q 2), rfl, (by unfold T_mill; rw [if_pos hc4, if_pos hc9, if_neg hc18]; (first | exact ⟨rfl, fun _ => rfl⟩ | exact ⟨rfl, fun h => absurd h (by decide)⟩)), by rw [ht]; exact hP.sub (ws' := [(h0, .inr (15, mF q 2))]) [1] rfl, hD.sub (ws' := [(h0, .inr (15, mF q 2))]) [1] (by decide) rfl⟩, hS.F ht⟩) hS.2.2 dX12_mill_82
    · rw [if_neg hc9] at hw8
      subst hw8
      refine lv_if_eq (tgt := 24) hx hb dX12_mill_17 (by decide) (fun c39 => absurd c39 (by decide)) (fun c39 => ?_)
      refine lv_iconst (v := 1) hx hb dX12_mill_20 (by decide) ?_
      refine lv_goto (tgt := 25) hx hb dX12_mill_21 (by decide) ?_
      refine lv_iconst (v := 1) hx hb dX12_mill_25 (by decide) ?_
      have hPc := hP.sub (ws' := [(h0, .inr (15, mF q 0))]) [0] rfl
      have hDc := hD.sub (ws' := [(h0, .inr (15, mF q 0))]) [0] (by decide) rfl
      have hKc := hK.sub (tys' := []) [] rfl
      have hFc := va_free (wc := [(h0, .inr (15, mF q 0))]) hD hS hA [0] rfl
      refine va_calli (va_runV (As := [.int 1, .int 1]) (rest := []) ⟨hx, hb, hml, hown, hts⟩ (c_m_throwsIf1 l dC dI h0 (mF q 0) 1 H.size rfl) (cwV 2 hts (goodIn_app (goodIn_r _ [10, 11, 12, 6] (by decide +kernel) (by decide +kernel)) (goodIn_ca (goodIn_r _ [9, 1] (by decide +kernel) (by decide +kernel)) (bs_in _ _))) rfl rfl rfl (by decide +kernel) ⟨(Nat.le_of_ble_eq_true rfl), (Nat.le_of_ble_eq_true rfl)⟩) ⟨fun a U g mk q => by obtain ⟨q0, q1, qP, qK, qD⟩ := q; exact ⟨q0, q1, qP, va_K.moved (u := U) (U := U.calling g mk a) (Vm.Alike.refl U.vm) qK, qD⟩, va_recv hKc hPc (ci := 15) (q0 := 0) rfl rfl, fun U hU hW => ⟨rfl, by rw [hU], by rw [hU]; exact hPc, va_K.moved hW.alike hKc, hDc.weaken (fun _ _ _ _ => trivial)⟩⟩ rfl rfl hl.1 rfl (lv_room (Nat.le_of_ble_eq_true rfl)) dX12_mill_26 ⟨(Nat.le_of_ble_eq_true rfl), (Nat.le_of_ble_eq_true rfl)⟩) hS (fun q _ h => hFc q h) hFc (fun r41 u t H1 locs ht hvm hw42 hB hz1 hk1 hS => ?_)
      obtain ⟨hP1, hD1⟩ := hB
      rw [ht] at hP1
      obtain ⟨hP, hD⟩ := va_join (wr := [(q 1, .inl ((cm 1), 1749, .inl (fun _ => 0)))]) (w1 := [(h0, .inr (15, mF q 1))]) hP hD [0] [1] rfl rfl (by decide) (by decide) hk1 hFc hP1 hD1
      generalize H1 = H at hP hS ⊢
      have hP : va_P (dC, dI) vwCl [(q 1, .inl ((cm 1), 1749, .inl (fun _ => 0))), (h0, .inr (15, mF q 1))] H := hP
      have hD : va_D A [(q 1, .inl ((cm 1), 1749, .inl (fun _ => 0))), (h0, .inr (15, mF q 1))] := hD
      try dsimp only at hw42
      obtain rfl : 1 = r41 := (hw42).symm
      refine lv_if_ne (tgt := 81) hx hb dX12_mill_29 (by decide) (fun c43 => ?_) (fun c43 => absurd c43 (by decide))
      refine lv_iconst (v := 0) hx hb dX12_mill_81 (by decide) ?_
      exact W.iret (v := 0) hx hb hr (fun t ht hW => ⟨⟨0, (mF q 1), rfl, (by unfold T_mill; rw [if_pos hc4, if_neg hc9]; (first | exact ⟨rfl, fun _ => rfl⟩ | exact ⟨rfl, fun h => absurd h (by decide)⟩)), by rw [ht]; exact hP.sub (ws' := [(h0, .inr (15, mF q 1))]) [1] rfl, hD.sub (ws' := [(h0, .inr (15, mF q 1))]) [1] (by decide) rfl⟩, hS.F ht⟩) hS.2.2 dX12_mill_82
  · rw [if_neg hc4] at hw3
    subst hw3
    refine lv_if_ne (tgt := 20) hx hb dX12_mill_10 (by decide) (fun c44 => ?_) (fun c44 => absurd c44 (by decide))
    refine lv_iconst (v := 1) hx hb dX12_mill_20 (by decide) ?_
    refine lv_goto (tgt := 25) hx hb dX12_mill_21 (by decide) ?_
    refine lv_iconst (v := 1) hx hb dX12_mill_25 (by decide) ?_
    have hPc := hP.sub (ws' := [(h0, .inr (15, mF q 0))]) [0] rfl
    have hDc := hD.sub (ws' := [(h0, .inr (15, mF q 0))]) [0] (by decide) rfl
    have hKc := hK.sub (tys' := []) [] rfl
    have hFc := va_free (wc := [(h0, .inr (15, mF q 0))]) hD hS hA [0] rfl
    refine va_calli (va_runV (As := [.int 1, .int 1]) (rest := []) ⟨hx, hb, hml, hown, hts⟩ (c_m_throwsIf1 l dC dI h0 (mF q 0) 1 H.size rfl) (cwV 2 hts (goodIn_app (goodIn_r _ [10, 11, 12, 6] (by decide +kernel) (by decide +kernel)) (goodIn_ca (goodIn_r _ [9, 1] (by decide +kernel) (by decide +kernel)) (bs_in _ _))) rfl rfl rfl (by decide +kernel) ⟨(Nat.le_of_ble_eq_true rfl), (Nat.le_of_ble_eq_true rfl)⟩) ⟨fun a U g mk q => by obtain ⟨q0, q1, qP, qK, qD⟩ := q; exact ⟨q0, q1, qP, va_K.moved (u := U) (U := U.calling g mk a) (Vm.Alike.refl U.vm) qK, qD⟩, va_recv hKc hPc (ci := 15) (q0 := 0) rfl rfl, fun U hU hW => ⟨rfl, by rw [hU], by rw [hU]; exact hPc, va_K.moved hW.alike hKc, hDc.weaken (fun _ _ _ _ => trivial)⟩⟩ rfl rfl hl.1 rfl (lv_room (Nat.le_of_ble_eq_true rfl)) dX12_mill_26 ⟨(Nat.le_of_ble_eq_true rfl), (Nat.le_of_ble_eq_true rfl)⟩) hS (fun q _ h => hFc q h) hFc (fun r46 u t H1 locs ht hvm hw47 hB hz1 hk1 hS => ?_)
    obtain ⟨hP1, hD1⟩ := hB
    rw [ht] at hP1
    obtain ⟨hP, hD⟩ := va_join (wr := [(q 1, .inl ((cm 1), 1749, .inl (fun _ => 0)))]) (w1 := [(h0, .inr (15, mF q 1))]) hP hD [0] [1] rfl rfl (by decide) (by decide) hk1 hFc hP1 hD1
    generalize H1 = H at hP hS ⊢
    have hP : va_P (dC, dI) vwCl [(q 1, .inl ((cm 1), 1749, .inl (fun _ => 0))), (h0, .inr (15, mF q 1))] H := hP
    have hD : va_D A [(q 1, .inl ((cm 1), 1749, .inl (fun _ => 0))), (h0, .inr (15, mF q 1))] := hD
    try dsimp only at hw47
    obtain rfl : 1 = r46 := (hw47).symm
    refine lv_if_ne (tgt := 81) hx hb dX12_mill_29 (by decide) (fun c48 => ?_) (fun c48 => absurd c48 (by decide))
    refine lv_iconst (v := 0) hx hb dX12_mill_81 (by decide) ?_
    exact W.iret (v := 0) hx hb hr (fun t ht hW => ⟨⟨0, (mF q 1), rfl, (by unfold T_mill; rw [if_neg hc4]; (first | exact ⟨rfl, fun _ => rfl⟩ | exact ⟨rfl, fun h => absurd h (by decide)⟩)), by rw [ht]; exact hP.sub (ws' := [(h0, .inr (15, mF q 1))]) [1] rfl, hD.sub (ws' := [(h0, .inr (15, mF q 1))]) [1] (by decide) rfl⟩, hS.F ht⟩) hS.2.2 dX12_mill_82
def w_m_sluice : List Cond := .code yX12_sluice cX12_sluice 4 (some .int) :: ([.fieldLink RX12 194 "SeaLandModel" "thrown" "I", .code yX12_noSquare cX12_noSquare 1 (some .boolean), .code yX12_in cX12_in 3 (some .boolean), .methodLink RX12 197 yX12_in, .static yX12_in, .initialized RX12, .methodLink RX12 220 yX12_noSquare, .static yX12_noSquare, .code yX12_throwsIf cX12_throwsIf 3 (some .boolean), .methodLink RX12 224 yX12_throwsIf, .instanceMethod yX12_throwsIf, .selects RX12 yX12_throwsIf yX12_throwsIf, .fieldLink RX12 9 "SeaLandModel" "world" "[I", .code yX12_noPlace cX12_noPlace 2 (some .boolean), .code yX12_isLand cX12_isLand 2 (some .boolean), .methodLink RX12 235 yX12_isLand, .instanceMethod yX12_isLand, .selects RX12 yX12_isLand yX12_isLand, .methodLink RX12 259 yX12_noPlace, .instanceMethod yX12_noPlace, .selects RX12 yX12_noPlace yX12_noPlace] ++ bs)
set_option maxHeartbeats 4000000 in
set_option maxRecDepth 100000 in
theorem m_sluice (l : Launch) (dC : Nat → ClassId) (dI : Nat → Nat → Nat) (h0 : Nat) (q : Nat → Nat) (cm : Nat → ClassId) (p0 p1 p2 : Int32) (sz : Nat) : Met l yX12_sluice w_m_sluice ({ frames := 2, cells := 0, slots := 0, locals := 42 }) (va_Pc [.ref h0, .int p0, .int p1, .int p2] (fun U => U.heap.size = sz ∧ va_P (dC, dI) vwCl [(h0, .inr (15, mF q 0)), (q 1, .inl ((cm 1), 1749, .inl (fun _ => 0)))] U.heap ∧ va_K (dC, dI) vwCl [((cm 1), .int)] U ∧ va_D (fun _ => True) [(h0, .inr (15, mF q 0)), (q 1, .inl ((cm 1), 1749, .inl (fun _ => 0)))])) (va_Qi (fun (r : Int32) (u : List Value) => u[0]? = some (.int (T_sluice p0 p1 p2).1) ∧ ((T_sluice p0 p1 p2).1 = 0 → r = (T_sluice p0 p1 p2).2)) (fun (fs : List Value) (t : State) => va_P (dC, dI) vwCl [(h0, .inr (15, fs))] t.heap ∧ va_D (va_A [(h0, .inr (15, mF q 0)), (q 1, .inl ((cm 1), 1749, .inl (fun _ => 0)))] sz) [(h0, .inr (15, fs))]) (va_A [(h0, .inr (15, mF q 0)), (q 1, .inl ((cm 1), 1749, .inl (fun _ => 0)))] sz)) 0 0 (va_A [(h0, .inr (15, mF q 0)), (q 1, .inl ((cm 1), 1749, .inl (fun _ => 0)))] sz) := by
  refine Met.ofW (cc := cX12_sluice) (maxL := 4) (ret := (some .int)) (by decide) rfl ?_
  intro p e s m args below meth c s₁ B hml hv
  obtain ⟨rfl, hsz, hP, hK, hD0⟩ := hv
  have hx := B.exec
  have hb := B.bytes
  have hr := B.returns
  have hts := atoms_spec (ws := w_m_sluice) B.pre
  have hown : s.vm.findClass RX12 = some m.cls := findClass_of_methodNamed B.named
  have hlocks := B.notSynchronized
  subst hsz
  have hD := hD0.self (sz := s.heap.size)
  generalize hAe : va_A [(h0, .inr (15, mF q 0)), (q 1, .inl ((cm 1), 1749, .inl (fun _ => 0)))] s.heap.size = A at hD ⊢
  have hA : ∀ q : Nat, s.heap.size ≤ q → A q := fun q h => by rw [← hAe]; exact Or.inr h
  have hS : va_S A s.heap s.heap [] := va_S.rf
  have hP : va_P (dC, dI) vwCl [(h0, .inr (15, mF q 0)), (q 1, .inl ((cm 1), 1749, .inl (fun _ => 0)))] s.heap := hP
  have hl := lv_entry ([.ref h0, .int p0, .int p1, .int p2]) (n := 4) (Nat.le_of_ble_eq_true rfl)
  rw [lg_entry_eq]
  generalize (lg_sl ([.ref h0, .int p0, .int p1, .int p2]) ++ List.replicate (4 - (lg_sl ([.ref h0, .int p0, .int p1, .int p2])).length) Slot.unset).toArray = ls at hl ⊢
  have hl : lv_has ls 4 [(0, .ref h0), (1, .int p0), (2, .int p1), (3, .int p2)] := hl
  refine lv_aload_n hx hb dX12_sluice_0 rfl (lv_at hl 0 rfl) ?_
  refine lv_iconst (v := 0) hx hb dX12_sluice_1 (by decide) ?_
  refine va_put (D := (dC, dI)) (ci := 15) (v := .int 0) (ty := .int) (C := RX12) (T := TX12) (N := 78) hx hb hts bF_X12 tyX12 tyX12_ok nmX12 hown hK hP hD hS 0 rfl rfl 0 (by decide) (ht_at hts 0 rfl) (fun _ h9 => h9) rfl (by decide +kernel) rfl rfl (Nat.le_of_ble_eq_true rfl) dX12_sluice_2 (fun H locs hP hD hS => ?_)
  have hP : va_P (dC, dI) vwCl [(h0, .inr (15, mF q 0)), (q 1, .inl ((cm 1), 1749, .inl (fun _ => 0)))] H := hP
  have hD : va_D A [(h0, .inr (15, mF q 0)), (q 1, .inl ((cm 1), 1749, .inl (fun _ => 0)))] := hD
  refine lv_aload_n hx hb dX12_sluice_5 rfl (lv_at hl 0 rfl) ?_
  refine lv_iload_n hx hb dX12_sluice_6 rfl (lv_at hl 1 rfl) ?_
  have hPc := hP.sub (ws' := []) [] rfl
  have hDc := hD.sub (ws' := []) [] (by decide) rfl
  have hKc := hK.sub (tys' := []) [] rfl
  have hFc := va_free (wc := []) hD hS hA [] rfl
  refine va_calli (va_runS (As := [.int p0]) (rest := [.ref h0]) ⟨hx, hb, hml, hown, hts⟩ (c_m_noSquare l dC dI p0 H.size ) (va_cwS 1 hts (goodIn_app (goodIn_r _ [7, 8, 6] (by decide +kernel) (by decide +kernel)) (goodIn_ca (goodIn_r _ [2, 3, 4, 5, 6] (by decide +kernel) (by decide +kernel)) (bs_in _ _))) rfl rfl rfl (by decide +kernel) ⟨(Nat.le_of_ble_eq_true rfl), (Nat.le_of_ble_eq_true rfl)⟩) ⟨fun a U g mk q => by obtain ⟨q0, q1, qP, qK, qD⟩ := q; exact ⟨q0, q1, qP, va_K.moved (u := U) (U := U.calling g mk a) (Vm.Alike.refl U.vm) qK, qD⟩, fun U hU hW => ⟨rfl, by rw [hU], by rw [hU]; exact hPc, va_K.moved hW.alike hKc, hDc.weaken (fun _ _ _ _ => trivial)⟩⟩ rfl rfl hl.1 rfl (lv_room (Nat.le_of_ble_eq_true rfl)) dX12_sluice_7 ⟨(Nat.le_of_ble_eq_true rfl), (Nat.le_of_ble_eq_true rfl)⟩) hS (fun q _ h => hFc q h) hFc (fun r2 u t H1 locs ht hvm hw3 hB hz1 hk1 hS => ?_)
  have hP1 : va_P (dC, dI) vwCl [] H1 := nilP
  have hD1 : va_D (va_A [] H.size) [] := nilD
  have hK := hK
  obtain ⟨hP, hD⟩ := va_join (wr := [(h0, .inr (15, mF q 0)), (q 1, .inl ((cm 1), 1749, .inl (fun _ => 0)))]) (w1 := []) hP hD [] [0, 1] rfl rfl (by decide) (by decide) hk1 hFc hP1 hD1
  generalize H1 = H at hP hS ⊢
  have hP : va_P (dC, dI) vwCl [(h0, .inr (15, mF q 0)), (q 1, .inl ((cm 1), 1749, .inl (fun _ => 0)))] H := hP
  have hD : va_D A [(h0, .inr (15, mF q 0)), (q 1, .inl ((cm 1), 1749, .inl (fun _ => 0)))] := hD
  try dsimp only at hw3
  by_cases hc4 : 0 ≤ p0 ∧ p0 ≤ 95
  · rw [if_pos hc4] at hw3
    subst hw3
    refine lv_if_ne (tgt := 20) hx hb dX12_sluice_10 (by decide) (fun c5 => absurd c5 (by decide)) (fun c5 => ?_)
    refine lv_iload_n hx hb dX12_sluice_13 rfl (lv_at hl 2 rfl) ?_
    have hPc := hP.sub (ws' := []) [] rfl
    have hDc := hD.sub (ws' := []) [] (by decide) rfl
    have hKc := hK.sub (tys' := []) [] rfl
    have hFc := va_free (wc := []) hD hS hA [] rfl
    refine va_calli (va_runS (As := [.int p1]) (rest := [.ref h0]) ⟨hx, hb, hml, hown, hts⟩ (c_m_noSquare l dC dI p1 H.size ) (va_cwS 1 hts (goodIn_app (goodIn_r _ [7, 8, 6] (by decide +kernel) (by decide +kernel)) (goodIn_ca (goodIn_r _ [2, 3, 4, 5, 6] (by decide +kernel) (by decide +kernel)) (bs_in _ _))) rfl rfl rfl (by decide +kernel) ⟨(Nat.le_of_ble_eq_true rfl), (Nat.le_of_ble_eq_true rfl)⟩) ⟨fun a U g mk q => by obtain ⟨q0, q1, qP, qK, qD⟩ := q; exact ⟨q0, q1, qP, va_K.moved (u := U) (U := U.calling g mk a) (Vm.Alike.refl U.vm) qK, qD⟩, fun U hU hW => ⟨rfl, by rw [hU], by rw [hU]; exact hPc, va_K.moved hW.alike hKc, hDc.weaken (fun _ _ _ _ => trivial)⟩⟩ rfl rfl hl.1 rfl (lv_room (Nat.le_of_ble_eq_true rfl)) dX12_sluice_14 ⟨(Nat.le_of_ble_eq_true rfl), (Nat.le_of_ble_eq_true rfl)⟩) hS (fun q _ h => hFc q h) hFc (fun r7 u t H1 locs ht hvm hw8 hB hz1 hk1 hS => ?_)
    have hP1 : va_P (dC, dI) vwCl [] H1 := nilP
    have hD1 : va_D (va_A [] H.size) [] := nilD
    have hK := hK
    obtain ⟨hP, hD⟩ := va_join (wr := [(h0, .inr (15, mF q 0)), (q 1, .inl ((cm 1), 1749, .inl (fun _ => 0)))]) (w1 := []) hP hD [] [0, 1] rfl rfl (by decide) (by decide) hk1 hFc hP1 hD1
    generalize H1 = H at hP hS ⊢
    have hP : va_P (dC, dI) vwCl [(h0, .inr (15, mF q 0)), (q 1, .inl ((cm 1), 1749, .inl (fun _ => 0)))] H := hP
    have hD : va_D A [(h0, .inr (15, mF q 0)), (q 1, .inl ((cm 1), 1749, .inl (fun _ => 0)))] := hD
    try dsimp only at hw8
    by_cases hc9 : 0 ≤ p1 ∧ p1 ≤ 95
    · rw [if_pos hc9] at hw8
      subst hw8
      refine lv_if_eq (tgt := 24) hx hb dX12_sluice_17 (by decide) (fun c10 => ?_) (fun c10 => absurd c10 (by decide))
      refine lv_iconst (v := 0) hx hb dX12_sluice_24 (by decide) ?_
      refine lv_iconst (v := 1) hx hb dX12_sluice_25 (by decide) ?_
      have hPc := hP.sub (ws' := [(h0, .inr (15, mF q 0))]) [0] rfl
      have hDc := hD.sub (ws' := [(h0, .inr (15, mF q 0))]) [0] (by decide) rfl
      have hKc := hK.sub (tys' := []) [] rfl
      have hFc := va_free (wc := [(h0, .inr (15, mF q 0))]) hD hS hA [0] rfl
      refine va_calli (va_runV (As := [.int 0, .int 1]) (rest := []) ⟨hx, hb, hml, hown, hts⟩ (c_m_throwsIf0 l dC dI h0 (mF q 0) 1 H.size ) (cwV 2 hts (goodIn_app (goodIn_r _ [10, 11, 12, 6] (by decide +kernel) (by decide +kernel)) (goodIn_ca (goodIn_r _ [9] (by decide +kernel) (by decide +kernel)) (bs_in _ _))) rfl rfl rfl (by decide +kernel) ⟨(Nat.le_of_ble_eq_true rfl), (Nat.le_of_ble_eq_true rfl)⟩) ⟨fun a U g mk q => by obtain ⟨q0, q1, qP, qK, qD⟩ := q; exact ⟨q0, q1, qP, va_K.moved (u := U) (U := U.calling g mk a) (Vm.Alike.refl U.vm) qK, qD⟩, va_recv hKc hPc (ci := 15) (q0 := 0) rfl rfl, fun U hU hW => ⟨rfl, by rw [hU], by rw [hU]; exact hPc, va_K.moved hW.alike hKc, hDc.weaken (fun _ _ _ _ => trivial)⟩⟩ rfl rfl hl.1 rfl (lv_room (Nat.le_of_ble_eq_true rfl)) dX12_sluice_26 ⟨(Nat.le_of_ble_eq_true rfl), (Nat.le_of_ble_eq_true rfl)⟩) hS (fun q _ h => hFc q h) hFc (fun r12 u t H1 locs ht hvm hw13 hB hz1 hk1 hS => ?_)
      obtain ⟨hP1, hD1⟩ := hB
      rw [ht] at hP1
      obtain ⟨hP, hD⟩ := va_join (wr := [(q 1, .inl ((cm 1), 1749, .inl (fun _ => 0)))]) (w1 := [(h0, .inr (15, mF q 0))]) hP hD [0] [1] rfl rfl (by decide) (by decide) hk1 hFc hP1 hD1
      generalize H1 = H at hP hS ⊢
      have hP : va_P (dC, dI) vwCl [(q 1, .inl ((cm 1), 1749, .inl (fun _ => 0))), (h0, .inr (15, mF q 0))] H := hP
      have hD : va_D A [(q 1, .inl ((cm 1), 1749, .inl (fun _ => 0))), (h0, .inr (15, mF q 0))] := hD
      try dsimp only at hw13
      obtain rfl : 0 = r12 := (hw13).symm
      refine lv_if_ne (tgt := 81) hx hb dX12_sluice_29 (by decide) (fun c14 => absurd c14 (by decide)) (fun c14 => ?_)
      refine lv_aload_n hx hb dX12_sluice_32 rfl (lv_at hl 0 rfl) ?_
      refine lv_iload_n hx hb dX12_sluice_33 rfl (lv_at hl 3 rfl) ?_
      refine lv_iconst (v := 1) hx hb dX12_sluice_34 (by decide) ?_
      refine lv_bipush (v := 60) hx hb dX12_sluice_35 (by decide) ?_
      have hPc := hP.sub (ws' := []) [] rfl
      have hDc := hD.sub (ws' := []) [] (by decide) rfl
      have hKc := hK.sub (tys' := []) [] rfl
      have hFc := va_free (wc := []) hD hS hA [] rfl
      refine va_calli (va_runS (As := [.int p2, .int 1, .int 60]) (rest := [.ref h0]) ⟨hx, hb, hml, hown, hts⟩ (c_min_ l dC dI p2 1 60 H.size ) (va_cwS 3 hts (goodIn_app (goodIn_r _ [4, 5, 6] (by decide +kernel) (by decide +kernel)) (goodIn_ca (goodIn_r _ [3] (by decide +kernel) (by decide +kernel)) (bs_in _ _))) rfl rfl rfl (by decide +kernel) ⟨(Nat.le_of_ble_eq_true rfl), (Nat.le_of_ble_eq_true rfl)⟩) ⟨fun a U g mk q => by obtain ⟨q0, q1, qP, qK, qD⟩ := q; exact ⟨q0, q1, qP, va_K.moved (u := U) (U := U.calling g mk a) (Vm.Alike.refl U.vm) qK, qD⟩, fun U hU hW => ⟨rfl, by rw [hU], by rw [hU]; exact hPc, va_K.moved hW.alike hKc, hDc.weaken (fun _ _ _ _ => trivial)⟩⟩ rfl rfl hl.1 rfl (lv_room (Nat.le_of_ble_eq_true rfl)) dX12_sluice_37 ⟨(Nat.le_of_ble_eq_true rfl), (Nat.le_of_ble_eq_true rfl)⟩) hS (fun q _ h => hFc q h) hFc (fun r16 u t H1 locs ht hvm hw17 hB hz1 hk1 hS => ?_)
      have hP1 : va_P (dC, dI) vwCl [] H1 := nilP
      have hD1 : va_D (va_A [] H.size) [] := nilD
      have hK := hK
      obtain ⟨hP, hD⟩ := va_join (wr := [(q 1, .inl ((cm 1), 1749, .inl (fun _ => 0))), (h0, .inr (15, mF q 0))]) (w1 := []) hP hD [] [0, 1] rfl rfl (by decide) (by decide) hk1 hFc hP1 hD1
      generalize H1 = H at hP hS ⊢
      have hP : va_P (dC, dI) vwCl [(q 1, .inl ((cm 1), 1749, .inl (fun _ => 0))), (h0, .inr (15, mF q 0))] H := hP
      have hD : va_D A [(q 1, .inl ((cm 1), 1749, .inl (fun _ => 0))), (h0, .inr (15, mF q 0))] := hD
      try dsimp only at hw17
      by_cases hc18 : (1 : Int32) ≤ p2 ∧ p2 ≤ (60 : Int32)
      · rw [if_pos hc18] at hw17
        subst hw17
        refine lv_if_ne (tgt := 47) hx hb dX12_sluice_40 (by decide) (fun c19 => ?_) (fun c19 => absurd c19 (by decide))
        refine lv_iconst (v := 0) hx hb dX12_sluice_47 (by decide) ?_
        refine lv_iconst (v := 2) hx hb dX12_sluice_48 (by decide) ?_
        have hPc := hP.sub (ws' := [(h0, .inr (15, mF q 0))]) [1] rfl
        have hDc := hD.sub (ws' := [(h0, .inr (15, mF q 0))]) [1] (by decide) rfl
        have hKc := hK.sub (tys' := []) [] rfl
        have hFc := va_free (wc := [(h0, .inr (15, mF q 0))]) hD hS hA [1] rfl
        refine va_calli (va_runV (As := [.int 0, .int 2]) (rest := []) ⟨hx, hb, hml, hown, hts⟩ (c_m_throwsIf0 l dC dI h0 (mF q 0) 2 H.size ) (cwV 2 hts (goodIn_app (goodIn_r _ [10, 11, 12, 6] (by decide +kernel) (by decide +kernel)) (goodIn_ca (goodIn_r _ [9] (by decide +kernel) (by decide +kernel)) (bs_in _ _))) rfl rfl rfl (by decide +kernel) ⟨(Nat.le_of_ble_eq_true rfl), (Nat.le_of_ble_eq_true rfl)⟩) ⟨fun a U g mk q => by obtain ⟨q0, q1, qP, qK, qD⟩ := q; exact ⟨q0, q1, qP, va_K.moved (u := U) (U := U.calling g mk a) (Vm.Alike.refl U.vm) qK, qD⟩, va_recv hKc hPc (ci := 15) (q0 := 0) rfl rfl, fun U hU hW => ⟨rfl, by rw [hU], by rw [hU]; exact hPc, va_K.moved hW.alike hKc, hDc.weaken (fun _ _ _ _ => trivial)⟩⟩ rfl rfl hl.1 rfl (lv_room (Nat.le_of_ble_eq_true rfl)) dX12_sluice_49 ⟨(Nat.le_of_ble_eq_true rfl), (Nat.le_of_ble_eq_true rfl)⟩) hS (fun q _ h => hFc q h) hFc (fun r21 u t H1 locs ht hvm hw22 hB hz1 hk1 hS => ?_)
        obtain ⟨hP1, hD1⟩ := hB
        rw [ht] at hP1
        obtain ⟨hP, hD⟩ := va_join (wr := [(q 1, .inl ((cm 1), 1749, .inl (fun _ => 0)))]) (w1 := [(h0, .inr (15, mF q 0))]) hP hD [1] [0] rfl rfl (by decide) (by decide) hk1 hFc hP1 hD1
        generalize H1 = H at hP hS ⊢
        have hP : va_P (dC, dI) vwCl [(q 1, .inl ((cm 1), 1749, .inl (fun _ => 0))), (h0, .inr (15, mF q 0))] H := hP
        have hD : va_D A [(q 1, .inl ((cm 1), 1749, .inl (fun _ => 0))), (h0, .inr (15, mF q 0))] := hD
        try dsimp only at hw22
        obtain rfl : 0 = r21 := (hw22).symm
        refine lv_if_ne (tgt := 81) hx hb dX12_sluice_52 (by decide) (fun c23 => absurd c23 (by decide)) (fun c23 => ?_)
        refine lv_aload_n hx hb dX12_sluice_55 rfl (lv_at hl 0 rfl) ?_
        refine lv_aload_n hx hb dX12_sluice_56 rfl (lv_at hl 0 rfl) ?_
        refine va_get (D := (dC, dI)) (ci := 15) (v := .ref (q 1)) (C := RX12) (T := TX12) (N := 78) hx hb hts bF_X12 hown hK hP 1 rfl rfl 1 (by decide) (ht_at hts 12 rfl) (fun _ h9 => h9) rfl dX12_sluice_57 ?_
        refine lv_sipush (v := 1428) hx hb dX12_sluice_60 (by decide) ?_
        refine va_iald hx hb hK hP 0 0 rfl rfl (by unfold vp_in; decide) dX12_sluice_63 ?_
        refine lv_topi (fun x24 ex24 => ?_)
        obtain rfl : 0 = x24 := (ex24).symm
        refine lv_bipush (v := 30) hx hb dX12_sluice_64 (by decide) ?_
        refine lv_icmp_ne (tgt := 73) hx hb dX12_sluice_66 (by decide) (fun c25 => ?_) (fun c25 => absurd c25 (by decide))
        refine lv_iconst (v := 0) hx hb dX12_sluice_73 (by decide) ?_
        refine lv_iconst (v := 3) hx hb dX12_sluice_74 (by decide) ?_
        have hPc := hP.sub (ws' := [(h0, .inr (15, mF q 0))]) [1] rfl
        have hDc := hD.sub (ws' := [(h0, .inr (15, mF q 0))]) [1] (by decide) rfl
        have hKc := hK.sub (tys' := []) [] rfl
        have hFc := va_free (wc := [(h0, .inr (15, mF q 0))]) hD hS hA [1] rfl
        refine va_calli (va_runV (As := [.int 0, .int 3]) (rest := []) ⟨hx, hb, hml, hown, hts⟩ (c_m_throwsIf0 l dC dI h0 (mF q 0) 3 H.size ) (cwV 2 hts (goodIn_app (goodIn_r _ [10, 11, 12, 6] (by decide +kernel) (by decide +kernel)) (goodIn_ca (goodIn_r _ [9] (by decide +kernel) (by decide +kernel)) (bs_in _ _))) rfl rfl rfl (by decide +kernel) ⟨(Nat.le_of_ble_eq_true rfl), (Nat.le_of_ble_eq_true rfl)⟩) ⟨fun a U g mk q => by obtain ⟨q0, q1, qP, qK, qD⟩ := q; exact ⟨q0, q1, qP, va_K.moved (u := U) (U := U.calling g mk a) (Vm.Alike.refl U.vm) qK, qD⟩, va_recv hKc hPc (ci := 15) (q0 := 0) rfl rfl, fun U hU hW => ⟨rfl, by rw [hU], by rw [hU]; exact hPc, va_K.moved hW.alike hKc, hDc.weaken (fun _ _ _ _ => trivial)⟩⟩ rfl rfl hl.1 rfl (lv_room (Nat.le_of_ble_eq_true rfl)) dX12_sluice_75 ⟨(Nat.le_of_ble_eq_true rfl), (Nat.le_of_ble_eq_true rfl)⟩) hS (fun q _ h => hFc q h) hFc (fun r27 u t H1 locs ht hvm hw28 hB hz1 hk1 hS => ?_)
        obtain ⟨hP1, hD1⟩ := hB
        rw [ht] at hP1
        obtain ⟨hP, hD⟩ := va_join (wr := [(q 1, .inl ((cm 1), 1749, .inl (fun _ => 0)))]) (w1 := [(h0, .inr (15, mF q 0))]) hP hD [1] [0] rfl rfl (by decide) (by decide) hk1 hFc hP1 hD1
        generalize H1 = H at hP hS ⊢
        have hP : va_P (dC, dI) vwCl [(q 1, .inl ((cm 1), 1749, .inl (fun _ => 0))), (h0, .inr (15, mF q 0))] H := hP
        have hD : va_D A [(q 1, .inl ((cm 1), 1749, .inl (fun _ => 0))), (h0, .inr (15, mF q 0))] := hD
        try dsimp only at hw28
        obtain rfl : 0 = r27 := (hw28).symm
        refine lv_if_eq (tgt := 83) hx hb dX12_sluice_78 (by decide) (fun c29 => ?_) (fun c29 => absurd c29 (by decide))
        refine lv_aload_n hx hb dX12_sluice_83 rfl (lv_at hl 0 rfl) ?_
        refine lv_iload_n hx hb dX12_sluice_84 rfl (lv_at hl 1 rfl) ?_
        have hPc := hP.sub (ws' := [(h0, .inr (15, mF q 0)), (q 1, .inl ((cm 1), 1749, .inl (fun _ => 0)))]) [1, 0] rfl
        have hDc := hD.sub (ws' := [(h0, .inr (15, mF q 0)), (q 1, .inl ((cm 1), 1749, .inl (fun _ => 0)))]) [1, 0] (by decide) rfl
        have hKc := hK.sub (tys' := [((cm 1), .int)]) [0] rfl
        have hFc := va_free (wc := [(h0, .inr (15, mF q 0)), (q 1, .inl ((cm 1), 1749, .inl (fun _ => 0)))]) hD hS hA [1, 0] rfl
        refine va_calli (va_runV (As := [.int p0]) (rest := []) ⟨hx, hb, hml, hown, hts⟩ (m_noPlace l dC dI h0 q cm p0 H.size hc4) (cwV 1 hts (goodIn_app (goodIn_r _ [19, 20, 21, 6] (by decide +kernel) (by decide +kernel)) (goodIn_ca (goodIn_r _ [14, 15, 13, 16, 17, 18, 6] (by decide +kernel) (by decide +kernel)) (bs_in _ _))) rfl rfl rfl (by decide +kernel) ⟨(Nat.le_of_ble_eq_true rfl), (Nat.le_of_ble_eq_true rfl)⟩) ⟨fun a U g mk q => by obtain ⟨q0, q1, qP, qK, qD⟩ := q; exact ⟨q0, q1, qP, va_K.moved (u := U) (U := U.calling g mk a) (Vm.Alike.refl U.vm) qK, qD⟩, va_recv hKc hPc (ci := 15) (q0 := 0) rfl rfl, fun U hU hW => ⟨rfl, by rw [hU], by rw [hU]; exact hPc, va_K.moved hW.alike hKc, hDc.weaken (fun _ _ _ _ => trivial)⟩⟩ rfl rfl hl.1 rfl (lv_room (Nat.le_of_ble_eq_true rfl)) dX12_sluice_85 ⟨(Nat.le_of_ble_eq_true rfl), (Nat.le_of_ble_eq_true rfl)⟩) hS (fun q _ h => hFc q h) hFc (fun r31 u t H1 locs ht hvm hw32 hB hz1 hk1 hS => ?_)
        obtain ⟨hP1, hD1⟩ := hB
        rw [ht] at hP1
        obtain ⟨hP, hD⟩ := va_join (wr := []) (w1 := [(h0, .inr (15, mF q 0)), (q 1, .inl ((cm 1), 1749, .inl (fun _ => 0)))]) hP hD [1, 0] [] rfl rfl (by decide) (by decide) hk1 hFc hP1 hD1
        generalize H1 = H at hP hS ⊢
        have hP : va_P (dC, dI) vwCl [(h0, .inr (15, mF q 0)), (q 1, .inl ((cm 1), 1749, .inl (fun _ => 0)))] H := hP
        have hD : va_D A [(h0, .inr (15, mF q 0)), (q 1, .inl ((cm 1), 1749, .inl (fun _ => 0)))] := hD
        try dsimp only at hw32
        obtain rfl : 1 = r31 := (hw32).symm
        refine lv_if_ne (tgt := 108) hx hb dX12_sluice_88 (by decide) (fun c33 => ?_) (fun c33 => absurd c33 (by decide))
        refine lv_iconst (v := (-1)) hx hb dX12_sluice_108 (by decide) ?_
        exact W.iret (v := (-1)) hx hb hr (fun t ht hW => ⟨⟨(-1), (mF q 0), rfl, (by unfold T_sluice; rw [if_pos hc4, if_pos hc9, if_pos hc18]; (first | exact ⟨rfl, fun _ => rfl⟩ | exact ⟨rfl, fun h => absurd h (by decide)⟩)), by rw [ht]; exact hP.sub (ws' := [(h0, .inr (15, mF q 0))]) [0] rfl, hD.sub (ws' := [(h0, .inr (15, mF q 0))]) [0] (by decide) rfl⟩, hS.F ht⟩) hS.2.2 dX12_sluice_109
      · rw [if_neg hc18] at hw17
        subst hw17
        refine lv_if_ne (tgt := 47) hx hb dX12_sluice_40 (by decide) (fun c34 => absurd c34 (by decide)) (fun c34 => ?_)
        refine lv_iconst (v := 1) hx hb dX12_sluice_43 (by decide) ?_
        refine lv_goto (tgt := 48) hx hb dX12_sluice_44 (by decide) ?_
        refine lv_iconst (v := 2) hx hb dX12_sluice_48 (by decide) ?_
        have hPc := hP.sub (ws' := [(h0, .inr (15, mF q 0))]) [1] rfl
        have hDc := hD.sub (ws' := [(h0, .inr (15, mF q 0))]) [1] (by decide) rfl
        have hKc := hK.sub (tys' := []) [] rfl
        have hFc := va_free (wc := [(h0, .inr (15, mF q 0))]) hD hS hA [1] rfl
        refine va_calli (va_runV (As := [.int 1, .int 2]) (rest := []) ⟨hx, hb, hml, hown, hts⟩ (c_m_throwsIf1 l dC dI h0 (mF q 0) 2 H.size rfl) (cwV 2 hts (goodIn_app (goodIn_r _ [10, 11, 12, 6] (by decide +kernel) (by decide +kernel)) (goodIn_ca (goodIn_r _ [9, 1] (by decide +kernel) (by decide +kernel)) (bs_in _ _))) rfl rfl rfl (by decide +kernel) ⟨(Nat.le_of_ble_eq_true rfl), (Nat.le_of_ble_eq_true rfl)⟩) ⟨fun a U g mk q => by obtain ⟨q0, q1, qP, qK, qD⟩ := q; exact ⟨q0, q1, qP, va_K.moved (u := U) (U := U.calling g mk a) (Vm.Alike.refl U.vm) qK, qD⟩, va_recv hKc hPc (ci := 15) (q0 := 0) rfl rfl, fun U hU hW => ⟨rfl, by rw [hU], by rw [hU]; exact hPc, va_K.moved hW.alike hKc, hDc.weaken (fun _ _ _ _ => trivial)⟩⟩ rfl rfl hl.1 rfl (lv_room (Nat.le_of_ble_eq_true rfl)) dX12_sluice_49 ⟨(Nat.le_of_ble_eq_true rfl), (Nat.le_of_ble_eq_true rfl)⟩) hS (fun q _ h => hFc q h) hFc (fun r36 u t H1 locs ht hvm hw37 hB hz1 hk1 hS => ?_)
        obtain ⟨hP1, hD1⟩ := hB
        rw [ht] at hP1
        obtain ⟨hP, hD⟩ := va_join (wr := [(q 1, .inl ((cm 1), 1749, .inl (fun _ => 0)))]) (w1 := [(h0, .inr (15, mF q 2))]) hP hD [1] [0] rfl rfl (by decide) (by decide) hk1 hFc hP1 hD1
        generalize H1 = H at hP hS ⊢
        have hP : va_P (dC, dI) vwCl [(q 1, .inl ((cm 1), 1749, .inl (fun _ => 0))), (h0, .inr (15, mF q 2))] H := hP
        have hD : va_D A [(q 1, .inl ((cm 1), 1749, .inl (fun _ => 0))), (h0, .inr (15, mF q 2))] := hD
        try dsimp only at hw37
        obtain rfl : 1 = r36 := (hw37).symm
        refine lv_if_ne (tgt := 81) hx hb dX12_sluice_52 (by decide) (fun c38 => ?_) (fun c38 => absurd c38 (by decide))
        refine lv_iconst (v := 0) hx hb dX12_sluice_81 (by decide) ?_
        exact W.iret (v := 0) hx hb hr (fun t ht hW => ⟨⟨0, (mF q 2), rfl, (by unfold T_sluice; rw [if_pos hc4, if_pos hc9, if_neg hc18]; (first | exact ⟨rfl, fun _ => rfl⟩ | exact ⟨rfl, fun h => absurd h (by decide)⟩)), by rw [ht]; exact hP.sub (ws' := [(h0, .inr (15, mF q 2))]) [1] rfl, hD.sub (ws' := [(h0, .inr (15, mF q 2))]) [1] (by decide) rfl⟩, hS.F ht⟩) hS.2.2 dX12_sluice_82
    · rw [if_neg hc9] at hw8
      subst hw8
      refine lv_if_eq (tgt := 24) hx hb dX12_sluice_17 (by decide) (fun c39 => absurd c39 (by decide)) (fun c39 => ?_)
      refine lv_iconst (v := 1) hx hb dX12_sluice_20 (by decide) ?_
      refine lv_goto (tgt := 25) hx hb dX12_sluice_21 (by decide) ?_
      refine lv_iconst (v := 1) hx hb dX12_sluice_25 (by decide) ?_
      have hPc := hP.sub (ws' := [(h0, .inr (15, mF q 0))]) [0] rfl
      have hDc := hD.sub (ws' := [(h0, .inr (15, mF q 0))]) [0] (by decide) rfl
      have hKc := hK.sub (tys' := []) [] rfl
      have hFc := va_free (wc := [(h0, .inr (15, mF q 0))]) hD hS hA [0] rfl
      refine va_calli (va_runV (As := [.int 1, .int 1]) (rest := []) ⟨hx, hb, hml, hown, hts⟩ (c_m_throwsIf1 l dC dI h0 (mF q 0) 1 H.size rfl) (cwV 2 hts (goodIn_app (goodIn_r _ [10, 11, 12, 6] (by decide +kernel) (by decide +kernel)) (goodIn_ca (goodIn_r _ [9, 1] (by decide +kernel) (by decide +kernel)) (bs_in _ _))) rfl rfl rfl (by decide +kernel) ⟨(Nat.le_of_ble_eq_true rfl), (Nat.le_of_ble_eq_true rfl)⟩) ⟨fun a U g mk q => by obtain ⟨q0, q1, qP, qK, qD⟩ := q; exact ⟨q0, q1, qP, va_K.moved (u := U) (U := U.calling g mk a) (Vm.Alike.refl U.vm) qK, qD⟩, va_recv hKc hPc (ci := 15) (q0 := 0) rfl rfl, fun U hU hW => ⟨rfl, by rw [hU], by rw [hU]; exact hPc, va_K.moved hW.alike hKc, hDc.weaken (fun _ _ _ _ => trivial)⟩⟩ rfl rfl hl.1 rfl (lv_room (Nat.le_of_ble_eq_true rfl)) dX12_sluice_26 ⟨(Nat.le_of_ble_eq_true rfl), (Nat.le_of_ble_eq_true rfl)⟩) hS (fun q _ h => hFc q h) hFc (fun r41 u t H1 locs ht hvm hw42 hB hz1 hk1 hS => ?_)
      obtain ⟨hP1, hD1⟩ := hB
      rw [ht] at hP1
      obtain ⟨hP, hD⟩ := va_join (wr := [(q 1, .inl ((cm 1), 1749, .inl (fun _ => 0)))]) (w1 := [(h0, .inr (15, mF q 1))]) hP hD [0] [1] rfl rfl (by decide) (by decide) hk1 hFc hP1 hD1
      generalize H1 = H at hP hS ⊢
      have hP : va_P (dC, dI) vwCl [(q 1, .inl ((cm 1), 1749, .inl (fun _ => 0))), (h0, .inr (15, mF q 1))] H := hP
      have hD : va_D A [(q 1, .inl ((cm 1), 1749, .inl (fun _ => 0))), (h0, .inr (15, mF q 1))] := hD
      try dsimp only at hw42
      obtain rfl : 1 = r41 := (hw42).symm
      refine lv_if_ne (tgt := 81) hx hb dX12_sluice_29 (by decide) (fun c43 => ?_) (fun c43 => absurd c43 (by decide))
      refine lv_iconst (v := 0) hx hb dX12_sluice_81 (by decide) ?_
      exact W.iret (v := 0) hx hb hr (fun t ht hW => ⟨⟨0, (mF q 1), rfl, (by unfold T_sluice; rw [if_pos hc4, if_neg hc9]; (first | exact ⟨rfl, fun _ => rfl⟩ | exact ⟨rfl, fun h => absurd h (by decide)⟩)), by rw [ht]; exact hP.sub (ws' := [(h0, .inr (15, mF q 1))]) [1] rfl, hD.sub (ws' := [(h0, .inr (15, mF q 1))]) [1] (by decide) rfl⟩, hS.F ht⟩) hS.2.2 dX12_sluice_82
  · rw [if_neg hc4] at hw3
    subst hw3
    refine lv_if_ne (tgt := 20) hx hb dX12_sluice_10 (by decide) (fun c44 => ?_) (fun c44 => absurd c44 (by decide))
    refine lv_iconst (v := 1) hx hb dX12_sluice_20 (by decide) ?_
    refine lv_goto (tgt := 25) hx hb dX12_sluice_21 (by decide) ?_
    refine lv_iconst (v := 1) hx hb dX12_sluice_25 (by decide) ?_
    have hPc := hP.sub (ws' := [(h0, .inr (15, mF q 0))]) [0] rfl
    have hDc := hD.sub (ws' := [(h0, .inr (15, mF q 0))]) [0] (by decide) rfl
    have hKc := hK.sub (tys' := []) [] rfl
    have hFc := va_free (wc := [(h0, .inr (15, mF q 0))]) hD hS hA [0] rfl
    refine va_calli (va_runV (As := [.int 1, .int 1]) (rest := []) ⟨hx, hb, hml, hown, hts⟩ (c_m_throwsIf1 l dC dI h0 (mF q 0) 1 H.size rfl) (cwV 2 hts (goodIn_app (goodIn_r _ [10, 11, 12, 6] (by decide +kernel) (by decide +kernel)) (goodIn_ca (goodIn_r _ [9, 1] (by decide +kernel) (by decide +kernel)) (bs_in _ _))) rfl rfl rfl (by decide +kernel) ⟨(Nat.le_of_ble_eq_true rfl), (Nat.le_of_ble_eq_true rfl)⟩) ⟨fun a U g mk q => by obtain ⟨q0, q1, qP, qK, qD⟩ := q; exact ⟨q0, q1, qP, va_K.moved (u := U) (U := U.calling g mk a) (Vm.Alike.refl U.vm) qK, qD⟩, va_recv hKc hPc (ci := 15) (q0 := 0) rfl rfl, fun U hU hW => ⟨rfl, by rw [hU], by rw [hU]; exact hPc, va_K.moved hW.alike hKc, hDc.weaken (fun _ _ _ _ => trivial)⟩⟩ rfl rfl hl.1 rfl (lv_room (Nat.le_of_ble_eq_true rfl)) dX12_sluice_26 ⟨(Nat.le_of_ble_eq_true rfl), (Nat.le_of_ble_eq_true rfl)⟩) hS (fun q _ h => hFc q h) hFc (fun r46 u t H1 locs ht hvm hw47 hB hz1 hk1 hS => ?_)
    obtain ⟨hP1, hD1⟩ := hB
    rw [ht] at hP1
    obtain ⟨hP, hD⟩ := va_join (wr := [(q 1, .inl ((cm 1), 1749, .inl (fun _ => 0)))]) (w1 := [(h0, .inr (15, mF q 1))]) hP hD [0] [1] rfl rfl (by decide) (by decide) hk1 hFc hP1 hD1
    generalize H1 = H at hP hS ⊢
    have hP : va_P (dC, dI) vwCl [(q 1, .inl ((cm 1), 1749, .inl (fun _ => 0))), (h0, .inr (15, mF q 1))] H := hP
    have hD : va_D A [(q 1, .inl ((cm 1), 1749, .inl (fun _ => 0))), (h0, .inr (15, mF q 1))] := hD
    try dsimp only at hw47
    obtain rfl : 1 = r46 := (hw47).symm
    refine lv_if_ne (tgt := 81) hx hb dX12_sluice_29 (by decide) (fun c48 => ?_) (fun c48 => absurd c48 (by decide))
    refine lv_iconst (v := 0) hx hb dX12_sluice_81 (by decide) ?_
    exact W.iret (v := 0) hx hb hr (fun t ht hW => ⟨⟨0, (mF q 1), rfl, (by unfold T_sluice; rw [if_neg hc4]; (first | exact ⟨rfl, fun _ => rfl⟩ | exact ⟨rfl, fun h => absurd h (by decide)⟩)), by rw [ht]; exact hP.sub (ws' := [(h0, .inr (15, mF q 1))]) [1] rfl, hD.sub (ws' := [(h0, .inr (15, mF q 1))]) [1] (by decide) rfl⟩, hS.F ht⟩) hS.2.2 dX12_sluice_82
def w_m_row : List Cond := .code yX12_row cX12_row 3 (some .int) :: ([.fieldLink RX12 194 "SeaLandModel" "thrown" "I", .code yX12_noSquare cX12_noSquare 1 (some .boolean), .code yX12_in cX12_in 3 (some .boolean), .methodLink RX12 197 yX12_in, .static yX12_in, .initialized RX12, .methodLink RX12 220 yX12_noSquare, .static yX12_noSquare, .code yX12_throwsIf cX12_throwsIf 3 (some .boolean), .methodLink RX12 224 yX12_throwsIf, .instanceMethod yX12_throwsIf, .selects RX12 yX12_throwsIf yX12_throwsIf, .fieldLink RX12 238 "SeaLandModel" "rows" "I"] ++ bs)
set_option maxHeartbeats 4000000 in
set_option maxRecDepth 100000 in
theorem m_row (l : Launch) (dC : Nat → ClassId) (dI : Nat → Nat → Nat) (h0 : Nat) (q : Nat → Nat) (cm : Nat → ClassId) (p0 p1 : Int32) (sz : Nat) : Met l yX12_row w_m_row ({ frames := 2, cells := 0, slots := 0, locals := 42 }) (va_Pc [.ref h0, .int p0, .int p1] (fun U => U.heap.size = sz ∧ va_P (dC, dI) vwCl [(h0, .inr (15, mF q 0))] U.heap ∧ va_K (dC, dI) vwCl [] U ∧ va_D (fun _ => True) [(h0, .inr (15, mF q 0))])) (va_Qi (fun (r : Int32) (u : List Value) => u[0]? = some (.int (T_row p0 p1).1) ∧ ((T_row p0 p1).1 = 0 → r = (T_row p0 p1).2)) (fun (fs : List Value) (t : State) => va_P (dC, dI) vwCl [(h0, .inr (15, fs))] t.heap ∧ va_D (va_A [(h0, .inr (15, mF q 0))] sz) [(h0, .inr (15, fs))]) (va_A [(h0, .inr (15, mF q 0))] sz)) 0 0 (va_A [(h0, .inr (15, mF q 0))] sz) := by
  refine Met.ofW (cc := cX12_row) (maxL := 3) (ret := (some .int)) (by decide) rfl ?_
  intro p e s m args below meth c s₁ B hml hv
  obtain ⟨rfl, hsz, hP, hK, hD0⟩ := hv
  have hx := B.exec
  have hb := B.bytes
  have hr := B.returns
  have hts := atoms_spec (ws := w_m_row) B.pre
  have hown : s.vm.findClass RX12 = some m.cls := findClass_of_methodNamed B.named
  have hlocks := B.notSynchronized
  subst hsz
  have hD := hD0.self (sz := s.heap.size)
  generalize hAe : va_A [(h0, .inr (15, mF q 0))] s.heap.size = A at hD ⊢
  have hA : ∀ q : Nat, s.heap.size ≤ q → A q := fun q h => by rw [← hAe]; exact Or.inr h
  have hS : va_S A s.heap s.heap [] := va_S.rf
  have hP : va_P (dC, dI) vwCl [(h0, .inr (15, mF q 0))] s.heap := hP
  have hl := lv_entry ([.ref h0, .int p0, .int p1]) (n := 3) (Nat.le_of_ble_eq_true rfl)
  rw [lg_entry_eq]
  generalize (lg_sl ([.ref h0, .int p0, .int p1]) ++ List.replicate (3 - (lg_sl ([.ref h0, .int p0, .int p1])).length) Slot.unset).toArray = ls at hl ⊢
  have hl : lv_has ls 3 [(0, .ref h0), (1, .int p0), (2, .int p1)] := hl
  refine lv_aload_n hx hb dX12_row_0 rfl (lv_at hl 0 rfl) ?_
  refine lv_iconst (v := 0) hx hb dX12_row_1 (by decide) ?_
  refine va_put (D := (dC, dI)) (ci := 15) (v := .int 0) (ty := .int) (C := RX12) (T := TX12) (N := 78) hx hb hts bF_X12 tyX12 tyX12_ok nmX12 hown hK hP hD hS 0 rfl rfl 0 (by decide) (ht_at hts 0 rfl) (fun _ h9 => h9) rfl (by decide +kernel) rfl rfl (Nat.le_of_ble_eq_true rfl) dX12_row_2 (fun H locs hP hD hS => ?_)
  have hP : va_P (dC, dI) vwCl [(h0, .inr (15, mF q 0))] H := hP
  have hD : va_D A [(h0, .inr (15, mF q 0))] := hD
  refine lv_aload_n hx hb dX12_row_5 rfl (lv_at hl 0 rfl) ?_
  refine lv_iload_n hx hb dX12_row_6 rfl (lv_at hl 2 rfl) ?_
  have hPc := hP.sub (ws' := []) [] rfl
  have hDc := hD.sub (ws' := []) [] (by decide) rfl
  have hKc := hK.sub (tys' := []) [] rfl
  have hFc := va_free (wc := []) hD hS hA [] rfl
  refine va_calli (va_runS (As := [.int p1]) (rest := [.ref h0]) ⟨hx, hb, hml, hown, hts⟩ (c_m_noSquare l dC dI p1 H.size ) (va_cwS 1 hts (goodIn_app (goodIn_r _ [7, 8, 6] (by decide +kernel) (by decide +kernel)) (goodIn_ca (goodIn_r _ [2, 3, 4, 5, 6] (by decide +kernel) (by decide +kernel)) (bs_in _ _))) rfl rfl rfl (by decide +kernel) ⟨(Nat.le_of_ble_eq_true rfl), (Nat.le_of_ble_eq_true rfl)⟩) ⟨fun a U g mk q => by obtain ⟨q0, q1, qP, qK, qD⟩ := q; exact ⟨q0, q1, qP, va_K.moved (u := U) (U := U.calling g mk a) (Vm.Alike.refl U.vm) qK, qD⟩, fun U hU hW => ⟨rfl, by rw [hU], by rw [hU]; exact hPc, va_K.moved hW.alike hKc, hDc.weaken (fun _ _ _ _ => trivial)⟩⟩ rfl rfl hl.1 rfl (lv_room (Nat.le_of_ble_eq_true rfl)) dX12_row_7 ⟨(Nat.le_of_ble_eq_true rfl), (Nat.le_of_ble_eq_true rfl)⟩) hS (fun q _ h => hFc q h) hFc (fun r2 u t H1 locs ht hvm hw3 hB hz1 hk1 hS => ?_)
  have hP1 : va_P (dC, dI) vwCl [] H1 := nilP
  have hD1 : va_D (va_A [] H.size) [] := nilD
  have hK := hK
  obtain ⟨hP, hD⟩ := va_join (wr := [(h0, .inr (15, mF q 0))]) (w1 := []) hP hD [] [0] rfl rfl (by decide) (by decide) hk1 hFc hP1 hD1
  generalize H1 = H at hP hS ⊢
  have hP : va_P (dC, dI) vwCl [(h0, .inr (15, mF q 0))] H := hP
  have hD : va_D A [(h0, .inr (15, mF q 0))] := hD
  try dsimp only at hw3
  by_cases hc4 : 0 ≤ p1 ∧ p1 ≤ 95
  · rw [if_pos hc4] at hw3
    subst hw3
    refine lv_iconst (v := 1) hx hb dX12_row_10 (by decide) ?_
    have hPc := hP.sub (ws' := [(h0, .inr (15, mF q 0))]) [0] rfl
    have hDc := hD.sub (ws' := [(h0, .inr (15, mF q 0))]) [0] (by decide) rfl
    have hKc := hK.sub (tys' := []) [] rfl
    have hFc := va_free (wc := [(h0, .inr (15, mF q 0))]) hD hS hA [0] rfl
    refine va_calli (va_runV (As := [.int 0, .int 1]) (rest := []) ⟨hx, hb, hml, hown, hts⟩ (c_m_throwsIf0 l dC dI h0 (mF q 0) 1 H.size ) (cwV 2 hts (goodIn_app (goodIn_r _ [10, 11, 12, 6] (by decide +kernel) (by decide +kernel)) (goodIn_ca (goodIn_r _ [9] (by decide +kernel) (by decide +kernel)) (bs_in _ _))) rfl rfl rfl (by decide +kernel) ⟨(Nat.le_of_ble_eq_true rfl), (Nat.le_of_ble_eq_true rfl)⟩) ⟨fun a U g mk q => by obtain ⟨q0, q1, qP, qK, qD⟩ := q; exact ⟨q0, q1, qP, va_K.moved (u := U) (U := U.calling g mk a) (Vm.Alike.refl U.vm) qK, qD⟩, va_recv hKc hPc (ci := 15) (q0 := 0) rfl rfl, fun U hU hW => ⟨rfl, by rw [hU], by rw [hU]; exact hPc, va_K.moved hW.alike hKc, hDc.weaken (fun _ _ _ _ => trivial)⟩⟩ rfl rfl hl.1 rfl (lv_room (Nat.le_of_ble_eq_true rfl)) dX12_row_11 ⟨(Nat.le_of_ble_eq_true rfl), (Nat.le_of_ble_eq_true rfl)⟩) hS (fun q _ h => hFc q h) hFc (fun r6 u t H1 locs ht hvm hw7 hB hz1 hk1 hS => ?_)
    obtain ⟨hP1, hD1⟩ := hB
    rw [ht] at hP1
    obtain ⟨hP, hD⟩ := va_join (wr := []) (w1 := [(h0, .inr (15, mF q 0))]) hP hD [0] [] rfl rfl (by decide) (by decide) hk1 hFc hP1 hD1
    generalize H1 = H at hP hS ⊢
    have hP : va_P (dC, dI) vwCl [(h0, .inr (15, mF q 0))] H := hP
    have hD : va_D A [(h0, .inr (15, mF q 0))] := hD
    try dsimp only at hw7
    obtain rfl : 0 = r6 := (hw7).symm
    refine lv_if_ne (tgt := 44) hx hb dX12_row_14 (by decide) (fun c8 => absurd c8 (by decide)) (fun c8 => ?_)
    refine lv_aload_n hx hb dX12_row_17 rfl (lv_at hl 0 rfl) ?_
    refine lv_iload_n hx hb dX12_row_18 rfl (lv_at hl 1 rfl) ?_
    refine lv_iconst (v := 0) hx hb dX12_row_19 (by decide) ?_
    refine lv_aload_n hx hb dX12_row_20 rfl (lv_at hl 0 rfl) ?_
    refine va_get (D := (dC, dI)) (ci := 15) (v := .int 0) (C := RX12) (T := TX12) (N := 78) hx hb hts bF_X12 hown hK hP 0 rfl rfl 9 (by decide) (ht_at hts 12 rfl) (fun _ h9 => h9) rfl dX12_row_21 ?_
    refine lv_iconst (v := 1) hx hb dX12_row_24 (by decide) ?_
    refine lv_isub hx hb dX12_row_25 ?_
    refine lv_topi (fun x9 ex9 => ?_)
    obtain rfl : x9 = (-1) := ex9.trans (by decide)
    have hPc := hP.sub (ws' := []) [] rfl
    have hDc := hD.sub (ws' := []) [] (by decide) rfl
    have hKc := hK.sub (tys' := []) [] rfl
    have hFc := va_free (wc := []) hD hS hA [] rfl
    refine va_calli (va_runS (As := [.int p0, .int 0, .int (-1)]) (rest := [.ref h0]) ⟨hx, hb, hml, hown, hts⟩ (c_min_ l dC dI p0 0 (-1) H.size ) (va_cwS 3 hts (goodIn_app (goodIn_r _ [4, 5, 6] (by decide +kernel) (by decide +kernel)) (goodIn_ca (goodIn_r _ [3] (by decide +kernel) (by decide +kernel)) (bs_in _ _))) rfl rfl rfl (by decide +kernel) ⟨(Nat.le_of_ble_eq_true rfl), (Nat.le_of_ble_eq_true rfl)⟩) ⟨fun a U g mk q => by obtain ⟨q0, q1, qP, qK, qD⟩ := q; exact ⟨q0, q1, qP, va_K.moved (u := U) (U := U.calling g mk a) (Vm.Alike.refl U.vm) qK, qD⟩, fun U hU hW => ⟨rfl, by rw [hU], by rw [hU]; exact hPc, va_K.moved hW.alike hKc, hDc.weaken (fun _ _ _ _ => trivial)⟩⟩ rfl rfl hl.1 rfl (lv_room (Nat.le_of_ble_eq_true rfl)) dX12_row_26 ⟨(Nat.le_of_ble_eq_true rfl), (Nat.le_of_ble_eq_true rfl)⟩) hS (fun q _ h => hFc q h) hFc (fun r11 u t H1 locs ht hvm hw12 hB hz1 hk1 hS => ?_)
    have hP1 : va_P (dC, dI) vwCl [] H1 := nilP
    have hD1 : va_D (va_A [] H.size) [] := nilD
    have hK := hK
    obtain ⟨hP, hD⟩ := va_join (wr := [(h0, .inr (15, mF q 0))]) (w1 := []) hP hD [] [0] rfl rfl (by decide) (by decide) hk1 hFc hP1 hD1
    generalize H1 = H at hP hS ⊢
    have hP : va_P (dC, dI) vwCl [(h0, .inr (15, mF q 0))] H := hP
    have hD : va_D A [(h0, .inr (15, mF q 0))] := hD
    try dsimp only at hw12
    have hc13 : ¬ ((0 : Int32) ≤ p0 ∧ p0 ≤ (-1 : Int32)) := no01
    rw [if_neg hc13] at hw12
    subst hw12
    refine lv_if_ne (tgt := 36) hx hb dX12_row_29 (by decide) (fun c14 => absurd c14 (by decide)) (fun c14 => ?_)
    refine lv_iconst (v := 1) hx hb dX12_row_32 (by decide) ?_
    refine lv_goto (tgt := 37) hx hb dX12_row_33 (by decide) ?_
    refine lv_iconst (v := 2) hx hb dX12_row_37 (by decide) ?_
    have hPc := hP.sub (ws' := [(h0, .inr (15, mF q 0))]) [0] rfl
    have hDc := hD.sub (ws' := [(h0, .inr (15, mF q 0))]) [0] (by decide) rfl
    have hKc := hK.sub (tys' := []) [] rfl
    have hFc := va_free (wc := [(h0, .inr (15, mF q 0))]) hD hS hA [0] rfl
    refine va_calli (va_runV (As := [.int 1, .int 2]) (rest := []) ⟨hx, hb, hml, hown, hts⟩ (c_m_throwsIf1 l dC dI h0 (mF q 0) 2 H.size rfl) (cwV 2 hts (goodIn_app (goodIn_r _ [10, 11, 12, 6] (by decide +kernel) (by decide +kernel)) (goodIn_ca (goodIn_r _ [9, 1] (by decide +kernel) (by decide +kernel)) (bs_in _ _))) rfl rfl rfl (by decide +kernel) ⟨(Nat.le_of_ble_eq_true rfl), (Nat.le_of_ble_eq_true rfl)⟩) ⟨fun a U g mk q => by obtain ⟨q0, q1, qP, qK, qD⟩ := q; exact ⟨q0, q1, qP, va_K.moved (u := U) (U := U.calling g mk a) (Vm.Alike.refl U.vm) qK, qD⟩, va_recv hKc hPc (ci := 15) (q0 := 0) rfl rfl, fun U hU hW => ⟨rfl, by rw [hU], by rw [hU]; exact hPc, va_K.moved hW.alike hKc, hDc.weaken (fun _ _ _ _ => trivial)⟩⟩ rfl rfl hl.1 rfl (lv_room (Nat.le_of_ble_eq_true rfl)) dX12_row_38 ⟨(Nat.le_of_ble_eq_true rfl), (Nat.le_of_ble_eq_true rfl)⟩) hS (fun q _ h => hFc q h) hFc (fun r16 u t H1 locs ht hvm hw17 hB hz1 hk1 hS => ?_)
    obtain ⟨hP1, hD1⟩ := hB
    rw [ht] at hP1
    obtain ⟨hP, hD⟩ := va_join (wr := []) (w1 := [(h0, .inr (15, mF q 2))]) hP hD [0] [] rfl rfl (by decide) (by decide) hk1 hFc hP1 hD1
    generalize H1 = H at hP hS ⊢
    have hP : va_P (dC, dI) vwCl [(h0, .inr (15, mF q 2))] H := hP
    have hD : va_D A [(h0, .inr (15, mF q 2))] := hD
    try dsimp only at hw17
    obtain rfl : 1 = r16 := (hw17).symm
    refine lv_if_eq (tgt := 48) hx hb dX12_row_41 (by decide) (fun c18 => absurd c18 (by decide)) (fun c18 => ?_)
    refine lv_iconst (v := 0) hx hb dX12_row_44 (by decide) ?_
    refine lv_goto (tgt := 59) hx hb dX12_row_45 (by decide) ?_
    exact W.iret (v := 0) hx hb hr (fun t ht hW => ⟨⟨0, (mF q 2), rfl, (by unfold T_row; rw [if_pos hc4]; (first | exact ⟨rfl, fun _ => rfl⟩ | exact ⟨rfl, fun h => absurd h (by decide)⟩)), by rw [ht]; exact hP.sub (ws' := [(h0, .inr (15, mF q 2))]) [0] rfl, hD.sub (ws' := [(h0, .inr (15, mF q 2))]) [0] (by decide) rfl⟩, hS.F ht⟩) hS.2.2 dX12_row_59
  · rw [if_neg hc4] at hw3
    subst hw3
    refine lv_iconst (v := 1) hx hb dX12_row_10 (by decide) ?_
    have hPc := hP.sub (ws' := [(h0, .inr (15, mF q 0))]) [0] rfl
    have hDc := hD.sub (ws' := [(h0, .inr (15, mF q 0))]) [0] (by decide) rfl
    have hKc := hK.sub (tys' := []) [] rfl
    have hFc := va_free (wc := [(h0, .inr (15, mF q 0))]) hD hS hA [0] rfl
    refine va_calli (va_runV (As := [.int 1, .int 1]) (rest := []) ⟨hx, hb, hml, hown, hts⟩ (c_m_throwsIf1 l dC dI h0 (mF q 0) 1 H.size rfl) (cwV 2 hts (goodIn_app (goodIn_r _ [10, 11, 12, 6] (by decide +kernel) (by decide +kernel)) (goodIn_ca (goodIn_r _ [9, 1] (by decide +kernel) (by decide +kernel)) (bs_in _ _))) rfl rfl rfl (by decide +kernel) ⟨(Nat.le_of_ble_eq_true rfl), (Nat.le_of_ble_eq_true rfl)⟩) ⟨fun a U g mk q => by obtain ⟨q0, q1, qP, qK, qD⟩ := q; exact ⟨q0, q1, qP, va_K.moved (u := U) (U := U.calling g mk a) (Vm.Alike.refl U.vm) qK, qD⟩, va_recv hKc hPc (ci := 15) (q0 := 0) rfl rfl, fun U hU hW => ⟨rfl, by rw [hU], by rw [hU]; exact hPc, va_K.moved hW.alike hKc, hDc.weaken (fun _ _ _ _ => trivial)⟩⟩ rfl rfl hl.1 rfl (lv_room (Nat.le_of_ble_eq_true rfl)) dX12_row_11 ⟨(Nat.le_of_ble_eq_true rfl), (Nat.le_of_ble_eq_true rfl)⟩) hS (fun q _ h => hFc q h) hFc (fun r20 u t H1 locs ht hvm hw21 hB hz1 hk1 hS => ?_)
    obtain ⟨hP1, hD1⟩ := hB
    rw [ht] at hP1
    obtain ⟨hP, hD⟩ := va_join (wr := []) (w1 := [(h0, .inr (15, mF q 1))]) hP hD [0] [] rfl rfl (by decide) (by decide) hk1 hFc hP1 hD1
    generalize H1 = H at hP hS ⊢
    have hP : va_P (dC, dI) vwCl [(h0, .inr (15, mF q 1))] H := hP
    have hD : va_D A [(h0, .inr (15, mF q 1))] := hD
    try dsimp only at hw21
    obtain rfl : 1 = r20 := (hw21).symm
    refine lv_if_ne (tgt := 44) hx hb dX12_row_14 (by decide) (fun c22 => ?_) (fun c22 => absurd c22 (by decide))
    refine lv_iconst (v := 0) hx hb dX12_row_44 (by decide) ?_
    refine lv_goto (tgt := 59) hx hb dX12_row_45 (by decide) ?_
    exact W.iret (v := 0) hx hb hr (fun t ht hW => ⟨⟨0, (mF q 1), rfl, (by unfold T_row; rw [if_neg hc4]; (first | exact ⟨rfl, fun _ => rfl⟩ | exact ⟨rfl, fun h => absurd h (by decide)⟩)), by rw [ht]; exact hP.sub (ws' := [(h0, .inr (15, mF q 1))]) [0] rfl, hD.sub (ws' := [(h0, .inr (15, mF q 1))]) [0] (by decide) rfl⟩, hS.F ht⟩) hS.2.2 dX12_row_59
def w_m_tear : List Cond := .code yX12_tear cX12_tear 4 (some .int) :: ([.fieldLink RX12 194 "SeaLandModel" "thrown" "I", .code yX12_noSquare cX12_noSquare 1 (some .boolean), .code yX12_in cX12_in 3 (some .boolean), .methodLink RX12 197 yX12_in, .static yX12_in, .initialized RX12, .methodLink RX12 220 yX12_noSquare, .static yX12_noSquare, .code yX12_throwsIf cX12_throwsIf 3 (some .boolean), .methodLink RX12 224 yX12_throwsIf, .instanceMethod yX12_throwsIf, .selects RX12 yX12_throwsIf yX12_throwsIf, .fieldLink RX12 238 "SeaLandModel" "rows" "I"] ++ bs)
set_option maxHeartbeats 4000000 in
set_option maxRecDepth 100000 in
theorem m_tear (l : Launch) (dC : Nat → ClassId) (dI : Nat → Nat → Nat) (h0 : Nat) (q : Nat → Nat) (cm : Nat → ClassId) (p0 p1 p2 : Int32) (sz : Nat) : Met l yX12_tear w_m_tear ({ frames := 2, cells := 0, slots := 0, locals := 42 }) (va_Pc [.ref h0, .int p0, .int p1, .int p2] (fun U => U.heap.size = sz ∧ va_P (dC, dI) vwCl [(h0, .inr (15, mF q 0))] U.heap ∧ va_K (dC, dI) vwCl [] U ∧ va_D (fun _ => True) [(h0, .inr (15, mF q 0))])) (va_Qi (fun (r : Int32) (u : List Value) => u[0]? = some (.int (T_tear p0 p1 p2).1) ∧ ((T_tear p0 p1 p2).1 = 0 → r = (T_tear p0 p1 p2).2)) (fun (fs : List Value) (t : State) => va_P (dC, dI) vwCl [(h0, .inr (15, fs))] t.heap ∧ va_D (va_A [(h0, .inr (15, mF q 0))] sz) [(h0, .inr (15, fs))]) (va_A [(h0, .inr (15, mF q 0))] sz)) 0 0 (va_A [(h0, .inr (15, mF q 0))] sz) := by
  refine Met.ofW (cc := cX12_tear) (maxL := 4) (ret := (some .int)) (by decide) rfl ?_
  intro p e s m args below meth c s₁ B hml hv
  obtain ⟨rfl, hsz, hP, hK, hD0⟩ := hv
  have hx := B.exec
  have hb := B.bytes
  have hr := B.returns
  have hts := atoms_spec (ws := w_m_tear) B.pre
  have hown : s.vm.findClass RX12 = some m.cls := findClass_of_methodNamed B.named
  have hlocks := B.notSynchronized
  subst hsz
  have hD := hD0.self (sz := s.heap.size)
  generalize hAe : va_A [(h0, .inr (15, mF q 0))] s.heap.size = A at hD ⊢
  have hA : ∀ q : Nat, s.heap.size ≤ q → A q := fun q h => by rw [← hAe]; exact Or.inr h
  have hS : va_S A s.heap s.heap [] := va_S.rf
  have hP : va_P (dC, dI) vwCl [(h0, .inr (15, mF q 0))] s.heap := hP
  have hl := lv_entry ([.ref h0, .int p0, .int p1, .int p2]) (n := 4) (Nat.le_of_ble_eq_true rfl)
  rw [lg_entry_eq]
  generalize (lg_sl ([.ref h0, .int p0, .int p1, .int p2]) ++ List.replicate (4 - (lg_sl ([.ref h0, .int p0, .int p1, .int p2])).length) Slot.unset).toArray = ls at hl ⊢
  have hl : lv_has ls 4 [(0, .ref h0), (1, .int p0), (2, .int p1), (3, .int p2)] := hl
  refine lv_aload_n hx hb dX12_tear_0 rfl (lv_at hl 0 rfl) ?_
  refine lv_iconst (v := 0) hx hb dX12_tear_1 (by decide) ?_
  refine va_put (D := (dC, dI)) (ci := 15) (v := .int 0) (ty := .int) (C := RX12) (T := TX12) (N := 78) hx hb hts bF_X12 tyX12 tyX12_ok nmX12 hown hK hP hD hS 0 rfl rfl 0 (by decide) (ht_at hts 0 rfl) (fun _ h9 => h9) rfl (by decide +kernel) rfl rfl (Nat.le_of_ble_eq_true rfl) dX12_tear_2 (fun H locs hP hD hS => ?_)
  have hP : va_P (dC, dI) vwCl [(h0, .inr (15, mF q 0))] H := hP
  have hD : va_D A [(h0, .inr (15, mF q 0))] := hD
  refine lv_aload_n hx hb dX12_tear_5 rfl (lv_at hl 0 rfl) ?_
  refine lv_iload_n hx hb dX12_tear_6 rfl (lv_at hl 2 rfl) ?_
  have hPc := hP.sub (ws' := []) [] rfl
  have hDc := hD.sub (ws' := []) [] (by decide) rfl
  have hKc := hK.sub (tys' := []) [] rfl
  have hFc := va_free (wc := []) hD hS hA [] rfl
  refine va_calli (va_runS (As := [.int p1]) (rest := [.ref h0]) ⟨hx, hb, hml, hown, hts⟩ (c_m_noSquare l dC dI p1 H.size ) (va_cwS 1 hts (goodIn_app (goodIn_r _ [7, 8, 6] (by decide +kernel) (by decide +kernel)) (goodIn_ca (goodIn_r _ [2, 3, 4, 5, 6] (by decide +kernel) (by decide +kernel)) (bs_in _ _))) rfl rfl rfl (by decide +kernel) ⟨(Nat.le_of_ble_eq_true rfl), (Nat.le_of_ble_eq_true rfl)⟩) ⟨fun a U g mk q => by obtain ⟨q0, q1, qP, qK, qD⟩ := q; exact ⟨q0, q1, qP, va_K.moved (u := U) (U := U.calling g mk a) (Vm.Alike.refl U.vm) qK, qD⟩, fun U hU hW => ⟨rfl, by rw [hU], by rw [hU]; exact hPc, va_K.moved hW.alike hKc, hDc.weaken (fun _ _ _ _ => trivial)⟩⟩ rfl rfl hl.1 rfl (lv_room (Nat.le_of_ble_eq_true rfl)) dX12_tear_7 ⟨(Nat.le_of_ble_eq_true rfl), (Nat.le_of_ble_eq_true rfl)⟩) hS (fun q _ h => hFc q h) hFc (fun r2 u t H1 locs ht hvm hw3 hB hz1 hk1 hS => ?_)
  have hP1 : va_P (dC, dI) vwCl [] H1 := nilP
  have hD1 : va_D (va_A [] H.size) [] := nilD
  have hK := hK
  obtain ⟨hP, hD⟩ := va_join (wr := [(h0, .inr (15, mF q 0))]) (w1 := []) hP hD [] [0] rfl rfl (by decide) (by decide) hk1 hFc hP1 hD1
  generalize H1 = H at hP hS ⊢
  have hP : va_P (dC, dI) vwCl [(h0, .inr (15, mF q 0))] H := hP
  have hD : va_D A [(h0, .inr (15, mF q 0))] := hD
  try dsimp only at hw3
  by_cases hc4 : 0 ≤ p1 ∧ p1 ≤ 95
  · rw [if_pos hc4] at hw3
    subst hw3
    refine lv_iconst (v := 1) hx hb dX12_tear_10 (by decide) ?_
    have hPc := hP.sub (ws' := [(h0, .inr (15, mF q 0))]) [0] rfl
    have hDc := hD.sub (ws' := [(h0, .inr (15, mF q 0))]) [0] (by decide) rfl
    have hKc := hK.sub (tys' := []) [] rfl
    have hFc := va_free (wc := [(h0, .inr (15, mF q 0))]) hD hS hA [0] rfl
    refine va_calli (va_runV (As := [.int 0, .int 1]) (rest := []) ⟨hx, hb, hml, hown, hts⟩ (c_m_throwsIf0 l dC dI h0 (mF q 0) 1 H.size ) (cwV 2 hts (goodIn_app (goodIn_r _ [10, 11, 12, 6] (by decide +kernel) (by decide +kernel)) (goodIn_ca (goodIn_r _ [9] (by decide +kernel) (by decide +kernel)) (bs_in _ _))) rfl rfl rfl (by decide +kernel) ⟨(Nat.le_of_ble_eq_true rfl), (Nat.le_of_ble_eq_true rfl)⟩) ⟨fun a U g mk q => by obtain ⟨q0, q1, qP, qK, qD⟩ := q; exact ⟨q0, q1, qP, va_K.moved (u := U) (U := U.calling g mk a) (Vm.Alike.refl U.vm) qK, qD⟩, va_recv hKc hPc (ci := 15) (q0 := 0) rfl rfl, fun U hU hW => ⟨rfl, by rw [hU], by rw [hU]; exact hPc, va_K.moved hW.alike hKc, hDc.weaken (fun _ _ _ _ => trivial)⟩⟩ rfl rfl hl.1 rfl (lv_room (Nat.le_of_ble_eq_true rfl)) dX12_tear_11 ⟨(Nat.le_of_ble_eq_true rfl), (Nat.le_of_ble_eq_true rfl)⟩) hS (fun q _ h => hFc q h) hFc (fun r6 u t H1 locs ht hvm hw7 hB hz1 hk1 hS => ?_)
    obtain ⟨hP1, hD1⟩ := hB
    rw [ht] at hP1
    obtain ⟨hP, hD⟩ := va_join (wr := []) (w1 := [(h0, .inr (15, mF q 0))]) hP hD [0] [] rfl rfl (by decide) (by decide) hk1 hFc hP1 hD1
    generalize H1 = H at hP hS ⊢
    have hP : va_P (dC, dI) vwCl [(h0, .inr (15, mF q 0))] H := hP
    have hD : va_D A [(h0, .inr (15, mF q 0))] := hD
    try dsimp only at hw7
    obtain rfl : 0 = r6 := (hw7).symm
    refine lv_if_ne (tgt := 44) hx hb dX12_tear_14 (by decide) (fun c8 => absurd c8 (by decide)) (fun c8 => ?_)
    refine lv_aload_n hx hb dX12_tear_17 rfl (lv_at hl 0 rfl) ?_
    refine lv_iload_n hx hb dX12_tear_18 rfl (lv_at hl 1 rfl) ?_
    refine lv_iconst (v := 0) hx hb dX12_tear_19 (by decide) ?_
    refine lv_aload_n hx hb dX12_tear_20 rfl (lv_at hl 0 rfl) ?_
    refine va_get (D := (dC, dI)) (ci := 15) (v := .int 0) (C := RX12) (T := TX12) (N := 78) hx hb hts bF_X12 hown hK hP 0 rfl rfl 9 (by decide) (ht_at hts 12 rfl) (fun _ h9 => h9) rfl dX12_tear_21 ?_
    refine lv_iconst (v := 1) hx hb dX12_tear_24 (by decide) ?_
    refine lv_isub hx hb dX12_tear_25 ?_
    refine lv_topi (fun x9 ex9 => ?_)
    obtain rfl : x9 = (-1) := ex9.trans (by decide)
    have hPc := hP.sub (ws' := []) [] rfl
    have hDc := hD.sub (ws' := []) [] (by decide) rfl
    have hKc := hK.sub (tys' := []) [] rfl
    have hFc := va_free (wc := []) hD hS hA [] rfl
    refine va_calli (va_runS (As := [.int p0, .int 0, .int (-1)]) (rest := [.ref h0]) ⟨hx, hb, hml, hown, hts⟩ (c_min_ l dC dI p0 0 (-1) H.size ) (va_cwS 3 hts (goodIn_app (goodIn_r _ [4, 5, 6] (by decide +kernel) (by decide +kernel)) (goodIn_ca (goodIn_r _ [3] (by decide +kernel) (by decide +kernel)) (bs_in _ _))) rfl rfl rfl (by decide +kernel) ⟨(Nat.le_of_ble_eq_true rfl), (Nat.le_of_ble_eq_true rfl)⟩) ⟨fun a U g mk q => by obtain ⟨q0, q1, qP, qK, qD⟩ := q; exact ⟨q0, q1, qP, va_K.moved (u := U) (U := U.calling g mk a) (Vm.Alike.refl U.vm) qK, qD⟩, fun U hU hW => ⟨rfl, by rw [hU], by rw [hU]; exact hPc, va_K.moved hW.alike hKc, hDc.weaken (fun _ _ _ _ => trivial)⟩⟩ rfl rfl hl.1 rfl (lv_room (Nat.le_of_ble_eq_true rfl)) dX12_tear_26 ⟨(Nat.le_of_ble_eq_true rfl), (Nat.le_of_ble_eq_true rfl)⟩) hS (fun q _ h => hFc q h) hFc (fun r11 u t H1 locs ht hvm hw12 hB hz1 hk1 hS => ?_)
    have hP1 : va_P (dC, dI) vwCl [] H1 := nilP
    have hD1 : va_D (va_A [] H.size) [] := nilD
    have hK := hK
    obtain ⟨hP, hD⟩ := va_join (wr := [(h0, .inr (15, mF q 0))]) (w1 := []) hP hD [] [0] rfl rfl (by decide) (by decide) hk1 hFc hP1 hD1
    generalize H1 = H at hP hS ⊢
    have hP : va_P (dC, dI) vwCl [(h0, .inr (15, mF q 0))] H := hP
    have hD : va_D A [(h0, .inr (15, mF q 0))] := hD
    try dsimp only at hw12
    have hc13 : ¬ ((0 : Int32) ≤ p0 ∧ p0 ≤ (-1 : Int32)) := no01
    rw [if_neg hc13] at hw12
    subst hw12
    refine lv_if_ne (tgt := 36) hx hb dX12_tear_29 (by decide) (fun c14 => absurd c14 (by decide)) (fun c14 => ?_)
    refine lv_iconst (v := 1) hx hb dX12_tear_32 (by decide) ?_
    refine lv_goto (tgt := 37) hx hb dX12_tear_33 (by decide) ?_
    refine lv_iconst (v := 2) hx hb dX12_tear_37 (by decide) ?_
    have hPc := hP.sub (ws' := [(h0, .inr (15, mF q 0))]) [0] rfl
    have hDc := hD.sub (ws' := [(h0, .inr (15, mF q 0))]) [0] (by decide) rfl
    have hKc := hK.sub (tys' := []) [] rfl
    have hFc := va_free (wc := [(h0, .inr (15, mF q 0))]) hD hS hA [0] rfl
    refine va_calli (va_runV (As := [.int 1, .int 2]) (rest := []) ⟨hx, hb, hml, hown, hts⟩ (c_m_throwsIf1 l dC dI h0 (mF q 0) 2 H.size rfl) (cwV 2 hts (goodIn_app (goodIn_r _ [10, 11, 12, 6] (by decide +kernel) (by decide +kernel)) (goodIn_ca (goodIn_r _ [9, 1] (by decide +kernel) (by decide +kernel)) (bs_in _ _))) rfl rfl rfl (by decide +kernel) ⟨(Nat.le_of_ble_eq_true rfl), (Nat.le_of_ble_eq_true rfl)⟩) ⟨fun a U g mk q => by obtain ⟨q0, q1, qP, qK, qD⟩ := q; exact ⟨q0, q1, qP, va_K.moved (u := U) (U := U.calling g mk a) (Vm.Alike.refl U.vm) qK, qD⟩, va_recv hKc hPc (ci := 15) (q0 := 0) rfl rfl, fun U hU hW => ⟨rfl, by rw [hU], by rw [hU]; exact hPc, va_K.moved hW.alike hKc, hDc.weaken (fun _ _ _ _ => trivial)⟩⟩ rfl rfl hl.1 rfl (lv_room (Nat.le_of_ble_eq_true rfl)) dX12_tear_38 ⟨(Nat.le_of_ble_eq_true rfl), (Nat.le_of_ble_eq_true rfl)⟩) hS (fun q _ h => hFc q h) hFc (fun r16 u t H1 locs ht hvm hw17 hB hz1 hk1 hS => ?_)
    obtain ⟨hP1, hD1⟩ := hB
    rw [ht] at hP1
    obtain ⟨hP, hD⟩ := va_join (wr := []) (w1 := [(h0, .inr (15, mF q 2))]) hP hD [0] [] rfl rfl (by decide) (by decide) hk1 hFc hP1 hD1
    generalize H1 = H at hP hS ⊢
    have hP : va_P (dC, dI) vwCl [(h0, .inr (15, mF q 2))] H := hP
    have hD : va_D A [(h0, .inr (15, mF q 2))] := hD
    try dsimp only at hw17
    obtain rfl : 1 = r16 := (hw17).symm
    refine lv_if_eq (tgt := 46) hx hb dX12_tear_41 (by decide) (fun c18 => absurd c18 (by decide)) (fun c18 => ?_)
    refine lv_iconst (v := 0) hx hb dX12_tear_44 (by decide) ?_
    exact W.iret (v := 0) hx hb hr (fun t ht hW => ⟨⟨0, (mF q 2), rfl, (by unfold T_tear; rw [if_pos hc4]; (first | exact ⟨rfl, fun _ => rfl⟩ | exact ⟨rfl, fun h => absurd h (by decide)⟩)), by rw [ht]; exact hP.sub (ws' := [(h0, .inr (15, mF q 2))]) [0] rfl, hD.sub (ws' := [(h0, .inr (15, mF q 2))]) [0] (by decide) rfl⟩, hS.F ht⟩) hS.2.2 dX12_tear_45
  · rw [if_neg hc4] at hw3
    subst hw3
    refine lv_iconst (v := 1) hx hb dX12_tear_10 (by decide) ?_
    have hPc := hP.sub (ws' := [(h0, .inr (15, mF q 0))]) [0] rfl
    have hDc := hD.sub (ws' := [(h0, .inr (15, mF q 0))]) [0] (by decide) rfl
    have hKc := hK.sub (tys' := []) [] rfl
    have hFc := va_free (wc := [(h0, .inr (15, mF q 0))]) hD hS hA [0] rfl
    refine va_calli (va_runV (As := [.int 1, .int 1]) (rest := []) ⟨hx, hb, hml, hown, hts⟩ (c_m_throwsIf1 l dC dI h0 (mF q 0) 1 H.size rfl) (cwV 2 hts (goodIn_app (goodIn_r _ [10, 11, 12, 6] (by decide +kernel) (by decide +kernel)) (goodIn_ca (goodIn_r _ [9, 1] (by decide +kernel) (by decide +kernel)) (bs_in _ _))) rfl rfl rfl (by decide +kernel) ⟨(Nat.le_of_ble_eq_true rfl), (Nat.le_of_ble_eq_true rfl)⟩) ⟨fun a U g mk q => by obtain ⟨q0, q1, qP, qK, qD⟩ := q; exact ⟨q0, q1, qP, va_K.moved (u := U) (U := U.calling g mk a) (Vm.Alike.refl U.vm) qK, qD⟩, va_recv hKc hPc (ci := 15) (q0 := 0) rfl rfl, fun U hU hW => ⟨rfl, by rw [hU], by rw [hU]; exact hPc, va_K.moved hW.alike hKc, hDc.weaken (fun _ _ _ _ => trivial)⟩⟩ rfl rfl hl.1 rfl (lv_room (Nat.le_of_ble_eq_true rfl)) dX12_tear_11 ⟨(Nat.le_of_ble_eq_true rfl), (Nat.le_of_ble_eq_true rfl)⟩) hS (fun q _ h => hFc q h) hFc (fun r20 u t H1 locs ht hvm hw21 hB hz1 hk1 hS => ?_)
    obtain ⟨hP1, hD1⟩ := hB
    rw [ht] at hP1
    obtain ⟨hP, hD⟩ := va_join (wr := []) (w1 := [(h0, .inr (15, mF q 1))]) hP hD [0] [] rfl rfl (by decide) (by decide) hk1 hFc hP1 hD1
    generalize H1 = H at hP hS ⊢
    have hP : va_P (dC, dI) vwCl [(h0, .inr (15, mF q 1))] H := hP
    have hD : va_D A [(h0, .inr (15, mF q 1))] := hD
    try dsimp only at hw21
    obtain rfl : 1 = r20 := (hw21).symm
    refine lv_if_ne (tgt := 44) hx hb dX12_tear_14 (by decide) (fun c22 => ?_) (fun c22 => absurd c22 (by decide))
    refine lv_iconst (v := 0) hx hb dX12_tear_44 (by decide) ?_
    exact W.iret (v := 0) hx hb hr (fun t ht hW => ⟨⟨0, (mF q 1), rfl, (by unfold T_tear; rw [if_neg hc4]; (first | exact ⟨rfl, fun _ => rfl⟩ | exact ⟨rfl, fun h => absurd h (by decide)⟩)), by rw [ht]; exact hP.sub (ws' := [(h0, .inr (15, mF q 1))]) [0] rfl, hD.sub (ws' := [(h0, .inr (15, mF q 1))]) [0] (by decide) rfl⟩, hS.F ht⟩) hS.2.2 dX12_tear_45
def w_m_lawLevel : List Cond := .code yX12_lawLevel cX12_lawLevel 4 (some .int) :: ([.fieldLink RX12 194 "SeaLandModel" "thrown" "I", .code yX12_noSquare cX12_noSquare 1 (some .boolean), .code yX12_in cX12_in 3 (some .boolean), .methodLink RX12 197 yX12_in, .static yX12_in, .initialized RX12, .methodLink RX12 220 yX12_noSquare, .static yX12_noSquare, .code yX12_throwsIf cX12_throwsIf 3 (some .boolean), .methodLink RX12 224 yX12_throwsIf, .instanceMethod yX12_throwsIf, .selects RX12 yX12_throwsIf yX12_throwsIf, .fieldLink RX12 42 "SeaLandModel" "lines" "[I"] ++ bs)
set_option maxHeartbeats 4000000 in
set_option maxRecDepth 100000 in
theorem m_lawLevel (l : Launch) (dC : Nat → ClassId) (dI : Nat → Nat → Nat) (h0 : Nat) (q : Nat → Nat) (cm : Nat → ClassId) (p0 : Int32) (sz : Nat) : Met l yX12_lawLevel w_m_lawLevel ({ frames := 2, cells := 0, slots := 0, locals := 42 }) (va_Pc [.ref h0, .int p0] (fun U => U.heap.size = sz ∧ va_P (dC, dI) vwCl [(h0, .inr (15, mF q 0)), (q 18, .inl ((cm 18), 3, .inl (fun _ => 0)))] U.heap ∧ va_K (dC, dI) vwCl [((cm 18), .int)] U ∧ va_D (fun _ => True) [(h0, .inr (15, mF q 0)), (q 18, .inl ((cm 18), 3, .inl (fun _ => 0)))])) (va_Qi (fun (r : Int32) (u : List Value) => u[0]? = some (.int (T_lawLevel p0).1) ∧ ((T_lawLevel p0).1 = 0 → r = (T_lawLevel p0).2)) (fun (fs : List Value) (t : State) => va_P (dC, dI) vwCl [(h0, .inr (15, fs))] t.heap ∧ va_D (va_A [(h0, .inr (15, mF q 0)), (q 18, .inl ((cm 18), 3, .inl (fun _ => 0)))] sz) [(h0, .inr (15, fs))]) (va_A [(h0, .inr (15, mF q 0)), (q 18, .inl ((cm 18), 3, .inl (fun _ => 0)))] sz)) 0 0 (va_A [(h0, .inr (15, mF q 0)), (q 18, .inl ((cm 18), 3, .inl (fun _ => 0)))] sz) := by
  refine Met.ofW (cc := cX12_lawLevel) (maxL := 4) (ret := (some .int)) (by decide) rfl ?_
  intro p e s m args below meth c s₁ B hml hv
  obtain ⟨rfl, hsz, hP, hK, hD0⟩ := hv
  have hx := B.exec
  have hb := B.bytes
  have hr := B.returns
  have hts := atoms_spec (ws := w_m_lawLevel) B.pre
  have hown : s.vm.findClass RX12 = some m.cls := findClass_of_methodNamed B.named
  have hlocks := B.notSynchronized
  subst hsz
  have hD := hD0.self (sz := s.heap.size)
  generalize hAe : va_A [(h0, .inr (15, mF q 0)), (q 18, .inl ((cm 18), 3, .inl (fun _ => 0)))] s.heap.size = A at hD ⊢
  have hA : ∀ q : Nat, s.heap.size ≤ q → A q := fun q h => by rw [← hAe]; exact Or.inr h
  have hS : va_S A s.heap s.heap [] := va_S.rf
  have hP : va_P (dC, dI) vwCl [(h0, .inr (15, mF q 0)), (q 18, .inl ((cm 18), 3, .inl (fun _ => 0)))] s.heap := hP
  have hl := lv_entry ([.ref h0, .int p0]) (n := 4) (Nat.le_of_ble_eq_true rfl)
  rw [lg_entry_eq]
  generalize (lg_sl ([.ref h0, .int p0]) ++ List.replicate (4 - (lg_sl ([.ref h0, .int p0])).length) Slot.unset).toArray = ls at hl ⊢
  have hl : lv_has ls 4 [(0, .ref h0), (1, .int p0)] := hl
  refine lv_aload_n hx hb dX12_lawLevel_0 rfl (lv_at hl 0 rfl) ?_
  refine lv_iconst (v := 0) hx hb dX12_lawLevel_1 (by decide) ?_
  refine va_put (D := (dC, dI)) (ci := 15) (v := .int 0) (ty := .int) (C := RX12) (T := TX12) (N := 78) hx hb hts bF_X12 tyX12 tyX12_ok nmX12 hown hK hP hD hS 0 rfl rfl 0 (by decide) (ht_at hts 0 rfl) (fun _ h9 => h9) rfl (by decide +kernel) rfl rfl (Nat.le_of_ble_eq_true rfl) dX12_lawLevel_2 (fun H locs hP hD hS => ?_)
  have hP : va_P (dC, dI) vwCl [(h0, .inr (15, mF q 0)), (q 18, .inl ((cm 18), 3, .inl (fun _ => 0)))] H := hP
  have hD : va_D A [(h0, .inr (15, mF q 0)), (q 18, .inl ((cm 18), 3, .inl (fun _ => 0)))] := hD
  refine lv_aload_n hx hb dX12_lawLevel_5 rfl (lv_at hl 0 rfl) ?_
  refine lv_iload_n hx hb dX12_lawLevel_6 rfl (lv_at hl 1 rfl) ?_
  have hPc := hP.sub (ws' := []) [] rfl
  have hDc := hD.sub (ws' := []) [] (by decide) rfl
  have hKc := hK.sub (tys' := []) [] rfl
  have hFc := va_free (wc := []) hD hS hA [] rfl
  refine va_calli (va_runS (As := [.int p0]) (rest := [.ref h0]) ⟨hx, hb, hml, hown, hts⟩ (c_m_noSquare l dC dI p0 H.size ) (va_cwS 1 hts (goodIn_app (goodIn_r _ [7, 8, 6] (by decide +kernel) (by decide +kernel)) (goodIn_ca (goodIn_r _ [2, 3, 4, 5, 6] (by decide +kernel) (by decide +kernel)) (bs_in _ _))) rfl rfl rfl (by decide +kernel) ⟨(Nat.le_of_ble_eq_true rfl), (Nat.le_of_ble_eq_true rfl)⟩) ⟨fun a U g mk q => by obtain ⟨q0, q1, qP, qK, qD⟩ := q; exact ⟨q0, q1, qP, va_K.moved (u := U) (U := U.calling g mk a) (Vm.Alike.refl U.vm) qK, qD⟩, fun U hU hW => ⟨rfl, by rw [hU], by rw [hU]; exact hPc, va_K.moved hW.alike hKc, hDc.weaken (fun _ _ _ _ => trivial)⟩⟩ rfl rfl hl.1 rfl (lv_room (Nat.le_of_ble_eq_true rfl)) dX12_lawLevel_7 ⟨(Nat.le_of_ble_eq_true rfl), (Nat.le_of_ble_eq_true rfl)⟩) hS (fun q _ h => hFc q h) hFc (fun r2 u t H1 locs ht hvm hw3 hB hz1 hk1 hS => ?_)
  have hP1 : va_P (dC, dI) vwCl [] H1 := nilP
  have hD1 : va_D (va_A [] H.size) [] := nilD
  have hK := hK
  obtain ⟨hP, hD⟩ := va_join (wr := [(h0, .inr (15, mF q 0)), (q 18, .inl ((cm 18), 3, .inl (fun _ => 0)))]) (w1 := []) hP hD [] [0, 1] rfl rfl (by decide) (by decide) hk1 hFc hP1 hD1
  generalize H1 = H at hP hS ⊢
  have hP : va_P (dC, dI) vwCl [(h0, .inr (15, mF q 0)), (q 18, .inl ((cm 18), 3, .inl (fun _ => 0)))] H := hP
  have hD : va_D A [(h0, .inr (15, mF q 0)), (q 18, .inl ((cm 18), 3, .inl (fun _ => 0)))] := hD
  try dsimp only at hw3
  by_cases hc4 : 0 ≤ p0 ∧ p0 ≤ 95
  · rw [if_pos hc4] at hw3
    subst hw3
    refine lv_iconst (v := 1) hx hb dX12_lawLevel_10 (by decide) ?_
    have hPc := hP.sub (ws' := [(h0, .inr (15, mF q 0))]) [0] rfl
    have hDc := hD.sub (ws' := [(h0, .inr (15, mF q 0))]) [0] (by decide) rfl
    have hKc := hK.sub (tys' := []) [] rfl
    have hFc := va_free (wc := [(h0, .inr (15, mF q 0))]) hD hS hA [0] rfl
    refine va_calli (va_runV (As := [.int 0, .int 1]) (rest := []) ⟨hx, hb, hml, hown, hts⟩ (c_m_throwsIf0 l dC dI h0 (mF q 0) 1 H.size ) (cwV 2 hts (goodIn_app (goodIn_r _ [10, 11, 12, 6] (by decide +kernel) (by decide +kernel)) (goodIn_ca (goodIn_r _ [9] (by decide +kernel) (by decide +kernel)) (bs_in _ _))) rfl rfl rfl (by decide +kernel) ⟨(Nat.le_of_ble_eq_true rfl), (Nat.le_of_ble_eq_true rfl)⟩) ⟨fun a U g mk q => by obtain ⟨q0, q1, qP, qK, qD⟩ := q; exact ⟨q0, q1, qP, va_K.moved (u := U) (U := U.calling g mk a) (Vm.Alike.refl U.vm) qK, qD⟩, va_recv hKc hPc (ci := 15) (q0 := 0) rfl rfl, fun U hU hW => ⟨rfl, by rw [hU], by rw [hU]; exact hPc, va_K.moved hW.alike hKc, hDc.weaken (fun _ _ _ _ => trivial)⟩⟩ rfl rfl hl.1 rfl (lv_room (Nat.le_of_ble_eq_true rfl)) dX12_lawLevel_11 ⟨(Nat.le_of_ble_eq_true rfl), (Nat.le_of_ble_eq_true rfl)⟩) hS (fun q _ h => hFc q h) hFc (fun r6 u t H1 locs ht hvm hw7 hB hz1 hk1 hS => ?_)
    obtain ⟨hP1, hD1⟩ := hB
    rw [ht] at hP1
    obtain ⟨hP, hD⟩ := va_join (wr := [(q 18, .inl ((cm 18), 3, .inl (fun _ => 0)))]) (w1 := [(h0, .inr (15, mF q 0))]) hP hD [0] [1] rfl rfl (by decide) (by decide) hk1 hFc hP1 hD1
    generalize H1 = H at hP hS ⊢
    have hP : va_P (dC, dI) vwCl [(q 18, .inl ((cm 18), 3, .inl (fun _ => 0))), (h0, .inr (15, mF q 0))] H := hP
    have hD : va_D A [(q 18, .inl ((cm 18), 3, .inl (fun _ => 0))), (h0, .inr (15, mF q 0))] := hD
    try dsimp only at hw7
    obtain rfl : 0 = r6 := (hw7).symm
    refine lv_if_eq (tgt := 19) hx hb dX12_lawLevel_14 (by decide) (fun c8 => ?_) (fun c8 => absurd c8 (by decide))
    refine lv_sipush (v := 1000) hx hb dX12_lawLevel_19 (by decide) ?_
    refine lv_istore_n (lv' := [(2, .int 1000), (0, .ref h0), (1, .int p0)]) hx hb dX12_lawLevel_22 rfl hl (by decide) rfl (fun ls hl => ?_)
    refine lv_iconst (v := 0) hx hb dX12_lawLevel_23 (by decide) ?_
    refine lv_istore_n (lv' := [(3, .int 0), (2, .int 1000), (0, .ref h0), (1, .int p0)]) hx hb dX12_lawLevel_24 rfl hl (by decide) rfl (fun ls hl => ?_)
    refine lv_iload_n hx hb dX12_lawLevel_25 rfl (lv_at hl 0 rfl) ?_
    refine lv_aload_n hx hb dX12_lawLevel_26 rfl (lv_at hl 2 rfl) ?_
    refine va_get (D := (dC, dI)) (ci := 15) (v := .ref (q 18)) (C := RX12) (T := TX12) (N := 78) hx hb hts bF_X12 hown hK hP 1 rfl rfl 18 (by decide) (ht_at hts 12 rfl) (fun _ h9 => h9) rfl dX12_lawLevel_27 ?_
    refine lv_iconst (v := 0) hx hb dX12_lawLevel_30 (by decide) ?_
    refine va_iald hx hb hK hP 0 0 rfl rfl (by unfold vp_in; decide) dX12_lawLevel_31 ?_
    refine lv_topi (fun x9 ex9 => ?_)
    obtain rfl : 0 = x9 := (ex9).symm
    refine lv_icmp_ge (tgt := 111) hx hb dX12_lawLevel_32 (by decide) (fun c10 => ?_) (fun c10 => absurd c10 (by decide))
    refine lv_iload_n hx hb dX12_lawLevel_111 rfl (lv_at hl 1 rfl) ?_
    exact W.iret (v := 1000) hx hb hr (fun t ht hW => ⟨⟨1000, (mF q 0), rfl, (by unfold T_lawLevel; rw [if_pos hc4]; (first | exact ⟨rfl, fun _ => rfl⟩ | exact ⟨rfl, fun h => absurd h (by decide)⟩)), by rw [ht]; exact hP.sub (ws' := [(h0, .inr (15, mF q 0))]) [1] rfl, hD.sub (ws' := [(h0, .inr (15, mF q 0))]) [1] (by decide) rfl⟩, hS.F ht⟩) hS.2.2 dX12_lawLevel_112
  · rw [if_neg hc4] at hw3
    subst hw3
    refine lv_iconst (v := 1) hx hb dX12_lawLevel_10 (by decide) ?_
    have hPc := hP.sub (ws' := [(h0, .inr (15, mF q 0))]) [0] rfl
    have hDc := hD.sub (ws' := [(h0, .inr (15, mF q 0))]) [0] (by decide) rfl
    have hKc := hK.sub (tys' := []) [] rfl
    have hFc := va_free (wc := [(h0, .inr (15, mF q 0))]) hD hS hA [0] rfl
    refine va_calli (va_runV (As := [.int 1, .int 1]) (rest := []) ⟨hx, hb, hml, hown, hts⟩ (c_m_throwsIf1 l dC dI h0 (mF q 0) 1 H.size rfl) (cwV 2 hts (goodIn_app (goodIn_r _ [10, 11, 12, 6] (by decide +kernel) (by decide +kernel)) (goodIn_ca (goodIn_r _ [9, 1] (by decide +kernel) (by decide +kernel)) (bs_in _ _))) rfl rfl rfl (by decide +kernel) ⟨(Nat.le_of_ble_eq_true rfl), (Nat.le_of_ble_eq_true rfl)⟩) ⟨fun a U g mk q => by obtain ⟨q0, q1, qP, qK, qD⟩ := q; exact ⟨q0, q1, qP, va_K.moved (u := U) (U := U.calling g mk a) (Vm.Alike.refl U.vm) qK, qD⟩, va_recv hKc hPc (ci := 15) (q0 := 0) rfl rfl, fun U hU hW => ⟨rfl, by rw [hU], by rw [hU]; exact hPc, va_K.moved hW.alike hKc, hDc.weaken (fun _ _ _ _ => trivial)⟩⟩ rfl rfl hl.1 rfl (lv_room (Nat.le_of_ble_eq_true rfl)) dX12_lawLevel_11 ⟨(Nat.le_of_ble_eq_true rfl), (Nat.le_of_ble_eq_true rfl)⟩) hS (fun q _ h => hFc q h) hFc (fun r12 u t H1 locs ht hvm hw13 hB hz1 hk1 hS => ?_)
    obtain ⟨hP1, hD1⟩ := hB
    rw [ht] at hP1
    obtain ⟨hP, hD⟩ := va_join (wr := [(q 18, .inl ((cm 18), 3, .inl (fun _ => 0)))]) (w1 := [(h0, .inr (15, mF q 1))]) hP hD [0] [1] rfl rfl (by decide) (by decide) hk1 hFc hP1 hD1
    generalize H1 = H at hP hS ⊢
    have hP : va_P (dC, dI) vwCl [(q 18, .inl ((cm 18), 3, .inl (fun _ => 0))), (h0, .inr (15, mF q 1))] H := hP
    have hD : va_D A [(q 18, .inl ((cm 18), 3, .inl (fun _ => 0))), (h0, .inr (15, mF q 1))] := hD
    try dsimp only at hw13
    obtain rfl : 1 = r12 := (hw13).symm
    refine lv_if_eq (tgt := 19) hx hb dX12_lawLevel_14 (by decide) (fun c14 => absurd c14 (by decide)) (fun c14 => ?_)
    refine lv_iconst (v := 0) hx hb dX12_lawLevel_17 (by decide) ?_
    exact W.iret (v := 0) hx hb hr (fun t ht hW => ⟨⟨0, (mF q 1), rfl, (by unfold T_lawLevel; rw [if_neg hc4]; (first | exact ⟨rfl, fun _ => rfl⟩ | exact ⟨rfl, fun h => absurd h (by decide)⟩)), by rw [ht]; exact hP.sub (ws' := [(h0, .inr (15, mF q 1))]) [1] rfl, hD.sub (ws' := [(h0, .inr (15, mF q 1))]) [1] (by decide) rfl⟩, hS.F ht⟩) hS.2.2 dX12_lawLevel_18
def w_m_mayBuild : List Cond := .code yX12_mayBuild cX12_mayBuild 2 (some .boolean) :: ([.fieldLink RX12 194 "SeaLandModel" "thrown" "I", .code yX12_noSquare cX12_noSquare 1 (some .boolean), .code yX12_in cX12_in 3 (some .boolean), .methodLink RX12 197 yX12_in, .static yX12_in, .initialized RX12, .methodLink RX12 220 yX12_noSquare, .static yX12_noSquare, .code yX12_throwsIf cX12_throwsIf 3 (some .boolean), .methodLink RX12 224 yX12_throwsIf, .instanceMethod yX12_throwsIf, .selects RX12 yX12_throwsIf yX12_throwsIf, .code yX12_mayBuildOn cX12_mayBuildOn 5 (some .boolean), .code yX12_lastOf cX12_lastOf 5 (some .int), .fieldLink RX12 42 "SeaLandModel" "lines" "[I", .methodLink RX12 492 yX12_lastOf, .instanceMethod yX12_lastOf, .selects RX12 yX12_lastOf yX12_lastOf, .fieldLink RX12 9 "SeaLandModel" "world" "[I", .methodLink RX12 279 yX12_mayBuildOn, .instanceMethod yX12_mayBuildOn, .selects RX12 yX12_mayBuildOn yX12_mayBuildOn] ++ bs)
set_option maxHeartbeats 4000000 in
set_option maxRecDepth 100000 in
theorem m_mayBuild (l : Launch) (dC : Nat → ClassId) (dI : Nat → Nat → Nat) (h0 : Nat) (q : Nat → Nat) (cm : Nat → ClassId) (p0 : Int32) (sz : Nat) : Met l yX12_mayBuild w_m_mayBuild ({ frames := 2, cells := 0, slots := 0, locals := 48 }) (va_Pc [.ref h0, .int p0] (fun U => U.heap.size = sz ∧ va_P (dC, dI) vwCl [(h0, .inr (15, mF q 0)), (q 1, .inl ((cm 1), 1749, .inl (fun _ => 0))), (q 18, .inl ((cm 18), 3, .inl (fun _ => 0)))] U.heap ∧ va_K (dC, dI) vwCl [((cm 1), .int), ((cm 18), .int)] U ∧ va_D (fun _ => True) [(h0, .inr (15, mF q 0)), (q 1, .inl ((cm 1), 1749, .inl (fun _ => 0))), (q 18, .inl ((cm 18), 3, .inl (fun _ => 0)))])) (va_Qi (fun (r : Int32) (u : List Value) => u[0]? = some (.int (T_mayBuild p0).1) ∧ ((T_mayBuild p0).1 = 0 → r = (T_mayBuild p0).2)) (fun (fs : List Value) (t : State) => va_P (dC, dI) vwCl [(h0, .inr (15, fs))] t.heap ∧ va_D (va_A [(h0, .inr (15, mF q 0)), (q 1, .inl ((cm 1), 1749, .inl (fun _ => 0))), (q 18, .inl ((cm 18), 3, .inl (fun _ => 0)))] sz) [(h0, .inr (15, fs))]) (va_A [(h0, .inr (15, mF q 0)), (q 1, .inl ((cm 1), 1749, .inl (fun _ => 0))), (q 18, .inl ((cm 18), 3, .inl (fun _ => 0)))] sz)) 0 0 (va_A [(h0, .inr (15, mF q 0)), (q 1, .inl ((cm 1), 1749, .inl (fun _ => 0))), (q 18, .inl ((cm 18), 3, .inl (fun _ => 0)))] sz) := by
  refine Met.ofW (cc := cX12_mayBuild) (maxL := 2) (ret := (some .boolean)) (by decide) rfl ?_
  intro p e s m args below meth c s₁ B hml hv
  obtain ⟨rfl, hsz, hP, hK, hD0⟩ := hv
  have hx := B.exec
  have hb := B.bytes
  have hr := B.returns
  have hts := atoms_spec (ws := w_m_mayBuild) B.pre
  have hown : s.vm.findClass RX12 = some m.cls := findClass_of_methodNamed B.named
  have hlocks := B.notSynchronized
  subst hsz
  have hD := hD0.self (sz := s.heap.size)
  generalize hAe : va_A [(h0, .inr (15, mF q 0)), (q 1, .inl ((cm 1), 1749, .inl (fun _ => 0))), (q 18, .inl ((cm 18), 3, .inl (fun _ => 0)))] s.heap.size = A at hD ⊢
  have hA : ∀ q : Nat, s.heap.size ≤ q → A q := fun q h => by rw [← hAe]; exact Or.inr h
  have hS : va_S A s.heap s.heap [] := va_S.rf
  have hP : va_P (dC, dI) vwCl [(h0, .inr (15, mF q 0)), (q 1, .inl ((cm 1), 1749, .inl (fun _ => 0))), (q 18, .inl ((cm 18), 3, .inl (fun _ => 0)))] s.heap := hP
  have hl := lv_entry ([.ref h0, .int p0]) (n := 2) (Nat.le_of_ble_eq_true rfl)
  rw [lg_entry_eq]
  generalize (lg_sl ([.ref h0, .int p0]) ++ List.replicate (2 - (lg_sl ([.ref h0, .int p0])).length) Slot.unset).toArray = ls at hl ⊢
  have hl : lv_has ls 2 [(0, .ref h0), (1, .int p0)] := hl
  refine lv_aload_n hx hb dX12_mayBuild_0 rfl (lv_at hl 0 rfl) ?_
  refine lv_iconst (v := 0) hx hb dX12_mayBuild_1 (by decide) ?_
  refine va_put (D := (dC, dI)) (ci := 15) (v := .int 0) (ty := .int) (C := RX12) (T := TX12) (N := 78) hx hb hts bF_X12 tyX12 tyX12_ok nmX12 hown hK hP hD hS 0 rfl rfl 0 (by decide) (ht_at hts 0 rfl) (fun _ h9 => h9) rfl (by decide +kernel) rfl rfl (Nat.le_of_ble_eq_true rfl) dX12_mayBuild_2 (fun H locs hP hD hS => ?_)
  have hP : va_P (dC, dI) vwCl [(h0, .inr (15, mF q 0)), (q 1, .inl ((cm 1), 1749, .inl (fun _ => 0))), (q 18, .inl ((cm 18), 3, .inl (fun _ => 0)))] H := hP
  have hD : va_D A [(h0, .inr (15, mF q 0)), (q 1, .inl ((cm 1), 1749, .inl (fun _ => 0))), (q 18, .inl ((cm 18), 3, .inl (fun _ => 0)))] := hD
  refine lv_aload_n hx hb dX12_mayBuild_5 rfl (lv_at hl 0 rfl) ?_
  refine lv_iload_n hx hb dX12_mayBuild_6 rfl (lv_at hl 1 rfl) ?_
  have hPc := hP.sub (ws' := []) [] rfl
  have hDc := hD.sub (ws' := []) [] (by decide) rfl
  have hKc := hK.sub (tys' := []) [] rfl
  have hFc := va_free (wc := []) hD hS hA [] rfl
  refine va_calli (va_runS (As := [.int p0]) (rest := [.ref h0]) ⟨hx, hb, hml, hown, hts⟩ (c_m_noSquare l dC dI p0 H.size ) (va_cwS 1 hts (goodIn_app (goodIn_r _ [7, 8, 6] (by decide +kernel) (by decide +kernel)) (goodIn_ca (goodIn_r _ [2, 3, 4, 5, 6] (by decide +kernel) (by decide +kernel)) (bs_in _ _))) rfl rfl rfl (by decide +kernel) ⟨(Nat.le_of_ble_eq_true rfl), (Nat.le_of_ble_eq_true rfl)⟩) ⟨fun a U g mk q => by obtain ⟨q0, q1, qP, qK, qD⟩ := q; exact ⟨q0, q1, qP, va_K.moved (u := U) (U := U.calling g mk a) (Vm.Alike.refl U.vm) qK, qD⟩, fun U hU hW => ⟨rfl, by rw [hU], by rw [hU]; exact hPc, va_K.moved hW.alike hKc, hDc.weaken (fun _ _ _ _ => trivial)⟩⟩ rfl rfl hl.1 rfl (lv_room (Nat.le_of_ble_eq_true rfl)) dX12_mayBuild_7 ⟨(Nat.le_of_ble_eq_true rfl), (Nat.le_of_ble_eq_true rfl)⟩) hS (fun q _ h => hFc q h) hFc (fun r2 u t H1 locs ht hvm hw3 hB hz1 hk1 hS => ?_)
  have hP1 : va_P (dC, dI) vwCl [] H1 := nilP
  have hD1 : va_D (va_A [] H.size) [] := nilD
  have hK := hK
  obtain ⟨hP, hD⟩ := va_join (wr := [(h0, .inr (15, mF q 0)), (q 1, .inl ((cm 1), 1749, .inl (fun _ => 0))), (q 18, .inl ((cm 18), 3, .inl (fun _ => 0)))]) (w1 := []) hP hD [] [0, 1, 2] rfl rfl (by decide) (by decide) hk1 hFc hP1 hD1
  generalize H1 = H at hP hS ⊢
  have hP : va_P (dC, dI) vwCl [(h0, .inr (15, mF q 0)), (q 1, .inl ((cm 1), 1749, .inl (fun _ => 0))), (q 18, .inl ((cm 18), 3, .inl (fun _ => 0)))] H := hP
  have hD : va_D A [(h0, .inr (15, mF q 0)), (q 1, .inl ((cm 1), 1749, .inl (fun _ => 0))), (q 18, .inl ((cm 18), 3, .inl (fun _ => 0)))] := hD
  try dsimp only at hw3
  by_cases hc4 : 0 ≤ p0 ∧ p0 ≤ 95
  · rw [if_pos hc4] at hw3
    subst hw3
    refine lv_iconst (v := 1) hx hb dX12_mayBuild_10 (by decide) ?_
    have hPc := hP.sub (ws' := [(h0, .inr (15, mF q 0))]) [0] rfl
    have hDc := hD.sub (ws' := [(h0, .inr (15, mF q 0))]) [0] (by decide) rfl
    have hKc := hK.sub (tys' := []) [] rfl
    have hFc := va_free (wc := [(h0, .inr (15, mF q 0))]) hD hS hA [0] rfl
    refine va_calli (va_runV (As := [.int 0, .int 1]) (rest := []) ⟨hx, hb, hml, hown, hts⟩ (c_m_throwsIf0 l dC dI h0 (mF q 0) 1 H.size ) (cwV 2 hts (goodIn_app (goodIn_r _ [10, 11, 12, 6] (by decide +kernel) (by decide +kernel)) (goodIn_ca (goodIn_r _ [9] (by decide +kernel) (by decide +kernel)) (bs_in _ _))) rfl rfl rfl (by decide +kernel) ⟨(Nat.le_of_ble_eq_true rfl), (Nat.le_of_ble_eq_true rfl)⟩) ⟨fun a U g mk q => by obtain ⟨q0, q1, qP, qK, qD⟩ := q; exact ⟨q0, q1, qP, va_K.moved (u := U) (U := U.calling g mk a) (Vm.Alike.refl U.vm) qK, qD⟩, va_recv hKc hPc (ci := 15) (q0 := 0) rfl rfl, fun U hU hW => ⟨rfl, by rw [hU], by rw [hU]; exact hPc, va_K.moved hW.alike hKc, hDc.weaken (fun _ _ _ _ => trivial)⟩⟩ rfl rfl hl.1 rfl (lv_room (Nat.le_of_ble_eq_true rfl)) dX12_mayBuild_11 ⟨(Nat.le_of_ble_eq_true rfl), (Nat.le_of_ble_eq_true rfl)⟩) hS (fun q _ h => hFc q h) hFc (fun r6 u t H1 locs ht hvm hw7 hB hz1 hk1 hS => ?_)
    obtain ⟨hP1, hD1⟩ := hB
    rw [ht] at hP1
    obtain ⟨hP, hD⟩ := va_join (wr := [(q 1, .inl ((cm 1), 1749, .inl (fun _ => 0))), (q 18, .inl ((cm 18), 3, .inl (fun _ => 0)))]) (w1 := [(h0, .inr (15, mF q 0))]) hP hD [0] [1, 2] rfl rfl (by decide) (by decide) hk1 hFc hP1 hD1
    generalize H1 = H at hP hS ⊢
    have hP : va_P (dC, dI) vwCl [(q 1, .inl ((cm 1), 1749, .inl (fun _ => 0))), (q 18, .inl ((cm 18), 3, .inl (fun _ => 0))), (h0, .inr (15, mF q 0))] H := hP
    have hD : va_D A [(q 1, .inl ((cm 1), 1749, .inl (fun _ => 0))), (q 18, .inl ((cm 18), 3, .inl (fun _ => 0))), (h0, .inr (15, mF q 0))] := hD
    try dsimp only at hw7
    obtain rfl : 0 = r6 := (hw7).symm
    refine lv_if_ne (tgt := 29) hx hb dX12_mayBuild_14 (by decide) (fun c8 => absurd c8 (by decide)) (fun c8 => ?_)
    refine lv_aload_n hx hb dX12_mayBuild_17 rfl (lv_at hl 0 rfl) ?_
    refine lv_iload_n hx hb dX12_mayBuild_18 rfl (lv_at hl 1 rfl) ?_
    have hPc := hP.sub (ws' := [(h0, .inr (15, mF q 0)), (q 1, .inl ((cm 1), 1749, .inl (fun _ => 0))), (q 18, .inl ((cm 18), 3, .inl (fun _ => 0)))]) [2, 0, 1] rfl
    have hDc := hD.sub (ws' := [(h0, .inr (15, mF q 0)), (q 1, .inl ((cm 1), 1749, .inl (fun _ => 0))), (q 18, .inl ((cm 18), 3, .inl (fun _ => 0)))]) [2, 0, 1] (by decide) rfl
    have hKc := hK.sub (tys' := [((cm 1), .int), ((cm 18), .int)]) [0, 1] rfl
    have hFc := va_free (wc := [(h0, .inr (15, mF q 0)), (q 1, .inl ((cm 1), 1749, .inl (fun _ => 0))), (q 18, .inl ((cm 18), 3, .inl (fun _ => 0)))]) hD hS hA [2, 0, 1] rfl
    refine va_calli (va_runV (As := [.int p0]) (rest := []) ⟨hx, hb, hml, hown, hts⟩ (m_mayBuildOn l dC dI h0 q cm p0 H.size ) (cwV 1 hts (goodIn_app (goodIn_r _ [20, 21, 22, 6] (by decide +kernel) (by decide +kernel)) (goodIn_ca (goodIn_r _ [13, 14, 15, 16, 17, 18, 6, 19] (by decide +kernel) (by decide +kernel)) (bs_in _ _))) rfl rfl rfl (by decide +kernel) ⟨(Nat.le_of_ble_eq_true rfl), (Nat.le_of_ble_eq_true rfl)⟩) ⟨fun a U g mk q => by obtain ⟨q0, q1, qP, qK, qD⟩ := q; exact ⟨q0, q1, qP, va_K.moved (u := U) (U := U.calling g mk a) (Vm.Alike.refl U.vm) qK, qD⟩, va_recv hKc hPc (ci := 15) (q0 := 0) rfl rfl, fun U hU hW => ⟨rfl, by rw [hU], by rw [hU]; exact hPc, va_K.moved hW.alike hKc, hDc.weaken (fun _ _ _ _ => trivial)⟩⟩ rfl rfl hl.1 rfl (lv_room (Nat.le_of_ble_eq_true rfl)) dX12_mayBuild_19 ⟨(Nat.le_of_ble_eq_true rfl), (Nat.le_of_ble_eq_true rfl)⟩) hS (fun q _ h => hFc q h) hFc (fun r10 u t H1 locs ht hvm hw11 hB hz1 hk1 hS => ?_)
    obtain ⟨hP1, hD1⟩ := hB
    rw [ht] at hP1
    obtain ⟨hP, hD⟩ := va_join (wr := []) (w1 := [(h0, .inr (15, mF q 0)), (q 1, .inl ((cm 1), 1749, .inl (fun _ => 0))), (q 18, .inl ((cm 18), 3, .inl (fun _ => 0)))]) hP hD [2, 0, 1] [] rfl rfl (by decide) (by decide) hk1 hFc hP1 hD1
    generalize H1 = H at hP hS ⊢
    have hP : va_P (dC, dI) vwCl [(h0, .inr (15, mF q 0)), (q 1, .inl ((cm 1), 1749, .inl (fun _ => 0))), (q 18, .inl ((cm 18), 3, .inl (fun _ => 0)))] H := hP
    have hD : va_D A [(h0, .inr (15, mF q 0)), (q 1, .inl ((cm 1), 1749, .inl (fun _ => 0))), (q 18, .inl ((cm 18), 3, .inl (fun _ => 0)))] := hD
    try dsimp only at hw11
    obtain rfl : 1 = r10 := (hw11).symm
    refine lv_if_eq (tgt := 29) hx hb dX12_mayBuild_22 (by decide) (fun c12 => absurd c12 (by decide)) (fun c12 => ?_)
    refine lv_iconst (v := 1) hx hb dX12_mayBuild_25 (by decide) ?_
    refine lv_goto (tgt := 30) hx hb dX12_mayBuild_26 (by decide) ?_
    exact W.zret (v := 1) hx hb hr (by decide) (fun t ht hW => ⟨⟨1, (mF q 0), rfl, (by unfold T_mayBuild; rw [if_pos hc4]; (first | exact ⟨rfl, fun _ => rfl⟩ | exact ⟨rfl, fun h => absurd h (by decide)⟩)), by rw [ht]; exact hP.sub (ws' := [(h0, .inr (15, mF q 0))]) [0] rfl, hD.sub (ws' := [(h0, .inr (15, mF q 0))]) [0] (by decide) rfl⟩, hS.F ht⟩) hS.2.2 dX12_mayBuild_30
  · rw [if_neg hc4] at hw3
    subst hw3
    refine lv_iconst (v := 1) hx hb dX12_mayBuild_10 (by decide) ?_
    have hPc := hP.sub (ws' := [(h0, .inr (15, mF q 0))]) [0] rfl
    have hDc := hD.sub (ws' := [(h0, .inr (15, mF q 0))]) [0] (by decide) rfl
    have hKc := hK.sub (tys' := []) [] rfl
    have hFc := va_free (wc := [(h0, .inr (15, mF q 0))]) hD hS hA [0] rfl
    refine va_calli (va_runV (As := [.int 1, .int 1]) (rest := []) ⟨hx, hb, hml, hown, hts⟩ (c_m_throwsIf1 l dC dI h0 (mF q 0) 1 H.size rfl) (cwV 2 hts (goodIn_app (goodIn_r _ [10, 11, 12, 6] (by decide +kernel) (by decide +kernel)) (goodIn_ca (goodIn_r _ [9, 1] (by decide +kernel) (by decide +kernel)) (bs_in _ _))) rfl rfl rfl (by decide +kernel) ⟨(Nat.le_of_ble_eq_true rfl), (Nat.le_of_ble_eq_true rfl)⟩) ⟨fun a U g mk q => by obtain ⟨q0, q1, qP, qK, qD⟩ := q; exact ⟨q0, q1, qP, va_K.moved (u := U) (U := U.calling g mk a) (Vm.Alike.refl U.vm) qK, qD⟩, va_recv hKc hPc (ci := 15) (q0 := 0) rfl rfl, fun U hU hW => ⟨rfl, by rw [hU], by rw [hU]; exact hPc, va_K.moved hW.alike hKc, hDc.weaken (fun _ _ _ _ => trivial)⟩⟩ rfl rfl hl.1 rfl (lv_room (Nat.le_of_ble_eq_true rfl)) dX12_mayBuild_11 ⟨(Nat.le_of_ble_eq_true rfl), (Nat.le_of_ble_eq_true rfl)⟩) hS (fun q _ h => hFc q h) hFc (fun r14 u t H1 locs ht hvm hw15 hB hz1 hk1 hS => ?_)
    obtain ⟨hP1, hD1⟩ := hB
    rw [ht] at hP1
    obtain ⟨hP, hD⟩ := va_join (wr := [(q 1, .inl ((cm 1), 1749, .inl (fun _ => 0))), (q 18, .inl ((cm 18), 3, .inl (fun _ => 0)))]) (w1 := [(h0, .inr (15, mF q 1))]) hP hD [0] [1, 2] rfl rfl (by decide) (by decide) hk1 hFc hP1 hD1
    generalize H1 = H at hP hS ⊢
    have hP : va_P (dC, dI) vwCl [(q 1, .inl ((cm 1), 1749, .inl (fun _ => 0))), (q 18, .inl ((cm 18), 3, .inl (fun _ => 0))), (h0, .inr (15, mF q 1))] H := hP
    have hD : va_D A [(q 1, .inl ((cm 1), 1749, .inl (fun _ => 0))), (q 18, .inl ((cm 18), 3, .inl (fun _ => 0))), (h0, .inr (15, mF q 1))] := hD
    try dsimp only at hw15
    obtain rfl : 1 = r14 := (hw15).symm
    refine lv_if_ne (tgt := 29) hx hb dX12_mayBuild_14 (by decide) (fun c16 => ?_) (fun c16 => absurd c16 (by decide))
    refine lv_iconst (v := 0) hx hb dX12_mayBuild_29 (by decide) ?_
    exact W.zret (v := 0) hx hb hr (by decide) (fun t ht hW => ⟨⟨0, (mF q 1), rfl, (by unfold T_mayBuild; rw [if_neg hc4]; (first | exact ⟨rfl, fun _ => rfl⟩ | exact ⟨rfl, fun h => absurd h (by decide)⟩)), by rw [ht]; exact hP.sub (ws' := [(h0, .inr (15, mF q 1))]) [2] rfl, hD.sub (ws' := [(h0, .inr (15, mF q 1))]) [2] (by decide) rfl⟩, hS.F ht⟩) hS.2.2 dX12_mayBuild_30
def w_m_coin : List Cond := .code yX12_coin cX12_coin 2 (some .int) :: ([.fieldLink RX12 194 "SeaLandModel" "thrown" "I", .constant RX12 536 1000000, .code yX12_in cX12_in 3 (some .boolean), .methodLink RX12 197 yX12_in, .static yX12_in, .initialized RX12, .fieldLink RX12 519 "SeaLandModel" "board" "I", .constant RX12 537 2000000000, .code yX12_throwsIf cX12_throwsIf 3 (some .boolean), .methodLink RX12 224 yX12_throwsIf, .instanceMethod yX12_throwsIf, .selects RX12 yX12_throwsIf yX12_throwsIf] ++ bs)
set_option maxHeartbeats 4000000 in
set_option maxRecDepth 100000 in
theorem m_coin (l : Launch) (dC : Nat → ClassId) (dI : Nat → Nat → Nat) (h0 : Nat) (q : Nat → Nat) (cm : Nat → ClassId) (p0 : Int32) (sz : Nat) : Met l yX12_coin w_m_coin ({ frames := 1, cells := 0, slots := 0, locals := 22 }) (va_Pc [.ref h0, .int p0] (fun U => U.heap.size = sz ∧ va_P (dC, dI) vwCl [(h0, .inr (15, mF q 0))] U.heap ∧ va_K (dC, dI) vwCl [] U ∧ va_D (fun _ => True) [(h0, .inr (15, mF q 0))])) (va_Qi (fun (r : Int32) (u : List Value) => u[0]? = some (.int (T_coin p0).1) ∧ ((T_coin p0).1 = 0 → r = (T_coin p0).2)) (fun (fs : List Value) (t : State) => va_P (dC, dI) vwCl [(h0, .inr (15, fs))] t.heap ∧ va_D (va_A [(h0, .inr (15, mF q 0))] sz) [(h0, .inr (15, fs))]) (va_A [(h0, .inr (15, mF q 0))] sz)) 0 0 (va_A [(h0, .inr (15, mF q 0))] sz) := by
  refine Met.ofW (cc := cX12_coin) (maxL := 2) (ret := (some .int)) (by decide) rfl ?_
  intro p e s m args below meth c s₁ B hml hv
  obtain ⟨rfl, hsz, hP, hK, hD0⟩ := hv
  have hx := B.exec
  have hb := B.bytes
  have hr := B.returns
  have hts := atoms_spec (ws := w_m_coin) B.pre
  have hown : s.vm.findClass RX12 = some m.cls := findClass_of_methodNamed B.named
  have hlocks := B.notSynchronized
  subst hsz
  have hD := hD0.self (sz := s.heap.size)
  generalize hAe : va_A [(h0, .inr (15, mF q 0))] s.heap.size = A at hD ⊢
  have hA : ∀ q : Nat, s.heap.size ≤ q → A q := fun q h => by rw [← hAe]; exact Or.inr h
  have hS : va_S A s.heap s.heap [] := va_S.rf
  have hP : va_P (dC, dI) vwCl [(h0, .inr (15, mF q 0))] s.heap := hP
  have hl := lv_entry ([.ref h0, .int p0]) (n := 2) (Nat.le_of_ble_eq_true rfl)
  rw [lg_entry_eq]
  generalize (lg_sl ([.ref h0, .int p0]) ++ List.replicate (2 - (lg_sl ([.ref h0, .int p0])).length) Slot.unset).toArray = ls at hl ⊢
  have hl : lv_has ls 2 [(0, .ref h0), (1, .int p0)] := hl
  refine lv_aload_n hx hb dX12_coin_0 rfl (lv_at hl 0 rfl) ?_
  refine lv_iconst (v := 0) hx hb dX12_coin_1 (by decide) ?_
  refine va_put (D := (dC, dI)) (ci := 15) (v := .int 0) (ty := .int) (C := RX12) (T := TX12) (N := 78) hx hb hts bF_X12 tyX12 tyX12_ok nmX12 hown hK hP hD hS 0 rfl rfl 0 (by decide) (ht_at hts 0 rfl) (fun _ h9 => h9) rfl (by decide +kernel) rfl rfl (Nat.le_of_ble_eq_true rfl) dX12_coin_2 (fun H locs hP hD hS => ?_)
  have hP : va_P (dC, dI) vwCl [(h0, .inr (15, mF q 0))] H := hP
  have hD : va_D A [(h0, .inr (15, mF q 0))] := hD
  refine lv_aload_n hx hb dX12_coin_5 rfl (lv_at hl 0 rfl) ?_
  refine lv_iload_n hx hb dX12_coin_6 rfl (lv_at hl 1 rfl) ?_
  refine lv_iconst (v := 0) hx hb dX12_coin_7 (by decide) ?_
  refine lv_ldcw (v := 1000000) hx hb hown (ht_at hts 1 rfl) dX12_coin_8 ?_
  have hPc := hP.sub (ws' := []) [] rfl
  have hDc := hD.sub (ws' := []) [] (by decide) rfl
  have hKc := hK.sub (tys' := []) [] rfl
  have hFc := va_free (wc := []) hD hS hA [] rfl
  refine va_calli (va_runS (As := [.int p0, .int 0, .int 1000000]) (rest := [.ref h0]) ⟨hx, hb, hml, hown, hts⟩ (c_min_ l dC dI p0 0 1000000 H.size ) (va_cwS 3 hts (goodIn_app (goodIn_r _ [4, 5, 6] (by decide +kernel) (by decide +kernel)) (goodIn_ca (goodIn_r _ [3] (by decide +kernel) (by decide +kernel)) (bs_in _ _))) rfl rfl rfl (by decide +kernel) ⟨(Nat.le_of_ble_eq_true rfl), (Nat.le_of_ble_eq_true rfl)⟩) ⟨fun a U g mk q => by obtain ⟨q0, q1, qP, qK, qD⟩ := q; exact ⟨q0, q1, qP, va_K.moved (u := U) (U := U.calling g mk a) (Vm.Alike.refl U.vm) qK, qD⟩, fun U hU hW => ⟨rfl, by rw [hU], by rw [hU]; exact hPc, va_K.moved hW.alike hKc, hDc.weaken (fun _ _ _ _ => trivial)⟩⟩ rfl rfl hl.1 rfl (lv_room (Nat.le_of_ble_eq_true rfl)) dX12_coin_11 ⟨(Nat.le_of_ble_eq_true rfl), (Nat.le_of_ble_eq_true rfl)⟩) hS (fun q _ h => hFc q h) hFc (fun r2 u t H1 locs ht hvm hw3 hB hz1 hk1 hS => ?_)
  have hP1 : va_P (dC, dI) vwCl [] H1 := nilP
  have hD1 : va_D (va_A [] H.size) [] := nilD
  have hK := hK
  obtain ⟨hP, hD⟩ := va_join (wr := [(h0, .inr (15, mF q 0))]) (w1 := []) hP hD [] [0] rfl rfl (by decide) (by decide) hk1 hFc hP1 hD1
  generalize H1 = H at hP hS ⊢
  have hP : va_P (dC, dI) vwCl [(h0, .inr (15, mF q 0))] H := hP
  have hD : va_D A [(h0, .inr (15, mF q 0))] := hD
  try dsimp only at hw3
  by_cases hc4 : (0 : Int32) ≤ p0 ∧ p0 ≤ (1000000 : Int32)
  · rw [if_pos hc4] at hw3
    subst hw3
    refine lv_if_eq (tgt := 29) hx hb dX12_coin_14 (by decide) (fun c5 => absurd c5 (by decide)) (fun c5 => ?_)
    refine lv_aload_n hx hb dX12_coin_17 rfl (lv_at hl 0 rfl) ?_
    refine va_get (D := (dC, dI)) (ci := 15) (v := .int 0) (C := RX12) (T := TX12) (N := 78) hx hb hts bF_X12 hown hK hP 0 rfl rfl 48 (by decide) (ht_at hts 6 rfl) (fun _ h9 => h9) rfl dX12_coin_18 ?_
    refine lv_ldcw (v := 2000000000) hx hb hown (ht_at hts 7 rfl) dX12_coin_21 ?_
    refine lv_iload_n hx hb dX12_coin_24 rfl (lv_at hl 1 rfl) ?_
    refine lv_isub hx hb dX12_coin_25 ?_
    refine lv_topi (fun x6 ex6 => ?_)
    refine lv_icmp_le (tgt := 33) hx hb dX12_coin_26 (by decide) (fun c7 => ?_) (fun c7 => absurd (Int32.not_lt.mp (coin_le ex6 hc4)) c7)
    refine lv_iconst (v := 0) hx hb dX12_coin_33 (by decide) ?_
    refine lv_iconst (v := 1) hx hb dX12_coin_34 (by decide) ?_
    have hPc := hP.sub (ws' := [(h0, .inr (15, mF q 0))]) [0] rfl
    have hDc := hD.sub (ws' := [(h0, .inr (15, mF q 0))]) [0] (by decide) rfl
    have hKc := hK.sub (tys' := []) [] rfl
    have hFc := va_free (wc := [(h0, .inr (15, mF q 0))]) hD hS hA [0] rfl
    refine va_calli (va_runV (As := [.int 0, .int 1]) (rest := []) ⟨hx, hb, hml, hown, hts⟩ (c_m_throwsIf0 l dC dI h0 (mF q 0) 1 H.size ) (cwV 2 hts (goodIn_app (goodIn_r _ [10, 11, 12, 6] (by decide +kernel) (by decide +kernel)) (goodIn_ca (goodIn_r _ [9] (by decide +kernel) (by decide +kernel)) (bs_in _ _))) rfl rfl rfl (by decide +kernel) ⟨(Nat.le_of_ble_eq_true rfl), (Nat.le_of_ble_eq_true rfl)⟩) ⟨fun a U g mk q => by obtain ⟨q0, q1, qP, qK, qD⟩ := q; exact ⟨q0, q1, qP, va_K.moved (u := U) (U := U.calling g mk a) (Vm.Alike.refl U.vm) qK, qD⟩, va_recv hKc hPc (ci := 15) (q0 := 0) rfl rfl, fun U hU hW => ⟨rfl, by rw [hU], by rw [hU]; exact hPc, va_K.moved hW.alike hKc, hDc.weaken (fun _ _ _ _ => trivial)⟩⟩ rfl rfl hl.1 rfl (lv_room (Nat.le_of_ble_eq_true rfl)) dX12_coin_35 ⟨(Nat.le_of_ble_eq_true rfl), (Nat.le_of_ble_eq_true rfl)⟩) hS (fun q _ h => hFc q h) hFc (fun r9 u t H1 locs ht hvm hw10 hB hz1 hk1 hS => ?_)
    obtain ⟨hP1, hD1⟩ := hB
    rw [ht] at hP1
    obtain ⟨hP, hD⟩ := va_join (wr := []) (w1 := [(h0, .inr (15, mF q 0))]) hP hD [0] [] rfl rfl (by decide) (by decide) hk1 hFc hP1 hD1
    generalize H1 = H at hP hS ⊢
    have hP : va_P (dC, dI) vwCl [(h0, .inr (15, mF q 0))] H := hP
    have hD : va_D A [(h0, .inr (15, mF q 0))] := hD
    try dsimp only at hw10
    obtain rfl : 0 = r9 := (hw10).symm
    refine lv_if_eq (tgt := 43) hx hb dX12_coin_38 (by decide) (fun c11 => ?_) (fun c11 => absurd c11 (by decide))
    refine lv_aload_n hx hb dX12_coin_43 rfl (lv_at hl 0 rfl) ?_
    refine lv_dup hx hb dX12_coin_44 rfl ?_
    refine va_get (D := (dC, dI)) (ci := 15) (v := .int 0) (C := RX12) (T := TX12) (N := 78) hx hb hts bF_X12 hown hK hP 0 rfl rfl 48 (by decide) (ht_at hts 6 rfl) (fun _ h9 => h9) rfl dX12_coin_45 ?_
    refine lv_iload_n hx hb dX12_coin_48 rfl (lv_at hl 1 rfl) ?_
    refine lv_iadd hx hb dX12_coin_49 ?_
    refine lv_topi (fun x12 ex12 => ?_)
    obtain rfl : p0 = x12 := (ex12.trans (Int32.zero_add p0)).symm
    refine va_put (D := (dC, dI)) (ci := 15) (v := .int p0) (ty := .int) (C := RX12) (T := TX12) (N := 78) hx hb hts bF_X12 tyX12 tyX12_ok nmX12 hown hK hP hD hS 0 rfl rfl 48 (by decide) (ht_at hts 6 rfl) (fun _ h9 => h9) rfl (by decide +kernel) rfl rfl (Nat.le_of_ble_eq_true rfl) dX12_coin_50 (fun H locs hP hD hS => ?_)
    have hP : va_P (dC, dI) vwCl [(h0, .inr (15, [.int 0, .ref (q 1), .ref (q 2), .int 0, .ref (q 4), .ref (q 5), .ref (q 6), .ref (q 7), .ref (q 8), .int 0, .ref (q 10), .int 0, .int 0, .int 0, .int 0, .int 0, .int (-1), .ref (q 17), .ref (q 18), .ref (q 19), .ref (q 20), .ref (q 21), .ref (q 22), .ref (q 23), .ref (q 24), .ref (q 25), .ref (q 26), .ref (q 27), .int 0, .ref (q 29), .ref (q 30), .ref (q 31), .ref (q 32), .ref (q 33), .ref (q 34), .ref (q 35), .ref (q 36), .ref (q 37), .ref (q 38), .ref (q 39), .ref (q 40), .ref (q 41), .int 0, .ref (q 43), .ref (q 44), .ref (q 45), .ref (q 46), .int 0, .int p0, .int (-1), .ref (q 50), .ref (q 51), .int 0, .long 0, .long 0, .ref (q 55), .ref (q 56), .ref (q 57), .ref (q 58), .ref (q 59), .ref (q 60), .ref (q 61), .ref (q 62), .ref (q 63), .int 0, .ref (q 65), .ref (q 66), .ref (q 67), .ref (q 68), .ref (q 69), .ref (q 70), .ref (q 71), .ref (q 72), .ref (q 73), .int 0, .ref (q 75), .ref (q 76), .int 0]))] H := hP
    have hD : va_D A [(h0, .inr (15, [.int 0, .ref (q 1), .ref (q 2), .int 0, .ref (q 4), .ref (q 5), .ref (q 6), .ref (q 7), .ref (q 8), .int 0, .ref (q 10), .int 0, .int 0, .int 0, .int 0, .int 0, .int (-1), .ref (q 17), .ref (q 18), .ref (q 19), .ref (q 20), .ref (q 21), .ref (q 22), .ref (q 23), .ref (q 24), .ref (q 25), .ref (q 26), .ref (q 27), .int 0, .ref (q 29), .ref (q 30), .ref (q 31), .ref (q 32), .ref (q 33), .ref (q 34), .ref (q 35), .ref (q 36), .ref (q 37), .ref (q 38), .ref (q 39), .ref (q 40), .ref (q 41), .int 0, .ref (q 43), .ref (q 44), .ref (q 45), .ref (q 46), .int 0, .int p0, .int (-1), .ref (q 50), .ref (q 51), .int 0, .long 0, .long 0, .ref (q 55), .ref (q 56), .ref (q 57), .ref (q 58), .ref (q 59), .ref (q 60), .ref (q 61), .ref (q 62), .ref (q 63), .int 0, .ref (q 65), .ref (q 66), .ref (q 67), .ref (q 68), .ref (q 69), .ref (q 70), .ref (q 71), .ref (q 72), .ref (q 73), .int 0, .ref (q 75), .ref (q 76), .int 0]))] := hD
    refine lv_aload_n hx hb dX12_coin_53 rfl (lv_at hl 0 rfl) ?_
    refine va_get (D := (dC, dI)) (ci := 15) (v := .int p0) (C := RX12) (T := TX12) (N := 78) hx hb hts bF_X12 hown hK hP 0 rfl rfl 48 (by decide) (ht_at hts 6 rfl) (fun _ h9 => h9) rfl dX12_coin_54 ?_
    exact W.iret (v := p0) hx hb hr (fun t ht hW => ⟨⟨p0, ([.int 0, .ref (q 1), .ref (q 2), .int 0, .ref (q 4), .ref (q 5), .ref (q 6), .ref (q 7), .ref (q 8), .int 0, .ref (q 10), .int 0, .int 0, .int 0, .int 0, .int 0, .int (-1), .ref (q 17), .ref (q 18), .ref (q 19), .ref (q 20), .ref (q 21), .ref (q 22), .ref (q 23), .ref (q 24), .ref (q 25), .ref (q 26), .ref (q 27), .int 0, .ref (q 29), .ref (q 30), .ref (q 31), .ref (q 32), .ref (q 33), .ref (q 34), .ref (q 35), .ref (q 36), .ref (q 37), .ref (q 38), .ref (q 39), .ref (q 40), .ref (q 41), .int 0, .ref (q 43), .ref (q 44), .ref (q 45), .ref (q 46), .int 0, .int p0, .int (-1), .ref (q 50), .ref (q 51), .int 0, .long 0, .long 0, .ref (q 55), .ref (q 56), .ref (q 57), .ref (q 58), .ref (q 59), .ref (q 60), .ref (q 61), .ref (q 62), .ref (q 63), .int 0, .ref (q 65), .ref (q 66), .ref (q 67), .ref (q 68), .ref (q 69), .ref (q 70), .ref (q 71), .ref (q 72), .ref (q 73), .int 0, .ref (q 75), .ref (q 76), .int 0]), rfl, (by unfold T_coin; rw [if_pos hc4]; (first | exact ⟨rfl, fun _ => rfl⟩ | exact ⟨rfl, fun h => absurd h (by decide)⟩)), by rw [ht]; exact hP.sub (ws' := [(h0, .inr (15, [.int 0, .ref (q 1), .ref (q 2), .int 0, .ref (q 4), .ref (q 5), .ref (q 6), .ref (q 7), .ref (q 8), .int 0, .ref (q 10), .int 0, .int 0, .int 0, .int 0, .int 0, .int (-1), .ref (q 17), .ref (q 18), .ref (q 19), .ref (q 20), .ref (q 21), .ref (q 22), .ref (q 23), .ref (q 24), .ref (q 25), .ref (q 26), .ref (q 27), .int 0, .ref (q 29), .ref (q 30), .ref (q 31), .ref (q 32), .ref (q 33), .ref (q 34), .ref (q 35), .ref (q 36), .ref (q 37), .ref (q 38), .ref (q 39), .ref (q 40), .ref (q 41), .int 0, .ref (q 43), .ref (q 44), .ref (q 45), .ref (q 46), .int 0, .int p0, .int (-1), .ref (q 50), .ref (q 51), .int 0, .long 0, .long 0, .ref (q 55), .ref (q 56), .ref (q 57), .ref (q 58), .ref (q 59), .ref (q 60), .ref (q 61), .ref (q 62), .ref (q 63), .int 0, .ref (q 65), .ref (q 66), .ref (q 67), .ref (q 68), .ref (q 69), .ref (q 70), .ref (q 71), .ref (q 72), .ref (q 73), .int 0, .ref (q 75), .ref (q 76), .int 0]))]) [0] rfl, hD.sub (ws' := [(h0, .inr (15, [.int 0, .ref (q 1), .ref (q 2), .int 0, .ref (q 4), .ref (q 5), .ref (q 6), .ref (q 7), .ref (q 8), .int 0, .ref (q 10), .int 0, .int 0, .int 0, .int 0, .int 0, .int (-1), .ref (q 17), .ref (q 18), .ref (q 19), .ref (q 20), .ref (q 21), .ref (q 22), .ref (q 23), .ref (q 24), .ref (q 25), .ref (q 26), .ref (q 27), .int 0, .ref (q 29), .ref (q 30), .ref (q 31), .ref (q 32), .ref (q 33), .ref (q 34), .ref (q 35), .ref (q 36), .ref (q 37), .ref (q 38), .ref (q 39), .ref (q 40), .ref (q 41), .int 0, .ref (q 43), .ref (q 44), .ref (q 45), .ref (q 46), .int 0, .int p0, .int (-1), .ref (q 50), .ref (q 51), .int 0, .long 0, .long 0, .ref (q 55), .ref (q 56), .ref (q 57), .ref (q 58), .ref (q 59), .ref (q 60), .ref (q 61), .ref (q 62), .ref (q 63), .int 0, .ref (q 65), .ref (q 66), .ref (q 67), .ref (q 68), .ref (q 69), .ref (q 70), .ref (q 71), .ref (q 72), .ref (q 73), .int 0, .ref (q 75), .ref (q 76), .int 0]))]) [0] (by decide) rfl⟩, hS.F ht⟩) hS.2.2 dX12_coin_57
  · rw [if_neg hc4] at hw3
    subst hw3
    refine lv_if_eq (tgt := 29) hx hb dX12_coin_14 (by decide) (fun c13 => ?_) (fun c13 => absurd c13 (by decide))
    refine lv_iconst (v := 1) hx hb dX12_coin_29 (by decide) ?_
    refine lv_goto (tgt := 34) hx hb dX12_coin_30 (by decide) ?_
    refine lv_iconst (v := 1) hx hb dX12_coin_34 (by decide) ?_
    have hPc := hP.sub (ws' := [(h0, .inr (15, mF q 0))]) [0] rfl
    have hDc := hD.sub (ws' := [(h0, .inr (15, mF q 0))]) [0] (by decide) rfl
    have hKc := hK.sub (tys' := []) [] rfl
    have hFc := va_free (wc := [(h0, .inr (15, mF q 0))]) hD hS hA [0] rfl
    refine va_calli (va_runV (As := [.int 1, .int 1]) (rest := []) ⟨hx, hb, hml, hown, hts⟩ (c_m_throwsIf1 l dC dI h0 (mF q 0) 1 H.size rfl) (cwV 2 hts (goodIn_app (goodIn_r _ [10, 11, 12, 6] (by decide +kernel) (by decide +kernel)) (goodIn_ca (goodIn_r _ [9, 1] (by decide +kernel) (by decide +kernel)) (bs_in _ _))) rfl rfl rfl (by decide +kernel) ⟨(Nat.le_of_ble_eq_true rfl), (Nat.le_of_ble_eq_true rfl)⟩) ⟨fun a U g mk q => by obtain ⟨q0, q1, qP, qK, qD⟩ := q; exact ⟨q0, q1, qP, va_K.moved (u := U) (U := U.calling g mk a) (Vm.Alike.refl U.vm) qK, qD⟩, va_recv hKc hPc (ci := 15) (q0 := 0) rfl rfl, fun U hU hW => ⟨rfl, by rw [hU], by rw [hU]; exact hPc, va_K.moved hW.alike hKc, hDc.weaken (fun _ _ _ _ => trivial)⟩⟩ rfl rfl hl.1 rfl (lv_room (Nat.le_of_ble_eq_true rfl)) dX12_coin_35 ⟨(Nat.le_of_ble_eq_true rfl), (Nat.le_of_ble_eq_true rfl)⟩) hS (fun q _ h => hFc q h) hFc (fun r15 u t H1 locs ht hvm hw16 hB hz1 hk1 hS => ?_)
    obtain ⟨hP1, hD1⟩ := hB
    rw [ht] at hP1
    obtain ⟨hP, hD⟩ := va_join (wr := []) (w1 := [(h0, .inr (15, mF q 1))]) hP hD [0] [] rfl rfl (by decide) (by decide) hk1 hFc hP1 hD1
    generalize H1 = H at hP hS ⊢
    have hP : va_P (dC, dI) vwCl [(h0, .inr (15, mF q 1))] H := hP
    have hD : va_D A [(h0, .inr (15, mF q 1))] := hD
    try dsimp only at hw16
    obtain rfl : 1 = r15 := (hw16).symm
    refine lv_if_eq (tgt := 43) hx hb dX12_coin_38 (by decide) (fun c17 => absurd c17 (by decide)) (fun c17 => ?_)
    refine lv_iconst (v := 0) hx hb dX12_coin_41 (by decide) ?_
    exact W.iret (v := 0) hx hb hr (fun t ht hW => ⟨⟨0, (mF q 1), rfl, (by unfold T_coin; rw [if_neg hc4]; (first | exact ⟨rfl, fun _ => rfl⟩ | exact ⟨rfl, fun h => absurd h (by decide)⟩)), by rw [ht]; exact hP.sub (ws' := [(h0, .inr (15, mF q 1))]) [0] rfl, hD.sub (ws' := [(h0, .inr (15, mF q 1))]) [0] (by decide) rfl⟩, hS.F ht⟩) hS.2.2 dX12_coin_42
def w_m_jobs : List Cond := .code yX12_jobs cX12_jobs 2 (some .int) :: ([.fieldLink RX12 194 "SeaLandModel" "thrown" "I", .fieldLink RX12 553 "SeaLandModel" "jobs" "I"] ++ bs)
set_option maxHeartbeats 4000000 in
set_option maxRecDepth 100000 in
theorem m_jobs (l : Launch) (dC : Nat → ClassId) (dI : Nat → Nat → Nat) (h0 : Nat) (q : Nat → Nat) (cm : Nat → ClassId)  (sz : Nat) : Met l yX12_jobs w_m_jobs ({ frames := 0, cells := 0, slots := 0, locals := 0 }) (va_Pc [.ref h0] (fun U => U.heap.size = sz ∧ va_P (dC, dI) vwCl [(h0, .inr (15, mF q 0))] U.heap ∧ va_K (dC, dI) vwCl [] U ∧ va_D (fun _ => True) [(h0, .inr (15, mF q 0))])) (va_Qi (fun (r : Int32) (u : List Value) => u[0]? = some (.int (T_jobs).1) ∧ ((T_jobs).1 = 0 → r = (T_jobs).2)) (fun (fs : List Value) (t : State) => va_P (dC, dI) vwCl [(h0, .inr (15, fs))] t.heap ∧ va_D (va_A [(h0, .inr (15, mF q 0))] sz) [(h0, .inr (15, fs))]) (va_A [(h0, .inr (15, mF q 0))] sz)) 0 0 (va_A [(h0, .inr (15, mF q 0))] sz) := by
  refine Met.ofW (cc := cX12_jobs) (maxL := 2) (ret := (some .int)) (by decide) rfl ?_
  intro p e s m args below meth c s₁ B hml hv
  obtain ⟨rfl, hsz, hP, hK, hD0⟩ := hv
  have hx := B.exec
  have hb := B.bytes
  have hr := B.returns
  have hts := atoms_spec (ws := w_m_jobs) B.pre
  have hown : s.vm.findClass RX12 = some m.cls := findClass_of_methodNamed B.named
  have hlocks := B.notSynchronized
  subst hsz
  have hD := hD0.self (sz := s.heap.size)
  generalize hAe : va_A [(h0, .inr (15, mF q 0))] s.heap.size = A at hD ⊢
  have hA : ∀ q : Nat, s.heap.size ≤ q → A q := fun q h => by rw [← hAe]; exact Or.inr h
  have hS : va_S A s.heap s.heap [] := va_S.rf
  have hP : va_P (dC, dI) vwCl [(h0, .inr (15, mF q 0))] s.heap := hP
  have hl := lv_entry ([.ref h0]) (n := 2) (Nat.le_of_ble_eq_true rfl)
  rw [lg_entry_eq]
  generalize (lg_sl ([.ref h0]) ++ List.replicate (2 - (lg_sl ([.ref h0])).length) Slot.unset).toArray = ls at hl ⊢
  have hl : lv_has ls 2 [(0, .ref h0)] := hl
  refine lv_aload_n hx hb dX12_jobs_0 rfl (lv_at hl 0 rfl) ?_
  refine lv_iconst (v := 0) hx hb dX12_jobs_1 (by decide) ?_
  refine va_put (D := (dC, dI)) (ci := 15) (v := .int 0) (ty := .int) (C := RX12) (T := TX12) (N := 78) hx hb hts bF_X12 tyX12 tyX12_ok nmX12 hown hK hP hD hS 0 rfl rfl 0 (by decide) (ht_at hts 0 rfl) (fun _ h9 => h9) rfl (by decide +kernel) rfl rfl (Nat.le_of_ble_eq_true rfl) dX12_jobs_2 (fun H locs hP hD hS => ?_)
  have hP : va_P (dC, dI) vwCl [(h0, .inr (15, mF q 0))] H := hP
  have hD : va_D A [(h0, .inr (15, mF q 0))] := hD
  refine lv_aload_n hx hb dX12_jobs_5 rfl (lv_at hl 0 rfl) ?_
  refine va_get (D := (dC, dI)) (ci := 15) (v := .int 0) (C := RX12) (T := TX12) (N := 78) hx hb hts bF_X12 hown hK hP 0 rfl rfl 74 (by decide) (ht_at hts 1 rfl) (fun _ h9 => h9) rfl dX12_jobs_6 ?_
  refine lv_istore_n (lv' := [(1, .int 0), (0, .ref h0)]) hx hb dX12_jobs_9 rfl hl (by decide) rfl (fun ls hl => ?_)
  refine lv_aload_n hx hb dX12_jobs_10 rfl (lv_at hl 1 rfl) ?_
  refine lv_iconst (v := 0) hx hb dX12_jobs_11 (by decide) ?_
  refine va_put (D := (dC, dI)) (ci := 15) (v := .int 0) (ty := .int) (C := RX12) (T := TX12) (N := 78) hx hb hts bF_X12 tyX12 tyX12_ok nmX12 hown hK hP hD hS 0 rfl rfl 74 (by decide) (ht_at hts 1 rfl) (fun _ h9 => h9) rfl (by decide +kernel) rfl rfl (Nat.le_of_ble_eq_true rfl) dX12_jobs_12 (fun H locs hP hD hS => ?_)
  have hP : va_P (dC, dI) vwCl [(h0, .inr (15, mF q 0))] H := hP
  have hD : va_D A [(h0, .inr (15, mF q 0))] := hD
  refine lv_iload_n hx hb dX12_jobs_15 rfl (lv_at hl 0 rfl) ?_
  exact W.iret (v := 0) hx hb hr (fun t ht hW => ⟨⟨0, (mF q 0), rfl, (by unfold T_jobs; (first | exact ⟨rfl, fun _ => rfl⟩ | exact ⟨rfl, fun h => absurd h (by decide)⟩)), by rw [ht]; exact hP.sub (ws' := [(h0, .inr (15, mF q 0))]) [0] rfl, hD.sub (ws' := [(h0, .inr (15, mF q 0))]) [0] (by decide) rfl⟩, hS.F ht⟩) hS.2.2 dX12_jobs_16
def w_m_check : List Cond := .code yX12_check cX12_check 2 (some .int) :: ([.fieldLink RX12 194 "SeaLandModel" "thrown" "I", .fieldLink RX12 238 "SeaLandModel" "rows" "I"] ++ bs)
set_option maxHeartbeats 4000000 in
set_option maxRecDepth 100000 in
theorem m_check (l : Launch) (dC : Nat → ClassId) (dI : Nat → Nat → Nat) (h0 : Nat) (q : Nat → Nat) (cm : Nat → ClassId)  (sz : Nat) : Met l yX12_check w_m_check ({ frames := 0, cells := 0, slots := 0, locals := 0 }) (va_Pc [.ref h0] (fun U => U.heap.size = sz ∧ va_P (dC, dI) vwCl [(h0, .inr (15, mF q 0))] U.heap ∧ va_K (dC, dI) vwCl [] U ∧ va_D (fun _ => True) [(h0, .inr (15, mF q 0))])) (va_Qi (fun (r : Int32) (u : List Value) => u[0]? = some (.int (T_check).1) ∧ ((T_check).1 = 0 → r = (T_check).2)) (fun (fs : List Value) (t : State) => va_P (dC, dI) vwCl [(h0, .inr (15, fs))] t.heap ∧ va_D (va_A [(h0, .inr (15, mF q 0))] sz) [(h0, .inr (15, fs))]) (va_A [(h0, .inr (15, mF q 0))] sz)) 0 0 (va_A [(h0, .inr (15, mF q 0))] sz) := by
  refine Met.ofW (cc := cX12_check) (maxL := 2) (ret := (some .int)) (by decide) rfl ?_
  intro p e s m args below meth c s₁ B hml hv
  obtain ⟨rfl, hsz, hP, hK, hD0⟩ := hv
  have hx := B.exec
  have hb := B.bytes
  have hr := B.returns
  have hts := atoms_spec (ws := w_m_check) B.pre
  have hown : s.vm.findClass RX12 = some m.cls := findClass_of_methodNamed B.named
  have hlocks := B.notSynchronized
  subst hsz
  have hD := hD0.self (sz := s.heap.size)
  generalize hAe : va_A [(h0, .inr (15, mF q 0))] s.heap.size = A at hD ⊢
  have hA : ∀ q : Nat, s.heap.size ≤ q → A q := fun q h => by rw [← hAe]; exact Or.inr h
  have hS : va_S A s.heap s.heap [] := va_S.rf
  have hP : va_P (dC, dI) vwCl [(h0, .inr (15, mF q 0))] s.heap := hP
  have hl := lv_entry ([.ref h0]) (n := 2) (Nat.le_of_ble_eq_true rfl)
  rw [lg_entry_eq]
  generalize (lg_sl ([.ref h0]) ++ List.replicate (2 - (lg_sl ([.ref h0])).length) Slot.unset).toArray = ls at hl ⊢
  have hl : lv_has ls 2 [(0, .ref h0)] := hl
  refine lv_aload_n hx hb dX12_check_0 rfl (lv_at hl 0 rfl) ?_
  refine lv_iconst (v := 0) hx hb dX12_check_1 (by decide) ?_
  refine va_put (D := (dC, dI)) (ci := 15) (v := .int 0) (ty := .int) (C := RX12) (T := TX12) (N := 78) hx hb hts bF_X12 tyX12 tyX12_ok nmX12 hown hK hP hD hS 0 rfl rfl 0 (by decide) (ht_at hts 0 rfl) (fun _ h9 => h9) rfl (by decide +kernel) rfl rfl (Nat.le_of_ble_eq_true rfl) dX12_check_2 (fun H locs hP hD hS => ?_)
  have hP : va_P (dC, dI) vwCl [(h0, .inr (15, mF q 0))] H := hP
  have hD : va_D A [(h0, .inr (15, mF q 0))] := hD
  refine lv_iconst (v := 0) hx hb dX12_check_5 (by decide) ?_
  refine lv_istore_n (lv' := [(1, .int 0), (0, .ref h0)]) hx hb dX12_check_6 rfl hl (by decide) rfl (fun ls hl => ?_)
  refine lv_iload_n hx hb dX12_check_7 rfl (lv_at hl 0 rfl) ?_
  refine lv_bipush (v := 96) hx hb dX12_check_8 (by decide) ?_
  refine lv_aload_n hx hb dX12_check_10 rfl (lv_at hl 1 rfl) ?_
  refine va_get (D := (dC, dI)) (ci := 15) (v := .int 0) (C := RX12) (T := TX12) (N := 78) hx hb hts bF_X12 hown hK hP 0 rfl rfl 9 (by decide) (ht_at hts 1 rfl) (fun _ h9 => h9) rfl dX12_check_11 ?_
  refine lv_imul hx hb dX12_check_14 ?_
  refine lv_topi (fun x1 ex1 => ?_)
  obtain rfl : x1 = 0 := ex1.trans (by decide)
  refine lv_icmp_ge (tgt := 41) hx hb dX12_check_15 (by decide) (fun c2 => ?_) (fun c2 => absurd c2 (by decide))
  refine lv_iconst (v := (-1)) hx hb dX12_check_41 (by decide) ?_
  exact W.iret (v := (-1)) hx hb hr (fun t ht hW => ⟨⟨(-1), (mF q 0), rfl, (by unfold T_check; (first | exact ⟨rfl, fun _ => rfl⟩ | exact ⟨rfl, fun h => absurd h (by decide)⟩)), by rw [ht]; exact hP.sub (ws' := [(h0, .inr (15, mF q 0))]) [0] rfl, hD.sub (ws' := [(h0, .inr (15, mF q 0))]) [0] (by decide) rfl⟩, hS.F ht⟩) hS.2.2 dX12_check_42
def w_m_keep : List Cond := .code yX12_keep cX12_keep 2 (some .boolean) :: ([.fieldLink RX12 194 "SeaLandModel" "thrown" "I", .code yX12_hour cX12_hour 1 (some .int), .fieldLink RX12 9 "SeaLandModel" "world" "[I", .methodLink RX12 228 yX12_hour, .instanceMethod yX12_hour, .selects RX12 yX12_hour yX12_hour, .initialized RX12] ++ bs)
set_option maxHeartbeats 4000000 in
set_option maxRecDepth 100000 in
theorem m_keep (l : Launch) (dC : Nat → ClassId) (dI : Nat → Nat → Nat) (h0 : Nat) (q : Nat → Nat) (cm : Nat → ClassId)  (sz : Nat) : Met l yX12_keep w_m_keep ({ frames := 1, cells := 0, slots := 0, locals := 20 }) (va_Pc [.ref h0] (fun U => U.heap.size = sz ∧ va_P (dC, dI) vwCl [(h0, .inr (15, mF q 0)), (q 1, .inl ((cm 1), 1749, .inl (fun _ => 0)))] U.heap ∧ va_K (dC, dI) vwCl [((cm 1), .int)] U ∧ va_D (fun _ => True) [(h0, .inr (15, mF q 0)), (q 1, .inl ((cm 1), 1749, .inl (fun _ => 0)))])) (va_Qi (fun (r : Int32) (u : List Value) => u[0]? = some (.int (T_keep).1) ∧ ((T_keep).1 = 0 → r = (T_keep).2)) (fun (fs : List Value) (t : State) => va_P (dC, dI) vwCl [(h0, .inr (15, fs))] t.heap ∧ va_D (va_A [(h0, .inr (15, mF q 0)), (q 1, .inl ((cm 1), 1749, .inl (fun _ => 0)))] sz) [(h0, .inr (15, fs))]) (va_A [(h0, .inr (15, mF q 0)), (q 1, .inl ((cm 1), 1749, .inl (fun _ => 0)))] sz)) 0 0 (va_A [(h0, .inr (15, mF q 0)), (q 1, .inl ((cm 1), 1749, .inl (fun _ => 0)))] sz) := by
  refine Met.ofW (cc := cX12_keep) (maxL := 2) (ret := (some .boolean)) (by decide) rfl ?_
  intro p e s m args below meth c s₁ B hml hv
  obtain ⟨rfl, hsz, hP, hK, hD0⟩ := hv
  have hx := B.exec
  have hb := B.bytes
  have hr := B.returns
  have hts := atoms_spec (ws := w_m_keep) B.pre
  have hown : s.vm.findClass RX12 = some m.cls := findClass_of_methodNamed B.named
  have hlocks := B.notSynchronized
  subst hsz
  have hD := hD0.self (sz := s.heap.size)
  generalize hAe : va_A [(h0, .inr (15, mF q 0)), (q 1, .inl ((cm 1), 1749, .inl (fun _ => 0)))] s.heap.size = A at hD ⊢
  have hA : ∀ q : Nat, s.heap.size ≤ q → A q := fun q h => by rw [← hAe]; exact Or.inr h
  have hS : va_S A s.heap s.heap [] := va_S.rf
  have hP : va_P (dC, dI) vwCl [(h0, .inr (15, mF q 0)), (q 1, .inl ((cm 1), 1749, .inl (fun _ => 0)))] s.heap := hP
  have hl := lv_entry ([.ref h0]) (n := 2) (Nat.le_of_ble_eq_true rfl)
  rw [lg_entry_eq]
  generalize (lg_sl ([.ref h0]) ++ List.replicate (2 - (lg_sl ([.ref h0])).length) Slot.unset).toArray = ls at hl ⊢
  have hl : lv_has ls 2 [(0, .ref h0)] := hl
  refine lv_aload_n hx hb dX12_keep_0 rfl (lv_at hl 0 rfl) ?_
  refine lv_iconst (v := 0) hx hb dX12_keep_1 (by decide) ?_
  refine va_put (D := (dC, dI)) (ci := 15) (v := .int 0) (ty := .int) (C := RX12) (T := TX12) (N := 78) hx hb hts bF_X12 tyX12 tyX12_ok nmX12 hown hK hP hD hS 0 rfl rfl 0 (by decide) (ht_at hts 0 rfl) (fun _ h9 => h9) rfl (by decide +kernel) rfl rfl (Nat.le_of_ble_eq_true rfl) dX12_keep_2 (fun H locs hP hD hS => ?_)
  have hP : va_P (dC, dI) vwCl [(h0, .inr (15, mF q 0)), (q 1, .inl ((cm 1), 1749, .inl (fun _ => 0)))] H := hP
  have hD : va_D A [(h0, .inr (15, mF q 0)), (q 1, .inl ((cm 1), 1749, .inl (fun _ => 0)))] := hD
  refine lv_aload_n hx hb dX12_keep_5 rfl (lv_at hl 0 rfl) ?_
  have hPc := hP.sub (ws' := [(h0, .inr (15, mF q 0)), (q 1, .inl ((cm 1), 1749, .inl (fun _ => 0)))]) [0, 1] rfl
  have hDc := hD.sub (ws' := [(h0, .inr (15, mF q 0)), (q 1, .inl ((cm 1), 1749, .inl (fun _ => 0)))]) [0, 1] (by decide) rfl
  have hKc := hK.sub (tys' := [((cm 1), .int)]) [0] rfl
  have hFc := va_free (wc := [(h0, .inr (15, mF q 0)), (q 1, .inl ((cm 1), 1749, .inl (fun _ => 0)))]) hD hS hA [0, 1] rfl
  refine va_calli (va_runV (As := []) (rest := []) ⟨hx, hb, hml, hown, hts⟩ (m_hour l dC dI h0 q cm H.size ) (cwV 0 hts (goodIn_app (goodIn_r _ [4, 5, 6, 7] (by decide +kernel) (by decide +kernel)) (goodIn_ca (goodIn_r _ [2, 3] (by decide +kernel) (by decide +kernel)) (bs_in _ _))) rfl rfl rfl (by decide +kernel) ⟨(Nat.le_of_ble_eq_true rfl), (Nat.le_of_ble_eq_true rfl)⟩) ⟨fun a U g mk q => by obtain ⟨q0, q1, qP, qK, qD⟩ := q; exact ⟨q0, q1, qP, va_K.moved (u := U) (U := U.calling g mk a) (Vm.Alike.refl U.vm) qK, qD⟩, va_recv hKc hPc (ci := 15) (q0 := 0) rfl rfl, fun U hU hW => ⟨rfl, by rw [hU], by rw [hU]; exact hPc, va_K.moved hW.alike hKc, hDc.weaken (fun _ _ _ _ => trivial)⟩⟩ rfl rfl hl.1 rfl (lv_room (Nat.le_of_ble_eq_true rfl)) dX12_keep_6 ⟨(Nat.le_of_ble_eq_true rfl), (Nat.le_of_ble_eq_true rfl)⟩) hS (fun q _ h => hFc q h) hFc (fun r2 u t H1 locs ht hvm hw3 hB hz1 hk1 hS => ?_)
  obtain ⟨hP1, hD1⟩ := hB
  rw [ht] at hP1
  obtain ⟨hP, hD⟩ := va_join (wr := []) (w1 := [(h0, .inr (15, mF q 0)), (q 1, .inl ((cm 1), 1749, .inl (fun _ => 0)))]) hP hD [0, 1] [] rfl rfl (by decide) (by decide) hk1 hFc hP1 hD1
  generalize H1 = H at hP hS ⊢
  have hP : va_P (dC, dI) vwCl [(h0, .inr (15, mF q 0)), (q 1, .inl ((cm 1), 1749, .inl (fun _ => 0)))] H := hP
  have hD : va_D A [(h0, .inr (15, mF q 0)), (q 1, .inl ((cm 1), 1749, .inl (fun _ => 0)))] := hD
  try dsimp only at hw3
  obtain rfl : 0 = r2 := (hw3).symm
  refine lv_if_ne (tgt := 14) hx hb dX12_keep_9 (by decide) (fun c4 => absurd c4 (by decide)) (fun c4 => ?_)
  refine lv_iconst (v := 0) hx hb dX12_keep_12 (by decide) ?_
  exact W.zret (v := 0) hx hb hr (by decide) (fun t ht hW => ⟨⟨0, (mF q 0), rfl, (by unfold T_keep; (first | exact ⟨rfl, fun _ => rfl⟩ | exact ⟨rfl, fun h => absurd h (by decide)⟩)), by rw [ht]; exact hP.sub (ws' := [(h0, .inr (15, mF q 0))]) [0] rfl, hD.sub (ws' := [(h0, .inr (15, mF q 0))]) [0] (by decide) rfl⟩, hS.F ht⟩) hS.2.2 dX12_keep_13
def w_m_back : List Cond := .code yX12_back cX12_back 2 (some .boolean) :: ([.fieldLink RX12 194 "SeaLandModel" "thrown" "I", .fieldLink RX12 325 "SeaLandModel" "hasImage" "Z"] ++ bs)
set_option maxHeartbeats 4000000 in
set_option maxRecDepth 100000 in
theorem m_back (l : Launch) (dC : Nat → ClassId) (dI : Nat → Nat → Nat) (h0 : Nat) (q : Nat → Nat) (cm : Nat → ClassId)  (sz : Nat) : Met l yX12_back w_m_back ({ frames := 0, cells := 0, slots := 0, locals := 0 }) (va_Pc [.ref h0] (fun U => U.heap.size = sz ∧ va_P (dC, dI) vwCl [(h0, .inr (15, mF q 0))] U.heap ∧ va_K (dC, dI) vwCl [] U ∧ va_D (fun _ => True) [(h0, .inr (15, mF q 0))])) (va_Qi (fun (r : Int32) (u : List Value) => u[0]? = some (.int (T_back).1) ∧ ((T_back).1 = 0 → r = (T_back).2)) (fun (fs : List Value) (t : State) => va_P (dC, dI) vwCl [(h0, .inr (15, fs))] t.heap ∧ va_D (va_A [(h0, .inr (15, mF q 0))] sz) [(h0, .inr (15, fs))]) (va_A [(h0, .inr (15, mF q 0))] sz)) 0 0 (va_A [(h0, .inr (15, mF q 0))] sz) := by
  refine Met.ofW (cc := cX12_back) (maxL := 2) (ret := (some .boolean)) (by decide) rfl ?_
  intro p e s m args below meth c s₁ B hml hv
  obtain ⟨rfl, hsz, hP, hK, hD0⟩ := hv
  have hx := B.exec
  have hb := B.bytes
  have hr := B.returns
  have hts := atoms_spec (ws := w_m_back) B.pre
  have hown : s.vm.findClass RX12 = some m.cls := findClass_of_methodNamed B.named
  have hlocks := B.notSynchronized
  subst hsz
  have hD := hD0.self (sz := s.heap.size)
  generalize hAe : va_A [(h0, .inr (15, mF q 0))] s.heap.size = A at hD ⊢
  have hA : ∀ q : Nat, s.heap.size ≤ q → A q := fun q h => by rw [← hAe]; exact Or.inr h
  have hS : va_S A s.heap s.heap [] := va_S.rf
  have hP : va_P (dC, dI) vwCl [(h0, .inr (15, mF q 0))] s.heap := hP
  have hl := lv_entry ([.ref h0]) (n := 2) (Nat.le_of_ble_eq_true rfl)
  rw [lg_entry_eq]
  generalize (lg_sl ([.ref h0]) ++ List.replicate (2 - (lg_sl ([.ref h0])).length) Slot.unset).toArray = ls at hl ⊢
  have hl : lv_has ls 2 [(0, .ref h0)] := hl
  refine lv_aload_n hx hb dX12_back_0 rfl (lv_at hl 0 rfl) ?_
  refine lv_iconst (v := 0) hx hb dX12_back_1 (by decide) ?_
  refine va_put (D := (dC, dI)) (ci := 15) (v := .int 0) (ty := .int) (C := RX12) (T := TX12) (N := 78) hx hb hts bF_X12 tyX12 tyX12_ok nmX12 hown hK hP hD hS 0 rfl rfl 0 (by decide) (ht_at hts 0 rfl) (fun _ h9 => h9) rfl (by decide +kernel) rfl rfl (Nat.le_of_ble_eq_true rfl) dX12_back_2 (fun H locs hP hD hS => ?_)
  have hP : va_P (dC, dI) vwCl [(h0, .inr (15, mF q 0))] H := hP
  have hD : va_D A [(h0, .inr (15, mF q 0))] := hD
  refine lv_aload_n hx hb dX12_back_5 rfl (lv_at hl 0 rfl) ?_
  refine va_get (D := (dC, dI)) (ci := 15) (v := .int 0) (C := RX12) (T := TX12) (N := 78) hx hb hts bF_X12 hown hK hP 0 rfl rfl 3 (by decide) (ht_at hts 1 rfl) (fun _ h9 => h9) rfl dX12_back_6 ?_
  refine lv_if_eq (tgt := 27) hx hb dX12_back_9 (by decide) (fun c1 => ?_) (fun c1 => absurd c1 (by decide))
  refine lv_iconst (v := 0) hx hb dX12_back_27 (by decide) ?_
  exact W.zret (v := 0) hx hb hr (by decide) (fun t ht hW => ⟨⟨0, (mF q 0), rfl, (by unfold T_back; (first | exact ⟨rfl, fun _ => rfl⟩ | exact ⟨rfl, fun h => absurd h (by decide)⟩)), by rw [ht]; exact hP.sub (ws' := [(h0, .inr (15, mF q 0))]) [0] rfl, hD.sub (ws' := [(h0, .inr (15, mF q 0))]) [0] (by decide) rfl⟩, hS.F ht⟩) hS.2.2 dX12_back_28
def w_m_fault : List Cond := .code yX12_fault cX12_fault 1 (some .int) :: ([.fieldLink RX12 194 "SeaLandModel" "thrown" "I", .fieldLink RX12 35 "SeaLandModel" "faultAt" "I"] ++ bs)
set_option maxHeartbeats 4000000 in
set_option maxRecDepth 100000 in
theorem m_fault (l : Launch) (dC : Nat → ClassId) (dI : Nat → Nat → Nat) (h0 : Nat) (q : Nat → Nat) (cm : Nat → ClassId)  (sz : Nat) : Met l yX12_fault w_m_fault ({ frames := 0, cells := 0, slots := 0, locals := 0 }) (va_Pc [.ref h0] (fun U => U.heap.size = sz ∧ va_P (dC, dI) vwCl [(h0, .inr (15, mF q 0))] U.heap ∧ va_K (dC, dI) vwCl [] U ∧ va_D (fun _ => True) [(h0, .inr (15, mF q 0))])) (va_Qi (fun (r : Int32) (u : List Value) => u[0]? = some (.int (T_fault).1) ∧ ((T_fault).1 = 0 → r = (T_fault).2)) (fun (fs : List Value) (t : State) => va_P (dC, dI) vwCl [(h0, .inr (15, fs))] t.heap ∧ va_D (va_A [(h0, .inr (15, mF q 0))] sz) [(h0, .inr (15, fs))]) (va_A [(h0, .inr (15, mF q 0))] sz)) 0 0 (va_A [(h0, .inr (15, mF q 0))] sz) := by
  refine Met.ofW (cc := cX12_fault) (maxL := 1) (ret := (some .int)) (by decide) rfl ?_
  intro p e s m args below meth c s₁ B hml hv
  obtain ⟨rfl, hsz, hP, hK, hD0⟩ := hv
  have hx := B.exec
  have hb := B.bytes
  have hr := B.returns
  have hts := atoms_spec (ws := w_m_fault) B.pre
  have hown : s.vm.findClass RX12 = some m.cls := findClass_of_methodNamed B.named
  have hlocks := B.notSynchronized
  subst hsz
  have hD := hD0.self (sz := s.heap.size)
  generalize hAe : va_A [(h0, .inr (15, mF q 0))] s.heap.size = A at hD ⊢
  have hA : ∀ q : Nat, s.heap.size ≤ q → A q := fun q h => by rw [← hAe]; exact Or.inr h
  have hS : va_S A s.heap s.heap [] := va_S.rf
  have hP : va_P (dC, dI) vwCl [(h0, .inr (15, mF q 0))] s.heap := hP
  have hl := lv_entry ([.ref h0]) (n := 1) (Nat.le_of_ble_eq_true rfl)
  rw [lg_entry_eq]
  generalize (lg_sl ([.ref h0]) ++ List.replicate (1 - (lg_sl ([.ref h0])).length) Slot.unset).toArray = ls at hl ⊢
  have hl : lv_has ls 1 [(0, .ref h0)] := hl
  refine lv_aload_n hx hb dX12_fault_0 rfl (lv_at hl 0 rfl) ?_
  refine lv_iconst (v := 0) hx hb dX12_fault_1 (by decide) ?_
  refine va_put (D := (dC, dI)) (ci := 15) (v := .int 0) (ty := .int) (C := RX12) (T := TX12) (N := 78) hx hb hts bF_X12 tyX12 tyX12_ok nmX12 hown hK hP hD hS 0 rfl rfl 0 (by decide) (ht_at hts 0 rfl) (fun _ h9 => h9) rfl (by decide +kernel) rfl rfl (Nat.le_of_ble_eq_true rfl) dX12_fault_2 (fun H locs hP hD hS => ?_)
  have hP : va_P (dC, dI) vwCl [(h0, .inr (15, mF q 0))] H := hP
  have hD : va_D A [(h0, .inr (15, mF q 0))] := hD
  refine lv_aload_n hx hb dX12_fault_5 rfl (lv_at hl 0 rfl) ?_
  refine va_get (D := (dC, dI)) (ci := 15) (v := .int (-1)) (C := RX12) (T := TX12) (N := 78) hx hb hts bF_X12 hown hK hP 0 rfl rfl 16 (by decide) (ht_at hts 1 rfl) (fun _ h9 => h9) rfl dX12_fault_6 ?_
  exact W.iret (v := (-1)) hx hb hr (fun t ht hW => ⟨⟨(-1), (mF q 0), rfl, (by unfold T_fault; (first | exact ⟨rfl, fun _ => rfl⟩ | exact ⟨rfl, fun h => absurd h (by decide)⟩)), by rw [ht]; exact hP.sub (ws' := [(h0, .inr (15, mF q 0))]) [0] rfl, hD.sub (ws' := [(h0, .inr (15, mF q 0))]) [0] (by decide) rfl⟩, hS.F ht⟩) hS.2.2 dX12_fault_9
def w_m_job : List Cond := .code yX12_job cX12_job 5 (some .int) :: ([.fieldLink RX12 194 "SeaLandModel" "thrown" "I", .constant RX12 536 1000000, .code yX12_in cX12_in 3 (some .boolean), .methodLink RX12 197 yX12_in, .static yX12_in, .initialized RX12, .constant RX12 241 100000, .code yX12_throwsIf cX12_throwsIf 3 (some .boolean), .methodLink RX12 224 yX12_throwsIf, .instanceMethod yX12_throwsIf, .selects RX12 yX12_throwsIf yX12_throwsIf, .fieldLink RX12 553 "SeaLandModel" "jobs" "I", .fieldLink RX12 176 "SeaLandModel" "jCost" "[I", .fieldLink RX12 179 "SeaLandModel" "jYears" "[I", .fieldLink RX12 182 "SeaLandModel" "jBrings" "[I", .fieldLink RX12 185 "SeaLandModel" "jAcres" "[I"] ++ bs)
set_option maxHeartbeats 4000000 in
set_option maxRecDepth 100000 in
theorem m_job (l : Launch) (dC : Nat → ClassId) (dI : Nat → Nat → Nat) (h0 : Nat) (q : Nat → Nat) (cm : Nat → ClassId) (p0 p1 p2 p3 : Int32) (sz : Nat) : Met l yX12_job w_m_job ({ frames := 1, cells := 0, slots := 0, locals := 22 }) (va_Pc [.ref h0, .int p0, .int p1, .int p2, .int p3] (fun U => U.heap.size = sz ∧ va_P (dC, dI) vwCl [(h0, .inr (15, mF q 0)), (q 70, .inl ((cm 70), 7, .inl (fun _ => 0))), (q 71, .inl ((cm 71), 7, .inl (fun _ => 0))), (q 72, .inl ((cm 72), 7, .inl (fun _ => 0))), (q 73, .inl ((cm 73), 7, .inl (fun _ => 0)))] U.heap ∧ va_K (dC, dI) vwCl [((cm 70), .int), ((cm 71), .int), ((cm 72), .int), ((cm 73), .int)] U ∧ va_D (fun _ => True) [(h0, .inr (15, mF q 0)), (q 70, .inl ((cm 70), 7, .inl (fun _ => 0))), (q 71, .inl ((cm 71), 7, .inl (fun _ => 0))), (q 72, .inl ((cm 72), 7, .inl (fun _ => 0))), (q 73, .inl ((cm 73), 7, .inl (fun _ => 0)))])) (va_Qi (fun (r : Int32) (u : List Value) => u[0]? = some (.int (T_job p0 p1 p2 p3).1) ∧ ((T_job p0 p1 p2 p3).1 = 0 → r = (T_job p0 p1 p2 p3).2)) (fun (fs : List Value) (t : State) => va_P (dC, dI) vwCl [(h0, .inr (15, fs))] t.heap ∧ va_D (va_A [(h0, .inr (15, mF q 0)), (q 70, .inl ((cm 70), 7, .inl (fun _ => 0))), (q 71, .inl ((cm 71), 7, .inl (fun _ => 0))), (q 72, .inl ((cm 72), 7, .inl (fun _ => 0))), (q 73, .inl ((cm 73), 7, .inl (fun _ => 0)))] sz) [(h0, .inr (15, fs))]) (va_A [(h0, .inr (15, mF q 0)), (q 70, .inl ((cm 70), 7, .inl (fun _ => 0))), (q 71, .inl ((cm 71), 7, .inl (fun _ => 0))), (q 72, .inl ((cm 72), 7, .inl (fun _ => 0))), (q 73, .inl ((cm 73), 7, .inl (fun _ => 0)))] sz)) 0 0 (va_A [(h0, .inr (15, mF q 0)), (q 70, .inl ((cm 70), 7, .inl (fun _ => 0))), (q 71, .inl ((cm 71), 7, .inl (fun _ => 0))), (q 72, .inl ((cm 72), 7, .inl (fun _ => 0))), (q 73, .inl ((cm 73), 7, .inl (fun _ => 0)))] sz) := by
  refine Met.ofW (cc := cX12_job) (maxL := 5) (ret := (some .int)) (by decide) rfl ?_
  intro p e s m args below meth c s₁ B hml hv
  obtain ⟨rfl, hsz, hP, hK, hD0⟩ := hv
  have hx := B.exec
  have hb := B.bytes
  have hr := B.returns
  have hts := atoms_spec (ws := w_m_job) B.pre
  have hown : s.vm.findClass RX12 = some m.cls := findClass_of_methodNamed B.named
  have hlocks := B.notSynchronized
  subst hsz
  have hD := hD0.self (sz := s.heap.size)
  generalize hAe : va_A [(h0, .inr (15, mF q 0)), (q 70, .inl ((cm 70), 7, .inl (fun _ => 0))), (q 71, .inl ((cm 71), 7, .inl (fun _ => 0))), (q 72, .inl ((cm 72), 7, .inl (fun _ => 0))), (q 73, .inl ((cm 73), 7, .inl (fun _ => 0)))] s.heap.size = A at hD ⊢
  have hA : ∀ q : Nat, s.heap.size ≤ q → A q := fun q h => by rw [← hAe]; exact Or.inr h
  have hS : va_S A s.heap s.heap [] := va_S.rf
  have hP : va_P (dC, dI) vwCl [(h0, .inr (15, mF q 0)), (q 70, .inl ((cm 70), 7, .inl (fun _ => 0))), (q 71, .inl ((cm 71), 7, .inl (fun _ => 0))), (q 72, .inl ((cm 72), 7, .inl (fun _ => 0))), (q 73, .inl ((cm 73), 7, .inl (fun _ => 0)))] s.heap := hP
  have hl := lv_entry ([.ref h0, .int p0, .int p1, .int p2, .int p3]) (n := 5) (Nat.le_of_ble_eq_true rfl)
  rw [lg_entry_eq]
  generalize (lg_sl ([.ref h0, .int p0, .int p1, .int p2, .int p3]) ++ List.replicate (5 - (lg_sl ([.ref h0, .int p0, .int p1, .int p2, .int p3])).length) Slot.unset).toArray = ls at hl ⊢
  have hl : lv_has ls 5 [(0, .ref h0), (1, .int p0), (2, .int p1), (3, .int p2), (4, .int p3)] := hl
  refine lv_aload_n hx hb dX12_job_0 rfl (lv_at hl 0 rfl) ?_
  refine lv_iconst (v := 0) hx hb dX12_job_1 (by decide) ?_
  refine va_put (D := (dC, dI)) (ci := 15) (v := .int 0) (ty := .int) (C := RX12) (T := TX12) (N := 78) hx hb hts bF_X12 tyX12 tyX12_ok nmX12 hown hK hP hD hS 0 rfl rfl 0 (by decide) (ht_at hts 0 rfl) (fun _ h9 => h9) rfl (by decide +kernel) rfl rfl (Nat.le_of_ble_eq_true rfl) dX12_job_2 (fun H locs hP hD hS => ?_)
  have hP : va_P (dC, dI) vwCl [(h0, .inr (15, mF q 0)), (q 70, .inl ((cm 70), 7, .inl (fun _ => 0))), (q 71, .inl ((cm 71), 7, .inl (fun _ => 0))), (q 72, .inl ((cm 72), 7, .inl (fun _ => 0))), (q 73, .inl ((cm 73), 7, .inl (fun _ => 0)))] H := hP
  have hD : va_D A [(h0, .inr (15, mF q 0)), (q 70, .inl ((cm 70), 7, .inl (fun _ => 0))), (q 71, .inl ((cm 71), 7, .inl (fun _ => 0))), (q 72, .inl ((cm 72), 7, .inl (fun _ => 0))), (q 73, .inl ((cm 73), 7, .inl (fun _ => 0)))] := hD
  refine lv_aload_n hx hb dX12_job_5 rfl (lv_at hl 0 rfl) ?_
  refine lv_iload_n hx hb dX12_job_6 rfl (lv_at hl 1 rfl) ?_
  refine lv_iconst (v := 0) hx hb dX12_job_7 (by decide) ?_
  refine lv_ldcw (v := 1000000) hx hb hown (ht_at hts 1 rfl) dX12_job_8 ?_
  have hPc := hP.sub (ws' := []) [] rfl
  have hDc := hD.sub (ws' := []) [] (by decide) rfl
  have hKc := hK.sub (tys' := []) [] rfl
  have hFc := va_free (wc := []) hD hS hA [] rfl
  refine va_calli (va_runS (As := [.int p0, .int 0, .int 1000000]) (rest := [.ref h0]) ⟨hx, hb, hml, hown, hts⟩ (c_min_ l dC dI p0 0 1000000 H.size ) (va_cwS 3 hts (goodIn_app (goodIn_r _ [4, 5, 6] (by decide +kernel) (by decide +kernel)) (goodIn_ca (goodIn_r _ [3] (by decide +kernel) (by decide +kernel)) (bs_in _ _))) rfl rfl rfl (by decide +kernel) ⟨(Nat.le_of_ble_eq_true rfl), (Nat.le_of_ble_eq_true rfl)⟩) ⟨fun a U g mk q => by obtain ⟨q0, q1, qP, qK, qD⟩ := q; exact ⟨q0, q1, qP, va_K.moved (u := U) (U := U.calling g mk a) (Vm.Alike.refl U.vm) qK, qD⟩, fun U hU hW => ⟨rfl, by rw [hU], by rw [hU]; exact hPc, va_K.moved hW.alike hKc, hDc.weaken (fun _ _ _ _ => trivial)⟩⟩ rfl rfl hl.1 rfl (lv_room (Nat.le_of_ble_eq_true rfl)) dX12_job_11 ⟨(Nat.le_of_ble_eq_true rfl), (Nat.le_of_ble_eq_true rfl)⟩) hS (fun q _ h => hFc q h) hFc (fun r2 u t H1 locs ht hvm hw3 hB hz1 hk1 hS => ?_)
  have hP1 : va_P (dC, dI) vwCl [] H1 := nilP
  have hD1 : va_D (va_A [] H.size) [] := nilD
  have hK := hK
  obtain ⟨hP, hD⟩ := va_join (wr := [(h0, .inr (15, mF q 0)), (q 70, .inl ((cm 70), 7, .inl (fun _ => 0))), (q 71, .inl ((cm 71), 7, .inl (fun _ => 0))), (q 72, .inl ((cm 72), 7, .inl (fun _ => 0))), (q 73, .inl ((cm 73), 7, .inl (fun _ => 0)))]) (w1 := []) hP hD [] [0, 1, 2, 3, 4] rfl rfl (by decide) (by decide) hk1 hFc hP1 hD1
  generalize H1 = H at hP hS ⊢
  have hP : va_P (dC, dI) vwCl [(h0, .inr (15, mF q 0)), (q 70, .inl ((cm 70), 7, .inl (fun _ => 0))), (q 71, .inl ((cm 71), 7, .inl (fun _ => 0))), (q 72, .inl ((cm 72), 7, .inl (fun _ => 0))), (q 73, .inl ((cm 73), 7, .inl (fun _ => 0)))] H := hP
  have hD : va_D A [(h0, .inr (15, mF q 0)), (q 70, .inl ((cm 70), 7, .inl (fun _ => 0))), (q 71, .inl ((cm 71), 7, .inl (fun _ => 0))), (q 72, .inl ((cm 72), 7, .inl (fun _ => 0))), (q 73, .inl ((cm 73), 7, .inl (fun _ => 0)))] := hD
  try dsimp only at hw3
  by_cases hc4 : (0 : Int32) ≤ p0 ∧ p0 ≤ (1000000 : Int32)
  · rw [if_pos hc4] at hw3
    subst hw3
    refine lv_if_eq (tgt := 49) hx hb dX12_job_14 (by decide) (fun c5 => absurd c5 (by decide)) (fun c5 => ?_)
    refine lv_iload_n hx hb dX12_job_17 rfl (lv_at hl 2 rfl) ?_
    refine lv_iconst (v := 1) hx hb dX12_job_18 (by decide) ?_
    refine lv_bipush (v := 20) hx hb dX12_job_19 (by decide) ?_
    have hPc := hP.sub (ws' := []) [] rfl
    have hDc := hD.sub (ws' := []) [] (by decide) rfl
    have hKc := hK.sub (tys' := []) [] rfl
    have hFc := va_free (wc := []) hD hS hA [] rfl
    refine va_calli (va_runS (As := [.int p1, .int 1, .int 20]) (rest := [.ref h0]) ⟨hx, hb, hml, hown, hts⟩ (c_min_ l dC dI p1 1 20 H.size ) (va_cwS 3 hts (goodIn_app (goodIn_r _ [4, 5, 6] (by decide +kernel) (by decide +kernel)) (goodIn_ca (goodIn_r _ [3] (by decide +kernel) (by decide +kernel)) (bs_in _ _))) rfl rfl rfl (by decide +kernel) ⟨(Nat.le_of_ble_eq_true rfl), (Nat.le_of_ble_eq_true rfl)⟩) ⟨fun a U g mk q => by obtain ⟨q0, q1, qP, qK, qD⟩ := q; exact ⟨q0, q1, qP, va_K.moved (u := U) (U := U.calling g mk a) (Vm.Alike.refl U.vm) qK, qD⟩, fun U hU hW => ⟨rfl, by rw [hU], by rw [hU]; exact hPc, va_K.moved hW.alike hKc, hDc.weaken (fun _ _ _ _ => trivial)⟩⟩ rfl rfl hl.1 rfl (lv_room (Nat.le_of_ble_eq_true rfl)) dX12_job_21 ⟨(Nat.le_of_ble_eq_true rfl), (Nat.le_of_ble_eq_true rfl)⟩) hS (fun q _ h => hFc q h) hFc (fun r7 u t H1 locs ht hvm hw8 hB hz1 hk1 hS => ?_)
    have hP1 : va_P (dC, dI) vwCl [] H1 := nilP
    have hD1 : va_D (va_A [] H.size) [] := nilD
    have hK := hK
    obtain ⟨hP, hD⟩ := va_join (wr := [(h0, .inr (15, mF q 0)), (q 70, .inl ((cm 70), 7, .inl (fun _ => 0))), (q 71, .inl ((cm 71), 7, .inl (fun _ => 0))), (q 72, .inl ((cm 72), 7, .inl (fun _ => 0))), (q 73, .inl ((cm 73), 7, .inl (fun _ => 0)))]) (w1 := []) hP hD [] [0, 1, 2, 3, 4] rfl rfl (by decide) (by decide) hk1 hFc hP1 hD1
    generalize H1 = H at hP hS ⊢
    have hP : va_P (dC, dI) vwCl [(h0, .inr (15, mF q 0)), (q 70, .inl ((cm 70), 7, .inl (fun _ => 0))), (q 71, .inl ((cm 71), 7, .inl (fun _ => 0))), (q 72, .inl ((cm 72), 7, .inl (fun _ => 0))), (q 73, .inl ((cm 73), 7, .inl (fun _ => 0)))] H := hP
    have hD : va_D A [(h0, .inr (15, mF q 0)), (q 70, .inl ((cm 70), 7, .inl (fun _ => 0))), (q 71, .inl ((cm 71), 7, .inl (fun _ => 0))), (q 72, .inl ((cm 72), 7, .inl (fun _ => 0))), (q 73, .inl ((cm 73), 7, .inl (fun _ => 0)))] := hD
    try dsimp only at hw8
    by_cases hc9 : (1 : Int32) ≤ p1 ∧ p1 ≤ (20 : Int32)
    · rw [if_pos hc9] at hw8
      subst hw8
      refine lv_if_eq (tgt := 49) hx hb dX12_job_24 (by decide) (fun c10 => absurd c10 (by decide)) (fun c10 => ?_)
      refine lv_iload_n hx hb dX12_job_27 rfl (lv_at hl 3 rfl) ?_
      refine lv_iconst (v := 0) hx hb dX12_job_28 (by decide) ?_
      refine lv_ldc (v := 100000) hx hb hown (ht_at hts 6 rfl) dX12_job_29 ?_
      have hPc := hP.sub (ws' := []) [] rfl
      have hDc := hD.sub (ws' := []) [] (by decide) rfl
      have hKc := hK.sub (tys' := []) [] rfl
      have hFc := va_free (wc := []) hD hS hA [] rfl
      refine va_calli (va_runS (As := [.int p2, .int 0, .int 100000]) (rest := [.ref h0]) ⟨hx, hb, hml, hown, hts⟩ (c_min_ l dC dI p2 0 100000 H.size ) (va_cwS 3 hts (goodIn_app (goodIn_r _ [4, 5, 6] (by decide +kernel) (by decide +kernel)) (goodIn_ca (goodIn_r _ [3] (by decide +kernel) (by decide +kernel)) (bs_in _ _))) rfl rfl rfl (by decide +kernel) ⟨(Nat.le_of_ble_eq_true rfl), (Nat.le_of_ble_eq_true rfl)⟩) ⟨fun a U g mk q => by obtain ⟨q0, q1, qP, qK, qD⟩ := q; exact ⟨q0, q1, qP, va_K.moved (u := U) (U := U.calling g mk a) (Vm.Alike.refl U.vm) qK, qD⟩, fun U hU hW => ⟨rfl, by rw [hU], by rw [hU]; exact hPc, va_K.moved hW.alike hKc, hDc.weaken (fun _ _ _ _ => trivial)⟩⟩ rfl rfl hl.1 rfl (lv_room (Nat.le_of_ble_eq_true rfl)) dX12_job_31 ⟨(Nat.le_of_ble_eq_true rfl), (Nat.le_of_ble_eq_true rfl)⟩) hS (fun q _ h => hFc q h) hFc (fun r12 u t H1 locs ht hvm hw13 hB hz1 hk1 hS => ?_)
      have hP1 : va_P (dC, dI) vwCl [] H1 := nilP
      have hD1 : va_D (va_A [] H.size) [] := nilD
      have hK := hK
      obtain ⟨hP, hD⟩ := va_join (wr := [(h0, .inr (15, mF q 0)), (q 70, .inl ((cm 70), 7, .inl (fun _ => 0))), (q 71, .inl ((cm 71), 7, .inl (fun _ => 0))), (q 72, .inl ((cm 72), 7, .inl (fun _ => 0))), (q 73, .inl ((cm 73), 7, .inl (fun _ => 0)))]) (w1 := []) hP hD [] [0, 1, 2, 3, 4] rfl rfl (by decide) (by decide) hk1 hFc hP1 hD1
      generalize H1 = H at hP hS ⊢
      have hP : va_P (dC, dI) vwCl [(h0, .inr (15, mF q 0)), (q 70, .inl ((cm 70), 7, .inl (fun _ => 0))), (q 71, .inl ((cm 71), 7, .inl (fun _ => 0))), (q 72, .inl ((cm 72), 7, .inl (fun _ => 0))), (q 73, .inl ((cm 73), 7, .inl (fun _ => 0)))] H := hP
      have hD : va_D A [(h0, .inr (15, mF q 0)), (q 70, .inl ((cm 70), 7, .inl (fun _ => 0))), (q 71, .inl ((cm 71), 7, .inl (fun _ => 0))), (q 72, .inl ((cm 72), 7, .inl (fun _ => 0))), (q 73, .inl ((cm 73), 7, .inl (fun _ => 0)))] := hD
      try dsimp only at hw13
      by_cases hc14 : (0 : Int32) ≤ p2 ∧ p2 ≤ (100000 : Int32)
      · rw [if_pos hc14] at hw13
        subst hw13
        refine lv_if_eq (tgt := 49) hx hb dX12_job_34 (by decide) (fun c15 => absurd c15 (by decide)) (fun c15 => ?_)
        refine lv_iload hx hb dX12_job_37 (lv_at hl 4 rfl) ?_
        refine lv_iconst (v := 0) hx hb dX12_job_39 (by decide) ?_
        refine lv_sipush (v := 1000) hx hb dX12_job_40 (by decide) ?_
        have hPc := hP.sub (ws' := []) [] rfl
        have hDc := hD.sub (ws' := []) [] (by decide) rfl
        have hKc := hK.sub (tys' := []) [] rfl
        have hFc := va_free (wc := []) hD hS hA [] rfl
        refine va_calli (va_runS (As := [.int p3, .int 0, .int 1000]) (rest := [.ref h0]) ⟨hx, hb, hml, hown, hts⟩ (c_min_ l dC dI p3 0 1000 H.size ) (va_cwS 3 hts (goodIn_app (goodIn_r _ [4, 5, 6] (by decide +kernel) (by decide +kernel)) (goodIn_ca (goodIn_r _ [3] (by decide +kernel) (by decide +kernel)) (bs_in _ _))) rfl rfl rfl (by decide +kernel) ⟨(Nat.le_of_ble_eq_true rfl), (Nat.le_of_ble_eq_true rfl)⟩) ⟨fun a U g mk q => by obtain ⟨q0, q1, qP, qK, qD⟩ := q; exact ⟨q0, q1, qP, va_K.moved (u := U) (U := U.calling g mk a) (Vm.Alike.refl U.vm) qK, qD⟩, fun U hU hW => ⟨rfl, by rw [hU], by rw [hU]; exact hPc, va_K.moved hW.alike hKc, hDc.weaken (fun _ _ _ _ => trivial)⟩⟩ rfl rfl hl.1 rfl (lv_room (Nat.le_of_ble_eq_true rfl)) dX12_job_43 ⟨(Nat.le_of_ble_eq_true rfl), (Nat.le_of_ble_eq_true rfl)⟩) hS (fun q _ h => hFc q h) hFc (fun r17 u t H1 locs ht hvm hw18 hB hz1 hk1 hS => ?_)
        have hP1 : va_P (dC, dI) vwCl [] H1 := nilP
        have hD1 : va_D (va_A [] H.size) [] := nilD
        have hK := hK
        obtain ⟨hP, hD⟩ := va_join (wr := [(h0, .inr (15, mF q 0)), (q 70, .inl ((cm 70), 7, .inl (fun _ => 0))), (q 71, .inl ((cm 71), 7, .inl (fun _ => 0))), (q 72, .inl ((cm 72), 7, .inl (fun _ => 0))), (q 73, .inl ((cm 73), 7, .inl (fun _ => 0)))]) (w1 := []) hP hD [] [0, 1, 2, 3, 4] rfl rfl (by decide) (by decide) hk1 hFc hP1 hD1
        generalize H1 = H at hP hS ⊢
        have hP : va_P (dC, dI) vwCl [(h0, .inr (15, mF q 0)), (q 70, .inl ((cm 70), 7, .inl (fun _ => 0))), (q 71, .inl ((cm 71), 7, .inl (fun _ => 0))), (q 72, .inl ((cm 72), 7, .inl (fun _ => 0))), (q 73, .inl ((cm 73), 7, .inl (fun _ => 0)))] H := hP
        have hD : va_D A [(h0, .inr (15, mF q 0)), (q 70, .inl ((cm 70), 7, .inl (fun _ => 0))), (q 71, .inl ((cm 71), 7, .inl (fun _ => 0))), (q 72, .inl ((cm 72), 7, .inl (fun _ => 0))), (q 73, .inl ((cm 73), 7, .inl (fun _ => 0)))] := hD
        try dsimp only at hw18
        by_cases hc19 : (0 : Int32) ≤ p3 ∧ p3 ≤ (1000 : Int32)
        · rw [if_pos hc19] at hw18
          subst hw18
          refine lv_if_ne (tgt := 53) hx hb dX12_job_46 (by decide) (fun c20 => ?_) (fun c20 => absurd c20 (by decide))
          refine lv_iconst (v := 0) hx hb dX12_job_53 (by decide) ?_
          refine lv_iconst (v := 1) hx hb dX12_job_54 (by decide) ?_
          have hPc := hP.sub (ws' := [(h0, .inr (15, mF q 0))]) [0] rfl
          have hDc := hD.sub (ws' := [(h0, .inr (15, mF q 0))]) [0] (by decide) rfl
          have hKc := hK.sub (tys' := []) [] rfl
          have hFc := va_free (wc := [(h0, .inr (15, mF q 0))]) hD hS hA [0] rfl
          refine va_calli (va_runV (As := [.int 0, .int 1]) (rest := []) ⟨hx, hb, hml, hown, hts⟩ (c_m_throwsIf0 l dC dI h0 (mF q 0) 1 H.size ) (cwV 2 hts (goodIn_app (goodIn_r _ [9, 10, 11, 6] (by decide +kernel) (by decide +kernel)) (goodIn_ca (goodIn_r _ [8] (by decide +kernel) (by decide +kernel)) (bs_in _ _))) rfl rfl rfl (by decide +kernel) ⟨(Nat.le_of_ble_eq_true rfl), (Nat.le_of_ble_eq_true rfl)⟩) ⟨fun a U g mk q => by obtain ⟨q0, q1, qP, qK, qD⟩ := q; exact ⟨q0, q1, qP, va_K.moved (u := U) (U := U.calling g mk a) (Vm.Alike.refl U.vm) qK, qD⟩, va_recv hKc hPc (ci := 15) (q0 := 0) rfl rfl, fun U hU hW => ⟨rfl, by rw [hU], by rw [hU]; exact hPc, va_K.moved hW.alike hKc, hDc.weaken (fun _ _ _ _ => trivial)⟩⟩ rfl rfl hl.1 rfl (lv_room (Nat.le_of_ble_eq_true rfl)) dX12_job_55 ⟨(Nat.le_of_ble_eq_true rfl), (Nat.le_of_ble_eq_true rfl)⟩) hS (fun q _ h => hFc q h) hFc (fun r22 u t H1 locs ht hvm hw23 hB hz1 hk1 hS => ?_)
          obtain ⟨hP1, hD1⟩ := hB
          rw [ht] at hP1
          obtain ⟨hP, hD⟩ := va_join (wr := [(q 70, .inl ((cm 70), 7, .inl (fun _ => 0))), (q 71, .inl ((cm 71), 7, .inl (fun _ => 0))), (q 72, .inl ((cm 72), 7, .inl (fun _ => 0))), (q 73, .inl ((cm 73), 7, .inl (fun _ => 0)))]) (w1 := [(h0, .inr (15, mF q 0))]) hP hD [0] [1, 2, 3, 4] rfl rfl (by decide) (by decide) hk1 hFc hP1 hD1
          generalize H1 = H at hP hS ⊢
          have hP : va_P (dC, dI) vwCl [(q 70, .inl ((cm 70), 7, .inl (fun _ => 0))), (q 71, .inl ((cm 71), 7, .inl (fun _ => 0))), (q 72, .inl ((cm 72), 7, .inl (fun _ => 0))), (q 73, .inl ((cm 73), 7, .inl (fun _ => 0))), (h0, .inr (15, mF q 0))] H := hP
          have hD : va_D A [(q 70, .inl ((cm 70), 7, .inl (fun _ => 0))), (q 71, .inl ((cm 71), 7, .inl (fun _ => 0))), (q 72, .inl ((cm 72), 7, .inl (fun _ => 0))), (q 73, .inl ((cm 73), 7, .inl (fun _ => 0))), (h0, .inr (15, mF q 0))] := hD
          try dsimp only at hw23
          obtain rfl : 0 = r22 := (hw23).symm
          refine lv_if_eq (tgt := 63) hx hb dX12_job_58 (by decide) (fun c24 => ?_) (fun c24 => absurd c24 (by decide))
          refine lv_aload_n hx hb dX12_job_63 rfl (lv_at hl 0 rfl) ?_
          refine va_get (D := (dC, dI)) (ci := 15) (v := .int 0) (C := RX12) (T := TX12) (N := 78) hx hb hts bF_X12 hown hK hP 4 rfl rfl 74 (by decide) (ht_at hts 11 rfl) (fun _ h9 => h9) rfl dX12_job_64 ?_
          refine lv_bipush (v := 7) hx hb dX12_job_67 (by decide) ?_
          refine lv_icmp_ne (tgt := 74) hx hb dX12_job_69 (by decide) (fun c25 => ?_) (fun c25 => absurd c25 (by decide))
          refine lv_aload_n hx hb dX12_job_74 rfl (lv_at hl 0 rfl) ?_
          refine va_get (D := (dC, dI)) (ci := 15) (v := .ref (q 70)) (C := RX12) (T := TX12) (N := 78) hx hb hts bF_X12 hown hK hP 4 rfl rfl 70 (by decide) (ht_at hts 12 rfl) (fun _ h9 => h9) rfl dX12_job_75 ?_
          refine lv_aload_n hx hb dX12_job_78 rfl (lv_at hl 0 rfl) ?_
          refine va_get (D := (dC, dI)) (ci := 15) (v := .int 0) (C := RX12) (T := TX12) (N := 78) hx hb hts bF_X12 hown hK hP 4 rfl rfl 74 (by decide) (ht_at hts 11 rfl) (fun _ h9 => h9) rfl dX12_job_79 ?_
          refine lv_iload_n hx hb dX12_job_82 rfl (lv_at hl 1 rfl) ?_
          refine va_iast hx hb hK hP hD hS 0 0 rfl rfl (by unfold vp_in; decide) dX12_job_83 (fun H locs hP hD hS => ?_)
          have hP : va_P (dC, dI) vwCl [(q 70, .inl ((cm 70), 7, .inl (upd (fun _ => 0) (0 : Int32).toNatClampNeg p0))), (q 71, .inl ((cm 71), 7, .inl (fun _ => 0))), (q 72, .inl ((cm 72), 7, .inl (fun _ => 0))), (q 73, .inl ((cm 73), 7, .inl (fun _ => 0))), (h0, .inr (15, mF q 0))] H := hP
          have hD : va_D A [(q 70, .inl ((cm 70), 7, .inl (upd (fun _ => 0) (0 : Int32).toNatClampNeg p0))), (q 71, .inl ((cm 71), 7, .inl (fun _ => 0))), (q 72, .inl ((cm 72), 7, .inl (fun _ => 0))), (q 73, .inl ((cm 73), 7, .inl (fun _ => 0))), (h0, .inr (15, mF q 0))] := hD
          refine lv_aload_n hx hb dX12_job_84 rfl (lv_at hl 0 rfl) ?_
          refine va_get (D := (dC, dI)) (ci := 15) (v := .ref (q 71)) (C := RX12) (T := TX12) (N := 78) hx hb hts bF_X12 hown hK hP 4 rfl rfl 71 (by decide) (ht_at hts 13 rfl) (fun _ h9 => h9) rfl dX12_job_85 ?_
          refine lv_aload_n hx hb dX12_job_88 rfl (lv_at hl 0 rfl) ?_
          refine va_get (D := (dC, dI)) (ci := 15) (v := .int 0) (C := RX12) (T := TX12) (N := 78) hx hb hts bF_X12 hown hK hP 4 rfl rfl 74 (by decide) (ht_at hts 11 rfl) (fun _ h9 => h9) rfl dX12_job_89 ?_
          refine lv_iload_n hx hb dX12_job_92 rfl (lv_at hl 2 rfl) ?_
          refine va_iast hx hb hK hP hD hS 1 1 rfl rfl (by unfold vp_in; decide) dX12_job_93 (fun H locs hP hD hS => ?_)
          have hP : va_P (dC, dI) vwCl [(q 70, .inl ((cm 70), 7, .inl (upd (fun _ => 0) (0 : Int32).toNatClampNeg p0))), (q 71, .inl ((cm 71), 7, .inl (upd (fun _ => 0) (0 : Int32).toNatClampNeg p1))), (q 72, .inl ((cm 72), 7, .inl (fun _ => 0))), (q 73, .inl ((cm 73), 7, .inl (fun _ => 0))), (h0, .inr (15, mF q 0))] H := hP
          have hD : va_D A [(q 70, .inl ((cm 70), 7, .inl (upd (fun _ => 0) (0 : Int32).toNatClampNeg p0))), (q 71, .inl ((cm 71), 7, .inl (upd (fun _ => 0) (0 : Int32).toNatClampNeg p1))), (q 72, .inl ((cm 72), 7, .inl (fun _ => 0))), (q 73, .inl ((cm 73), 7, .inl (fun _ => 0))), (h0, .inr (15, mF q 0))] := hD
          refine lv_aload_n hx hb dX12_job_94 rfl (lv_at hl 0 rfl) ?_
          refine va_get (D := (dC, dI)) (ci := 15) (v := .ref (q 72)) (C := RX12) (T := TX12) (N := 78) hx hb hts bF_X12 hown hK hP 4 rfl rfl 72 (by decide) (ht_at hts 14 rfl) (fun _ h9 => h9) rfl dX12_job_95 ?_
          refine lv_aload_n hx hb dX12_job_98 rfl (lv_at hl 0 rfl) ?_
          refine va_get (D := (dC, dI)) (ci := 15) (v := .int 0) (C := RX12) (T := TX12) (N := 78) hx hb hts bF_X12 hown hK hP 4 rfl rfl 74 (by decide) (ht_at hts 11 rfl) (fun _ h9 => h9) rfl dX12_job_99 ?_
          refine lv_iload_n hx hb dX12_job_102 rfl (lv_at hl 3 rfl) ?_
          refine va_iast hx hb hK hP hD hS 2 2 rfl rfl (by unfold vp_in; decide) dX12_job_103 (fun H locs hP hD hS => ?_)
          have hP : va_P (dC, dI) vwCl [(q 70, .inl ((cm 70), 7, .inl (upd (fun _ => 0) (0 : Int32).toNatClampNeg p0))), (q 71, .inl ((cm 71), 7, .inl (upd (fun _ => 0) (0 : Int32).toNatClampNeg p1))), (q 72, .inl ((cm 72), 7, .inl (upd (fun _ => 0) (0 : Int32).toNatClampNeg p2))), (q 73, .inl ((cm 73), 7, .inl (fun _ => 0))), (h0, .inr (15, mF q 0))] H := hP
          have hD : va_D A [(q 70, .inl ((cm 70), 7, .inl (upd (fun _ => 0) (0 : Int32).toNatClampNeg p0))), (q 71, .inl ((cm 71), 7, .inl (upd (fun _ => 0) (0 : Int32).toNatClampNeg p1))), (q 72, .inl ((cm 72), 7, .inl (upd (fun _ => 0) (0 : Int32).toNatClampNeg p2))), (q 73, .inl ((cm 73), 7, .inl (fun _ => 0))), (h0, .inr (15, mF q 0))] := hD
          refine lv_aload_n hx hb dX12_job_104 rfl (lv_at hl 0 rfl) ?_
          refine va_get (D := (dC, dI)) (ci := 15) (v := .ref (q 73)) (C := RX12) (T := TX12) (N := 78) hx hb hts bF_X12 hown hK hP 4 rfl rfl 73 (by decide) (ht_at hts 15 rfl) (fun _ h9 => h9) rfl dX12_job_105 ?_
          refine lv_aload_n hx hb dX12_job_108 rfl (lv_at hl 0 rfl) ?_
          refine va_get (D := (dC, dI)) (ci := 15) (v := .int 0) (C := RX12) (T := TX12) (N := 78) hx hb hts bF_X12 hown hK hP 4 rfl rfl 74 (by decide) (ht_at hts 11 rfl) (fun _ h9 => h9) rfl dX12_job_109 ?_
          refine lv_iload hx hb dX12_job_112 (lv_at hl 4 rfl) ?_
          refine va_iast hx hb hK hP hD hS 3 3 rfl rfl (by unfold vp_in; decide) dX12_job_114 (fun H locs hP hD hS => ?_)
          have hP : va_P (dC, dI) vwCl [(q 70, .inl ((cm 70), 7, .inl (upd (fun _ => 0) (0 : Int32).toNatClampNeg p0))), (q 71, .inl ((cm 71), 7, .inl (upd (fun _ => 0) (0 : Int32).toNatClampNeg p1))), (q 72, .inl ((cm 72), 7, .inl (upd (fun _ => 0) (0 : Int32).toNatClampNeg p2))), (q 73, .inl ((cm 73), 7, .inl (upd (fun _ => 0) (0 : Int32).toNatClampNeg p3))), (h0, .inr (15, mF q 0))] H := hP
          have hD : va_D A [(q 70, .inl ((cm 70), 7, .inl (upd (fun _ => 0) (0 : Int32).toNatClampNeg p0))), (q 71, .inl ((cm 71), 7, .inl (upd (fun _ => 0) (0 : Int32).toNatClampNeg p1))), (q 72, .inl ((cm 72), 7, .inl (upd (fun _ => 0) (0 : Int32).toNatClampNeg p2))), (q 73, .inl ((cm 73), 7, .inl (upd (fun _ => 0) (0 : Int32).toNatClampNeg p3))), (h0, .inr (15, mF q 0))] := hD
          refine lv_aload_n hx hb dX12_job_115 rfl (lv_at hl 0 rfl) ?_
          refine lv_dup hx hb dX12_job_116 rfl ?_
          refine va_get (D := (dC, dI)) (ci := 15) (v := .int 0) (C := RX12) (T := TX12) (N := 78) hx hb hts bF_X12 hown hK hP 4 rfl rfl 74 (by decide) (ht_at hts 11 rfl) (fun _ h9 => h9) rfl dX12_job_117 ?_
          refine lv_iconst (v := 1) hx hb dX12_job_120 (by decide) ?_
          refine lv_iadd hx hb dX12_job_121 ?_
          refine lv_topi (fun x26 ex26 => ?_)
          obtain rfl : x26 = 1 := ex26.trans (by decide)
          refine va_put (D := (dC, dI)) (ci := 15) (v := .int 1) (ty := .int) (C := RX12) (T := TX12) (N := 78) hx hb hts bF_X12 tyX12 tyX12_ok nmX12 hown hK hP hD hS 4 rfl rfl 74 (by decide) (ht_at hts 11 rfl) (fun _ h9 => h9) rfl (by decide +kernel) rfl rfl (Nat.le_of_ble_eq_true rfl) dX12_job_122 (fun H locs hP hD hS => ?_)
          have hP : va_P (dC, dI) vwCl [(q 70, .inl ((cm 70), 7, .inl (upd (fun _ => 0) (0 : Int32).toNatClampNeg p0))), (q 71, .inl ((cm 71), 7, .inl (upd (fun _ => 0) (0 : Int32).toNatClampNeg p1))), (q 72, .inl ((cm 72), 7, .inl (upd (fun _ => 0) (0 : Int32).toNatClampNeg p2))), (q 73, .inl ((cm 73), 7, .inl (upd (fun _ => 0) (0 : Int32).toNatClampNeg p3))), (h0, .inr (15, [.int 0, .ref (q 1), .ref (q 2), .int 0, .ref (q 4), .ref (q 5), .ref (q 6), .ref (q 7), .ref (q 8), .int 0, .ref (q 10), .int 0, .int 0, .int 0, .int 0, .int 0, .int (-1), .ref (q 17), .ref (q 18), .ref (q 19), .ref (q 20), .ref (q 21), .ref (q 22), .ref (q 23), .ref (q 24), .ref (q 25), .ref (q 26), .ref (q 27), .int 0, .ref (q 29), .ref (q 30), .ref (q 31), .ref (q 32), .ref (q 33), .ref (q 34), .ref (q 35), .ref (q 36), .ref (q 37), .ref (q 38), .ref (q 39), .ref (q 40), .ref (q 41), .int 0, .ref (q 43), .ref (q 44), .ref (q 45), .ref (q 46), .int 0, .int 0, .int (-1), .ref (q 50), .ref (q 51), .int 0, .long 0, .long 0, .ref (q 55), .ref (q 56), .ref (q 57), .ref (q 58), .ref (q 59), .ref (q 60), .ref (q 61), .ref (q 62), .ref (q 63), .int 0, .ref (q 65), .ref (q 66), .ref (q 67), .ref (q 68), .ref (q 69), .ref (q 70), .ref (q 71), .ref (q 72), .ref (q 73), .int 1, .ref (q 75), .ref (q 76), .int 0]))] H := hP
          have hD : va_D A [(q 70, .inl ((cm 70), 7, .inl (upd (fun _ => 0) (0 : Int32).toNatClampNeg p0))), (q 71, .inl ((cm 71), 7, .inl (upd (fun _ => 0) (0 : Int32).toNatClampNeg p1))), (q 72, .inl ((cm 72), 7, .inl (upd (fun _ => 0) (0 : Int32).toNatClampNeg p2))), (q 73, .inl ((cm 73), 7, .inl (upd (fun _ => 0) (0 : Int32).toNatClampNeg p3))), (h0, .inr (15, [.int 0, .ref (q 1), .ref (q 2), .int 0, .ref (q 4), .ref (q 5), .ref (q 6), .ref (q 7), .ref (q 8), .int 0, .ref (q 10), .int 0, .int 0, .int 0, .int 0, .int 0, .int (-1), .ref (q 17), .ref (q 18), .ref (q 19), .ref (q 20), .ref (q 21), .ref (q 22), .ref (q 23), .ref (q 24), .ref (q 25), .ref (q 26), .ref (q 27), .int 0, .ref (q 29), .ref (q 30), .ref (q 31), .ref (q 32), .ref (q 33), .ref (q 34), .ref (q 35), .ref (q 36), .ref (q 37), .ref (q 38), .ref (q 39), .ref (q 40), .ref (q 41), .int 0, .ref (q 43), .ref (q 44), .ref (q 45), .ref (q 46), .int 0, .int 0, .int (-1), .ref (q 50), .ref (q 51), .int 0, .long 0, .long 0, .ref (q 55), .ref (q 56), .ref (q 57), .ref (q 58), .ref (q 59), .ref (q 60), .ref (q 61), .ref (q 62), .ref (q 63), .int 0, .ref (q 65), .ref (q 66), .ref (q 67), .ref (q 68), .ref (q 69), .ref (q 70), .ref (q 71), .ref (q 72), .ref (q 73), .int 1, .ref (q 75), .ref (q 76), .int 0]))] := hD
          refine lv_aload_n hx hb dX12_job_125 rfl (lv_at hl 0 rfl) ?_
          refine va_get (D := (dC, dI)) (ci := 15) (v := .int 1) (C := RX12) (T := TX12) (N := 78) hx hb hts bF_X12 hown hK hP 4 rfl rfl 74 (by decide) (ht_at hts 11 rfl) (fun _ h9 => h9) rfl dX12_job_126 ?_
          exact W.iret (v := 1) hx hb hr (fun t ht hW => ⟨⟨1, ([.int 0, .ref (q 1), .ref (q 2), .int 0, .ref (q 4), .ref (q 5), .ref (q 6), .ref (q 7), .ref (q 8), .int 0, .ref (q 10), .int 0, .int 0, .int 0, .int 0, .int 0, .int (-1), .ref (q 17), .ref (q 18), .ref (q 19), .ref (q 20), .ref (q 21), .ref (q 22), .ref (q 23), .ref (q 24), .ref (q 25), .ref (q 26), .ref (q 27), .int 0, .ref (q 29), .ref (q 30), .ref (q 31), .ref (q 32), .ref (q 33), .ref (q 34), .ref (q 35), .ref (q 36), .ref (q 37), .ref (q 38), .ref (q 39), .ref (q 40), .ref (q 41), .int 0, .ref (q 43), .ref (q 44), .ref (q 45), .ref (q 46), .int 0, .int 0, .int (-1), .ref (q 50), .ref (q 51), .int 0, .long 0, .long 0, .ref (q 55), .ref (q 56), .ref (q 57), .ref (q 58), .ref (q 59), .ref (q 60), .ref (q 61), .ref (q 62), .ref (q 63), .int 0, .ref (q 65), .ref (q 66), .ref (q 67), .ref (q 68), .ref (q 69), .ref (q 70), .ref (q 71), .ref (q 72), .ref (q 73), .int 1, .ref (q 75), .ref (q 76), .int 0]), rfl, (by unfold T_job; rw [if_pos hc4, if_pos hc9, if_pos hc14, if_pos hc19]; (first | exact ⟨rfl, fun _ => rfl⟩ | exact ⟨rfl, fun h => absurd h (by decide)⟩)), by rw [ht]; exact hP.sub (ws' := [(h0, .inr (15, [.int 0, .ref (q 1), .ref (q 2), .int 0, .ref (q 4), .ref (q 5), .ref (q 6), .ref (q 7), .ref (q 8), .int 0, .ref (q 10), .int 0, .int 0, .int 0, .int 0, .int 0, .int (-1), .ref (q 17), .ref (q 18), .ref (q 19), .ref (q 20), .ref (q 21), .ref (q 22), .ref (q 23), .ref (q 24), .ref (q 25), .ref (q 26), .ref (q 27), .int 0, .ref (q 29), .ref (q 30), .ref (q 31), .ref (q 32), .ref (q 33), .ref (q 34), .ref (q 35), .ref (q 36), .ref (q 37), .ref (q 38), .ref (q 39), .ref (q 40), .ref (q 41), .int 0, .ref (q 43), .ref (q 44), .ref (q 45), .ref (q 46), .int 0, .int 0, .int (-1), .ref (q 50), .ref (q 51), .int 0, .long 0, .long 0, .ref (q 55), .ref (q 56), .ref (q 57), .ref (q 58), .ref (q 59), .ref (q 60), .ref (q 61), .ref (q 62), .ref (q 63), .int 0, .ref (q 65), .ref (q 66), .ref (q 67), .ref (q 68), .ref (q 69), .ref (q 70), .ref (q 71), .ref (q 72), .ref (q 73), .int 1, .ref (q 75), .ref (q 76), .int 0]))]) [4] rfl, hD.sub (ws' := [(h0, .inr (15, [.int 0, .ref (q 1), .ref (q 2), .int 0, .ref (q 4), .ref (q 5), .ref (q 6), .ref (q 7), .ref (q 8), .int 0, .ref (q 10), .int 0, .int 0, .int 0, .int 0, .int 0, .int (-1), .ref (q 17), .ref (q 18), .ref (q 19), .ref (q 20), .ref (q 21), .ref (q 22), .ref (q 23), .ref (q 24), .ref (q 25), .ref (q 26), .ref (q 27), .int 0, .ref (q 29), .ref (q 30), .ref (q 31), .ref (q 32), .ref (q 33), .ref (q 34), .ref (q 35), .ref (q 36), .ref (q 37), .ref (q 38), .ref (q 39), .ref (q 40), .ref (q 41), .int 0, .ref (q 43), .ref (q 44), .ref (q 45), .ref (q 46), .int 0, .int 0, .int (-1), .ref (q 50), .ref (q 51), .int 0, .long 0, .long 0, .ref (q 55), .ref (q 56), .ref (q 57), .ref (q 58), .ref (q 59), .ref (q 60), .ref (q 61), .ref (q 62), .ref (q 63), .int 0, .ref (q 65), .ref (q 66), .ref (q 67), .ref (q 68), .ref (q 69), .ref (q 70), .ref (q 71), .ref (q 72), .ref (q 73), .int 1, .ref (q 75), .ref (q 76), .int 0]))]) [4] (by decide) rfl⟩, hS.F ht⟩) hS.2.2 dX12_job_129
        · rw [if_neg hc19] at hw18
          subst hw18
          refine lv_if_ne (tgt := 53) hx hb dX12_job_46 (by decide) (fun c27 => absurd c27 (by decide)) (fun c27 => ?_)
          refine lv_iconst (v := 1) hx hb dX12_job_49 (by decide) ?_
          refine lv_goto (tgt := 54) hx hb dX12_job_50 (by decide) ?_
          refine lv_iconst (v := 1) hx hb dX12_job_54 (by decide) ?_
          have hPc := hP.sub (ws' := [(h0, .inr (15, mF q 0))]) [0] rfl
          have hDc := hD.sub (ws' := [(h0, .inr (15, mF q 0))]) [0] (by decide) rfl
          have hKc := hK.sub (tys' := []) [] rfl
          have hFc := va_free (wc := [(h0, .inr (15, mF q 0))]) hD hS hA [0] rfl
          refine va_calli (va_runV (As := [.int 1, .int 1]) (rest := []) ⟨hx, hb, hml, hown, hts⟩ (c_m_throwsIf1 l dC dI h0 (mF q 0) 1 H.size rfl) (cwV 2 hts (goodIn_app (goodIn_r _ [9, 10, 11, 6] (by decide +kernel) (by decide +kernel)) (goodIn_ca (goodIn_r _ [8, 1] (by decide +kernel) (by decide +kernel)) (bs_in _ _))) rfl rfl rfl (by decide +kernel) ⟨(Nat.le_of_ble_eq_true rfl), (Nat.le_of_ble_eq_true rfl)⟩) ⟨fun a U g mk q => by obtain ⟨q0, q1, qP, qK, qD⟩ := q; exact ⟨q0, q1, qP, va_K.moved (u := U) (U := U.calling g mk a) (Vm.Alike.refl U.vm) qK, qD⟩, va_recv hKc hPc (ci := 15) (q0 := 0) rfl rfl, fun U hU hW => ⟨rfl, by rw [hU], by rw [hU]; exact hPc, va_K.moved hW.alike hKc, hDc.weaken (fun _ _ _ _ => trivial)⟩⟩ rfl rfl hl.1 rfl (lv_room (Nat.le_of_ble_eq_true rfl)) dX12_job_55 ⟨(Nat.le_of_ble_eq_true rfl), (Nat.le_of_ble_eq_true rfl)⟩) hS (fun q _ h => hFc q h) hFc (fun r29 u t H1 locs ht hvm hw30 hB hz1 hk1 hS => ?_)
          obtain ⟨hP1, hD1⟩ := hB
          rw [ht] at hP1
          obtain ⟨hP, hD⟩ := va_join (wr := [(q 70, .inl ((cm 70), 7, .inl (fun _ => 0))), (q 71, .inl ((cm 71), 7, .inl (fun _ => 0))), (q 72, .inl ((cm 72), 7, .inl (fun _ => 0))), (q 73, .inl ((cm 73), 7, .inl (fun _ => 0)))]) (w1 := [(h0, .inr (15, mF q 1))]) hP hD [0] [1, 2, 3, 4] rfl rfl (by decide) (by decide) hk1 hFc hP1 hD1
          generalize H1 = H at hP hS ⊢
          have hP : va_P (dC, dI) vwCl [(q 70, .inl ((cm 70), 7, .inl (fun _ => 0))), (q 71, .inl ((cm 71), 7, .inl (fun _ => 0))), (q 72, .inl ((cm 72), 7, .inl (fun _ => 0))), (q 73, .inl ((cm 73), 7, .inl (fun _ => 0))), (h0, .inr (15, mF q 1))] H := hP
          have hD : va_D A [(q 70, .inl ((cm 70), 7, .inl (fun _ => 0))), (q 71, .inl ((cm 71), 7, .inl (fun _ => 0))), (q 72, .inl ((cm 72), 7, .inl (fun _ => 0))), (q 73, .inl ((cm 73), 7, .inl (fun _ => 0))), (h0, .inr (15, mF q 1))] := hD
          try dsimp only at hw30
          obtain rfl : 1 = r29 := (hw30).symm
          refine lv_if_eq (tgt := 63) hx hb dX12_job_58 (by decide) (fun c31 => absurd c31 (by decide)) (fun c31 => ?_)
          refine lv_iconst (v := 0) hx hb dX12_job_61 (by decide) ?_
          exact W.iret (v := 0) hx hb hr (fun t ht hW => ⟨⟨0, (mF q 1), rfl, (by unfold T_job; rw [if_pos hc4, if_pos hc9, if_pos hc14, if_neg hc19]; (first | exact ⟨rfl, fun _ => rfl⟩ | exact ⟨rfl, fun h => absurd h (by decide)⟩)), by rw [ht]; exact hP.sub (ws' := [(h0, .inr (15, mF q 1))]) [4] rfl, hD.sub (ws' := [(h0, .inr (15, mF q 1))]) [4] (by decide) rfl⟩, hS.F ht⟩) hS.2.2 dX12_job_62
      · rw [if_neg hc14] at hw13
        subst hw13
        refine lv_if_eq (tgt := 49) hx hb dX12_job_34 (by decide) (fun c32 => ?_) (fun c32 => absurd c32 (by decide))
        refine lv_iconst (v := 1) hx hb dX12_job_49 (by decide) ?_
        refine lv_goto (tgt := 54) hx hb dX12_job_50 (by decide) ?_
        refine lv_iconst (v := 1) hx hb dX12_job_54 (by decide) ?_
        have hPc := hP.sub (ws' := [(h0, .inr (15, mF q 0))]) [0] rfl
        have hDc := hD.sub (ws' := [(h0, .inr (15, mF q 0))]) [0] (by decide) rfl
        have hKc := hK.sub (tys' := []) [] rfl
        have hFc := va_free (wc := [(h0, .inr (15, mF q 0))]) hD hS hA [0] rfl
        refine va_calli (va_runV (As := [.int 1, .int 1]) (rest := []) ⟨hx, hb, hml, hown, hts⟩ (c_m_throwsIf1 l dC dI h0 (mF q 0) 1 H.size rfl) (cwV 2 hts (goodIn_app (goodIn_r _ [9, 10, 11, 6] (by decide +kernel) (by decide +kernel)) (goodIn_ca (goodIn_r _ [8, 1] (by decide +kernel) (by decide +kernel)) (bs_in _ _))) rfl rfl rfl (by decide +kernel) ⟨(Nat.le_of_ble_eq_true rfl), (Nat.le_of_ble_eq_true rfl)⟩) ⟨fun a U g mk q => by obtain ⟨q0, q1, qP, qK, qD⟩ := q; exact ⟨q0, q1, qP, va_K.moved (u := U) (U := U.calling g mk a) (Vm.Alike.refl U.vm) qK, qD⟩, va_recv hKc hPc (ci := 15) (q0 := 0) rfl rfl, fun U hU hW => ⟨rfl, by rw [hU], by rw [hU]; exact hPc, va_K.moved hW.alike hKc, hDc.weaken (fun _ _ _ _ => trivial)⟩⟩ rfl rfl hl.1 rfl (lv_room (Nat.le_of_ble_eq_true rfl)) dX12_job_55 ⟨(Nat.le_of_ble_eq_true rfl), (Nat.le_of_ble_eq_true rfl)⟩) hS (fun q _ h => hFc q h) hFc (fun r34 u t H1 locs ht hvm hw35 hB hz1 hk1 hS => ?_)
        obtain ⟨hP1, hD1⟩ := hB
        rw [ht] at hP1
        obtain ⟨hP, hD⟩ := va_join (wr := [(q 70, .inl ((cm 70), 7, .inl (fun _ => 0))), (q 71, .inl ((cm 71), 7, .inl (fun _ => 0))), (q 72, .inl ((cm 72), 7, .inl (fun _ => 0))), (q 73, .inl ((cm 73), 7, .inl (fun _ => 0)))]) (w1 := [(h0, .inr (15, mF q 1))]) hP hD [0] [1, 2, 3, 4] rfl rfl (by decide) (by decide) hk1 hFc hP1 hD1
        generalize H1 = H at hP hS ⊢
        have hP : va_P (dC, dI) vwCl [(q 70, .inl ((cm 70), 7, .inl (fun _ => 0))), (q 71, .inl ((cm 71), 7, .inl (fun _ => 0))), (q 72, .inl ((cm 72), 7, .inl (fun _ => 0))), (q 73, .inl ((cm 73), 7, .inl (fun _ => 0))), (h0, .inr (15, mF q 1))] H := hP
        have hD : va_D A [(q 70, .inl ((cm 70), 7, .inl (fun _ => 0))), (q 71, .inl ((cm 71), 7, .inl (fun _ => 0))), (q 72, .inl ((cm 72), 7, .inl (fun _ => 0))), (q 73, .inl ((cm 73), 7, .inl (fun _ => 0))), (h0, .inr (15, mF q 1))] := hD
        try dsimp only at hw35
        obtain rfl : 1 = r34 := (hw35).symm
        refine lv_if_eq (tgt := 63) hx hb dX12_job_58 (by decide) (fun c36 => absurd c36 (by decide)) (fun c36 => ?_)
        refine lv_iconst (v := 0) hx hb dX12_job_61 (by decide) ?_
        exact W.iret (v := 0) hx hb hr (fun t ht hW => ⟨⟨0, (mF q 1), rfl, (by unfold T_job; rw [if_pos hc4, if_pos hc9, if_neg hc14]; (first | exact ⟨rfl, fun _ => rfl⟩ | exact ⟨rfl, fun h => absurd h (by decide)⟩)), by rw [ht]; exact hP.sub (ws' := [(h0, .inr (15, mF q 1))]) [4] rfl, hD.sub (ws' := [(h0, .inr (15, mF q 1))]) [4] (by decide) rfl⟩, hS.F ht⟩) hS.2.2 dX12_job_62
    · rw [if_neg hc9] at hw8
      subst hw8
      refine lv_if_eq (tgt := 49) hx hb dX12_job_24 (by decide) (fun c37 => ?_) (fun c37 => absurd c37 (by decide))
      refine lv_iconst (v := 1) hx hb dX12_job_49 (by decide) ?_
      refine lv_goto (tgt := 54) hx hb dX12_job_50 (by decide) ?_
      refine lv_iconst (v := 1) hx hb dX12_job_54 (by decide) ?_
      have hPc := hP.sub (ws' := [(h0, .inr (15, mF q 0))]) [0] rfl
      have hDc := hD.sub (ws' := [(h0, .inr (15, mF q 0))]) [0] (by decide) rfl
      have hKc := hK.sub (tys' := []) [] rfl
      have hFc := va_free (wc := [(h0, .inr (15, mF q 0))]) hD hS hA [0] rfl
      refine va_calli (va_runV (As := [.int 1, .int 1]) (rest := []) ⟨hx, hb, hml, hown, hts⟩ (c_m_throwsIf1 l dC dI h0 (mF q 0) 1 H.size rfl) (cwV 2 hts (goodIn_app (goodIn_r _ [9, 10, 11, 6] (by decide +kernel) (by decide +kernel)) (goodIn_ca (goodIn_r _ [8, 1] (by decide +kernel) (by decide +kernel)) (bs_in _ _))) rfl rfl rfl (by decide +kernel) ⟨(Nat.le_of_ble_eq_true rfl), (Nat.le_of_ble_eq_true rfl)⟩) ⟨fun a U g mk q => by obtain ⟨q0, q1, qP, qK, qD⟩ := q; exact ⟨q0, q1, qP, va_K.moved (u := U) (U := U.calling g mk a) (Vm.Alike.refl U.vm) qK, qD⟩, va_recv hKc hPc (ci := 15) (q0 := 0) rfl rfl, fun U hU hW => ⟨rfl, by rw [hU], by rw [hU]; exact hPc, va_K.moved hW.alike hKc, hDc.weaken (fun _ _ _ _ => trivial)⟩⟩ rfl rfl hl.1 rfl (lv_room (Nat.le_of_ble_eq_true rfl)) dX12_job_55 ⟨(Nat.le_of_ble_eq_true rfl), (Nat.le_of_ble_eq_true rfl)⟩) hS (fun q _ h => hFc q h) hFc (fun r39 u t H1 locs ht hvm hw40 hB hz1 hk1 hS => ?_)
      obtain ⟨hP1, hD1⟩ := hB
      rw [ht] at hP1
      obtain ⟨hP, hD⟩ := va_join (wr := [(q 70, .inl ((cm 70), 7, .inl (fun _ => 0))), (q 71, .inl ((cm 71), 7, .inl (fun _ => 0))), (q 72, .inl ((cm 72), 7, .inl (fun _ => 0))), (q 73, .inl ((cm 73), 7, .inl (fun _ => 0)))]) (w1 := [(h0, .inr (15, mF q 1))]) hP hD [0] [1, 2, 3, 4] rfl rfl (by decide) (by decide) hk1 hFc hP1 hD1
      generalize H1 = H at hP hS ⊢
      have hP : va_P (dC, dI) vwCl [(q 70, .inl ((cm 70), 7, .inl (fun _ => 0))), (q 71, .inl ((cm 71), 7, .inl (fun _ => 0))), (q 72, .inl ((cm 72), 7, .inl (fun _ => 0))), (q 73, .inl ((cm 73), 7, .inl (fun _ => 0))), (h0, .inr (15, mF q 1))] H := hP
      have hD : va_D A [(q 70, .inl ((cm 70), 7, .inl (fun _ => 0))), (q 71, .inl ((cm 71), 7, .inl (fun _ => 0))), (q 72, .inl ((cm 72), 7, .inl (fun _ => 0))), (q 73, .inl ((cm 73), 7, .inl (fun _ => 0))), (h0, .inr (15, mF q 1))] := hD
      try dsimp only at hw40
      obtain rfl : 1 = r39 := (hw40).symm
      refine lv_if_eq (tgt := 63) hx hb dX12_job_58 (by decide) (fun c41 => absurd c41 (by decide)) (fun c41 => ?_)
      refine lv_iconst (v := 0) hx hb dX12_job_61 (by decide) ?_
      exact W.iret (v := 0) hx hb hr (fun t ht hW => ⟨⟨0, (mF q 1), rfl, (by unfold T_job; rw [if_pos hc4, if_neg hc9]; (first | exact ⟨rfl, fun _ => rfl⟩ | exact ⟨rfl, fun h => absurd h (by decide)⟩)), by rw [ht]; exact hP.sub (ws' := [(h0, .inr (15, mF q 1))]) [4] rfl, hD.sub (ws' := [(h0, .inr (15, mF q 1))]) [4] (by decide) rfl⟩, hS.F ht⟩) hS.2.2 dX12_job_62
  · rw [if_neg hc4] at hw3
    subst hw3
    refine lv_if_eq (tgt := 49) hx hb dX12_job_14 (by decide) (fun c42 => ?_) (fun c42 => absurd c42 (by decide))
    refine lv_iconst (v := 1) hx hb dX12_job_49 (by decide) ?_
    refine lv_goto (tgt := 54) hx hb dX12_job_50 (by decide) ?_
    refine lv_iconst (v := 1) hx hb dX12_job_54 (by decide) ?_
    have hPc := hP.sub (ws' := [(h0, .inr (15, mF q 0))]) [0] rfl
    have hDc := hD.sub (ws' := [(h0, .inr (15, mF q 0))]) [0] (by decide) rfl
    have hKc := hK.sub (tys' := []) [] rfl
    have hFc := va_free (wc := [(h0, .inr (15, mF q 0))]) hD hS hA [0] rfl
    refine va_calli (va_runV (As := [.int 1, .int 1]) (rest := []) ⟨hx, hb, hml, hown, hts⟩ (c_m_throwsIf1 l dC dI h0 (mF q 0) 1 H.size rfl) (cwV 2 hts (goodIn_app (goodIn_r _ [9, 10, 11, 6] (by decide +kernel) (by decide +kernel)) (goodIn_ca (goodIn_r _ [8, 1] (by decide +kernel) (by decide +kernel)) (bs_in _ _))) rfl rfl rfl (by decide +kernel) ⟨(Nat.le_of_ble_eq_true rfl), (Nat.le_of_ble_eq_true rfl)⟩) ⟨fun a U g mk q => by obtain ⟨q0, q1, qP, qK, qD⟩ := q; exact ⟨q0, q1, qP, va_K.moved (u := U) (U := U.calling g mk a) (Vm.Alike.refl U.vm) qK, qD⟩, va_recv hKc hPc (ci := 15) (q0 := 0) rfl rfl, fun U hU hW => ⟨rfl, by rw [hU], by rw [hU]; exact hPc, va_K.moved hW.alike hKc, hDc.weaken (fun _ _ _ _ => trivial)⟩⟩ rfl rfl hl.1 rfl (lv_room (Nat.le_of_ble_eq_true rfl)) dX12_job_55 ⟨(Nat.le_of_ble_eq_true rfl), (Nat.le_of_ble_eq_true rfl)⟩) hS (fun q _ h => hFc q h) hFc (fun r44 u t H1 locs ht hvm hw45 hB hz1 hk1 hS => ?_)
    obtain ⟨hP1, hD1⟩ := hB
    rw [ht] at hP1
    obtain ⟨hP, hD⟩ := va_join (wr := [(q 70, .inl ((cm 70), 7, .inl (fun _ => 0))), (q 71, .inl ((cm 71), 7, .inl (fun _ => 0))), (q 72, .inl ((cm 72), 7, .inl (fun _ => 0))), (q 73, .inl ((cm 73), 7, .inl (fun _ => 0)))]) (w1 := [(h0, .inr (15, mF q 1))]) hP hD [0] [1, 2, 3, 4] rfl rfl (by decide) (by decide) hk1 hFc hP1 hD1
    generalize H1 = H at hP hS ⊢
    have hP : va_P (dC, dI) vwCl [(q 70, .inl ((cm 70), 7, .inl (fun _ => 0))), (q 71, .inl ((cm 71), 7, .inl (fun _ => 0))), (q 72, .inl ((cm 72), 7, .inl (fun _ => 0))), (q 73, .inl ((cm 73), 7, .inl (fun _ => 0))), (h0, .inr (15, mF q 1))] H := hP
    have hD : va_D A [(q 70, .inl ((cm 70), 7, .inl (fun _ => 0))), (q 71, .inl ((cm 71), 7, .inl (fun _ => 0))), (q 72, .inl ((cm 72), 7, .inl (fun _ => 0))), (q 73, .inl ((cm 73), 7, .inl (fun _ => 0))), (h0, .inr (15, mF q 1))] := hD
    try dsimp only at hw45
    obtain rfl : 1 = r44 := (hw45).symm
    refine lv_if_eq (tgt := 63) hx hb dX12_job_58 (by decide) (fun c46 => absurd c46 (by decide)) (fun c46 => ?_)
    refine lv_iconst (v := 0) hx hb dX12_job_61 (by decide) ?_
    exact W.iret (v := 0) hx hb hr (fun t ht hW => ⟨⟨0, (mF q 1), rfl, (by unfold T_job; rw [if_neg hc4]; (first | exact ⟨rfl, fun _ => rfl⟩ | exact ⟨rfl, fun h => absurd h (by decide)⟩)), by rw [ht]; exact hP.sub (ws' := [(h0, .inr (15, mF q 1))]) [4] rfl, hD.sub (ws' := [(h0, .inr (15, mF q 1))]) [4] (by decide) rfl⟩, hS.F ht⟩) hS.2.2 dX12_job_62
def w_m_end : List Cond := .code yX12_end cX12_end 2 (some .boolean) :: ([.fieldLink RX12 194 "SeaLandModel" "thrown" "I", .fieldLink RX12 332 "SeaLandModel" "taped" "I"] ++ bs)
set_option maxHeartbeats 4000000 in
set_option maxRecDepth 100000 in
theorem m_end (l : Launch) (dC : Nat → ClassId) (dI : Nat → Nat → Nat) (h0 : Nat) (q : Nat → Nat) (cm : Nat → ClassId) (p0 : Int32) (sz : Nat) : Met l yX12_end w_m_end ({ frames := 0, cells := 0, slots := 0, locals := 0 }) (va_Pc [.ref h0, .int p0] (fun U => U.heap.size = sz ∧ va_P (dC, dI) vwCl [(h0, .inr (15, mF q 0))] U.heap ∧ va_K (dC, dI) vwCl [] U ∧ va_D (fun _ => True) [(h0, .inr (15, mF q 0))])) (va_Qi (fun (r : Int32) (u : List Value) => u[0]? = some (.int (T_end p0).1) ∧ ((T_end p0).1 = 0 → r = (T_end p0).2)) (fun (fs : List Value) (t : State) => va_P (dC, dI) vwCl [(h0, .inr (15, fs))] t.heap ∧ va_D (va_A [(h0, .inr (15, mF q 0))] sz) [(h0, .inr (15, fs))]) (va_A [(h0, .inr (15, mF q 0))] sz)) 0 0 (va_A [(h0, .inr (15, mF q 0))] sz) := by
  refine Met.ofW (cc := cX12_end) (maxL := 2) (ret := (some .boolean)) (by decide) rfl ?_
  intro p e s m args below meth c s₁ B hml hv
  obtain ⟨rfl, hsz, hP, hK, hD0⟩ := hv
  have hx := B.exec
  have hb := B.bytes
  have hr := B.returns
  have hts := atoms_spec (ws := w_m_end) B.pre
  have hown : s.vm.findClass RX12 = some m.cls := findClass_of_methodNamed B.named
  have hlocks := B.notSynchronized
  subst hsz
  have hD := hD0.self (sz := s.heap.size)
  generalize hAe : va_A [(h0, .inr (15, mF q 0))] s.heap.size = A at hD ⊢
  have hA : ∀ q : Nat, s.heap.size ≤ q → A q := fun q h => by rw [← hAe]; exact Or.inr h
  have hS : va_S A s.heap s.heap [] := va_S.rf
  have hP : va_P (dC, dI) vwCl [(h0, .inr (15, mF q 0))] s.heap := hP
  have hl := lv_entry ([.ref h0, .int p0]) (n := 2) (Nat.le_of_ble_eq_true rfl)
  rw [lg_entry_eq]
  generalize (lg_sl ([.ref h0, .int p0]) ++ List.replicate (2 - (lg_sl ([.ref h0, .int p0])).length) Slot.unset).toArray = ls at hl ⊢
  have hl : lv_has ls 2 [(0, .ref h0), (1, .int p0)] := hl
  refine lv_aload_n hx hb dX12_end_0 rfl (lv_at hl 0 rfl) ?_
  refine lv_iconst (v := 0) hx hb dX12_end_1 (by decide) ?_
  refine va_put (D := (dC, dI)) (ci := 15) (v := .int 0) (ty := .int) (C := RX12) (T := TX12) (N := 78) hx hb hts bF_X12 tyX12 tyX12_ok nmX12 hown hK hP hD hS 0 rfl rfl 0 (by decide) (ht_at hts 0 rfl) (fun _ h9 => h9) rfl (by decide +kernel) rfl rfl (Nat.le_of_ble_eq_true rfl) dX12_end_2 (fun H locs hP hD hS => ?_)
  have hP : va_P (dC, dI) vwCl [(h0, .inr (15, mF q 0))] H := hP
  have hD : va_D A [(h0, .inr (15, mF q 0))] := hD
  refine lv_iload_n hx hb dX12_end_5 rfl (lv_at hl 1 rfl) ?_
  refine lv_if_lt (tgt := 17) hx hb dX12_end_6 (by decide) (fun c1 => ?_) (fun c1 => ?_)
  · refine lv_iconst (v := 0) hx hb dX12_end_17 (by decide) ?_
    exact W.zret (v := 0) hx hb hr (by decide) (fun t ht hW => ⟨⟨0, (mF q 0), rfl, (by unfold T_end; rw [if_pos c1]; (first | exact ⟨rfl, fun _ => rfl⟩ | exact ⟨rfl, fun h => absurd h (by decide)⟩)), by rw [ht]; exact hP.sub (ws' := [(h0, .inr (15, mF q 0))]) [0] rfl, hD.sub (ws' := [(h0, .inr (15, mF q 0))]) [0] (by decide) rfl⟩, hS.F ht⟩) hS.2.2 dX12_end_18
  · refine lv_iload_n hx hb dX12_end_9 rfl (lv_at hl 1 rfl) ?_
    refine lv_aload_n hx hb dX12_end_10 rfl (lv_at hl 0 rfl) ?_
    refine va_get (D := (dC, dI)) (ci := 15) (v := .int 0) (C := RX12) (T := TX12) (N := 78) hx hb hts bF_X12 hown hK hP 0 rfl rfl 11 (by decide) (ht_at hts 1 rfl) (fun _ h9 => h9) rfl dX12_end_11 ?_
    refine lv_icmp_le (tgt := 19) hx hb dX12_end_14 (by decide) (fun c2 => ?_) (fun c2 => ?_)
    · refine lv_aload_n hx hb dX12_end_19 rfl (lv_at hl 0 rfl) ?_
      refine lv_iload_n hx hb dX12_end_20 rfl (lv_at hl 1 rfl) ?_
      refine va_put (D := (dC, dI)) (ci := 15) (v := .int p0) (ty := .int) (C := RX12) (T := TX12) (N := 78) hx hb hts bF_X12 tyX12 tyX12_ok nmX12 hown hK hP hD hS 0 rfl rfl 11 (by decide) (ht_at hts 1 rfl) (fun _ h9 => h9) rfl (by decide +kernel) rfl rfl (Nat.le_of_ble_eq_true rfl) dX12_end_21 (fun H locs hP hD hS => ?_)
      have hP : va_P (dC, dI) vwCl [(h0, .inr (15, [.int 0, .ref (q 1), .ref (q 2), .int 0, .ref (q 4), .ref (q 5), .ref (q 6), .ref (q 7), .ref (q 8), .int 0, .ref (q 10), .int p0, .int 0, .int 0, .int 0, .int 0, .int (-1), .ref (q 17), .ref (q 18), .ref (q 19), .ref (q 20), .ref (q 21), .ref (q 22), .ref (q 23), .ref (q 24), .ref (q 25), .ref (q 26), .ref (q 27), .int 0, .ref (q 29), .ref (q 30), .ref (q 31), .ref (q 32), .ref (q 33), .ref (q 34), .ref (q 35), .ref (q 36), .ref (q 37), .ref (q 38), .ref (q 39), .ref (q 40), .ref (q 41), .int 0, .ref (q 43), .ref (q 44), .ref (q 45), .ref (q 46), .int 0, .int 0, .int (-1), .ref (q 50), .ref (q 51), .int 0, .long 0, .long 0, .ref (q 55), .ref (q 56), .ref (q 57), .ref (q 58), .ref (q 59), .ref (q 60), .ref (q 61), .ref (q 62), .ref (q 63), .int 0, .ref (q 65), .ref (q 66), .ref (q 67), .ref (q 68), .ref (q 69), .ref (q 70), .ref (q 71), .ref (q 72), .ref (q 73), .int 0, .ref (q 75), .ref (q 76), .int 0]))] H := hP
      have hD : va_D A [(h0, .inr (15, [.int 0, .ref (q 1), .ref (q 2), .int 0, .ref (q 4), .ref (q 5), .ref (q 6), .ref (q 7), .ref (q 8), .int 0, .ref (q 10), .int p0, .int 0, .int 0, .int 0, .int 0, .int (-1), .ref (q 17), .ref (q 18), .ref (q 19), .ref (q 20), .ref (q 21), .ref (q 22), .ref (q 23), .ref (q 24), .ref (q 25), .ref (q 26), .ref (q 27), .int 0, .ref (q 29), .ref (q 30), .ref (q 31), .ref (q 32), .ref (q 33), .ref (q 34), .ref (q 35), .ref (q 36), .ref (q 37), .ref (q 38), .ref (q 39), .ref (q 40), .ref (q 41), .int 0, .ref (q 43), .ref (q 44), .ref (q 45), .ref (q 46), .int 0, .int 0, .int (-1), .ref (q 50), .ref (q 51), .int 0, .long 0, .long 0, .ref (q 55), .ref (q 56), .ref (q 57), .ref (q 58), .ref (q 59), .ref (q 60), .ref (q 61), .ref (q 62), .ref (q 63), .int 0, .ref (q 65), .ref (q 66), .ref (q 67), .ref (q 68), .ref (q 69), .ref (q 70), .ref (q 71), .ref (q 72), .ref (q 73), .int 0, .ref (q 75), .ref (q 76), .int 0]))] := hD
      refine lv_iconst (v := 1) hx hb dX12_end_24 (by decide) ?_
      exact W.zret (v := 1) hx hb hr (by decide) (fun t ht hW => ⟨⟨1, ([.int 0, .ref (q 1), .ref (q 2), .int 0, .ref (q 4), .ref (q 5), .ref (q 6), .ref (q 7), .ref (q 8), .int 0, .ref (q 10), .int p0, .int 0, .int 0, .int 0, .int 0, .int (-1), .ref (q 17), .ref (q 18), .ref (q 19), .ref (q 20), .ref (q 21), .ref (q 22), .ref (q 23), .ref (q 24), .ref (q 25), .ref (q 26), .ref (q 27), .int 0, .ref (q 29), .ref (q 30), .ref (q 31), .ref (q 32), .ref (q 33), .ref (q 34), .ref (q 35), .ref (q 36), .ref (q 37), .ref (q 38), .ref (q 39), .ref (q 40), .ref (q 41), .int 0, .ref (q 43), .ref (q 44), .ref (q 45), .ref (q 46), .int 0, .int 0, .int (-1), .ref (q 50), .ref (q 51), .int 0, .long 0, .long 0, .ref (q 55), .ref (q 56), .ref (q 57), .ref (q 58), .ref (q 59), .ref (q 60), .ref (q 61), .ref (q 62), .ref (q 63), .int 0, .ref (q 65), .ref (q 66), .ref (q 67), .ref (q 68), .ref (q 69), .ref (q 70), .ref (q 71), .ref (q 72), .ref (q 73), .int 0, .ref (q 75), .ref (q 76), .int 0]), rfl, (by unfold T_end; rw [if_neg c1, if_pos c2]; (first | exact ⟨rfl, fun _ => rfl⟩ | exact ⟨rfl, fun h => absurd h (by decide)⟩)), by rw [ht]; exact hP.sub (ws' := [(h0, .inr (15, [.int 0, .ref (q 1), .ref (q 2), .int 0, .ref (q 4), .ref (q 5), .ref (q 6), .ref (q 7), .ref (q 8), .int 0, .ref (q 10), .int p0, .int 0, .int 0, .int 0, .int 0, .int (-1), .ref (q 17), .ref (q 18), .ref (q 19), .ref (q 20), .ref (q 21), .ref (q 22), .ref (q 23), .ref (q 24), .ref (q 25), .ref (q 26), .ref (q 27), .int 0, .ref (q 29), .ref (q 30), .ref (q 31), .ref (q 32), .ref (q 33), .ref (q 34), .ref (q 35), .ref (q 36), .ref (q 37), .ref (q 38), .ref (q 39), .ref (q 40), .ref (q 41), .int 0, .ref (q 43), .ref (q 44), .ref (q 45), .ref (q 46), .int 0, .int 0, .int (-1), .ref (q 50), .ref (q 51), .int 0, .long 0, .long 0, .ref (q 55), .ref (q 56), .ref (q 57), .ref (q 58), .ref (q 59), .ref (q 60), .ref (q 61), .ref (q 62), .ref (q 63), .int 0, .ref (q 65), .ref (q 66), .ref (q 67), .ref (q 68), .ref (q 69), .ref (q 70), .ref (q 71), .ref (q 72), .ref (q 73), .int 0, .ref (q 75), .ref (q 76), .int 0]))]) [0] rfl, hD.sub (ws' := [(h0, .inr (15, [.int 0, .ref (q 1), .ref (q 2), .int 0, .ref (q 4), .ref (q 5), .ref (q 6), .ref (q 7), .ref (q 8), .int 0, .ref (q 10), .int p0, .int 0, .int 0, .int 0, .int 0, .int (-1), .ref (q 17), .ref (q 18), .ref (q 19), .ref (q 20), .ref (q 21), .ref (q 22), .ref (q 23), .ref (q 24), .ref (q 25), .ref (q 26), .ref (q 27), .int 0, .ref (q 29), .ref (q 30), .ref (q 31), .ref (q 32), .ref (q 33), .ref (q 34), .ref (q 35), .ref (q 36), .ref (q 37), .ref (q 38), .ref (q 39), .ref (q 40), .ref (q 41), .int 0, .ref (q 43), .ref (q 44), .ref (q 45), .ref (q 46), .int 0, .int 0, .int (-1), .ref (q 50), .ref (q 51), .int 0, .long 0, .long 0, .ref (q 55), .ref (q 56), .ref (q 57), .ref (q 58), .ref (q 59), .ref (q 60), .ref (q 61), .ref (q 62), .ref (q 63), .int 0, .ref (q 65), .ref (q 66), .ref (q 67), .ref (q 68), .ref (q 69), .ref (q 70), .ref (q 71), .ref (q 72), .ref (q 73), .int 0, .ref (q 75), .ref (q 76), .int 0]))]) [0] (by decide) rfl⟩, hS.F ht⟩) hS.2.2 dX12_end_25
    · refine lv_iconst (v := 0) hx hb dX12_end_17 (by decide) ?_
      exact W.zret (v := 0) hx hb hr (by decide) (fun t ht hW => ⟨⟨0, (mF q 0), rfl, (by unfold T_end; rw [if_neg c1, if_neg c2]; (first | exact ⟨rfl, fun _ => rfl⟩ | exact ⟨rfl, fun h => absurd h (by decide)⟩)), by rw [ht]; exact hP.sub (ws' := [(h0, .inr (15, mF q 0))]) [0] rfl, hD.sub (ws' := [(h0, .inr (15, mF q 0))]) [0] (by decide) rfl⟩, hS.F ht⟩) hS.2.2 dX12_end_18
