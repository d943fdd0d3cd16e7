def w_m_farm : List Cond := .code yX12_farm cX12_farm 4 (some .int) :: ([.fieldLink RX12 194 "SeaLandModel" "thrown" "I", .code yX12_noSquare cX12_noSquare 1 (some .boolean), .code yX12_in cX12_in 3 (some .boolean), .methodLink RX12 197 yX12_in, .static yX12_in, .initialized RX12, .methodLink RX12 220 yX12_noSquare, .static yX12_noSquare, .code yX12_throwsIf cX12_throwsIf 3 (some .boolean), .methodLink RX12 224 yX12_throwsIf, .instanceMethod yX12_throwsIf, .selects RX12 yX12_throwsIf yX12_throwsIf, .fieldLink RX12 498 "SeaLandModel" "farms" "I", .code yX12_isIn cX12_isIn 5 (some .boolean), .methodLink RX12 207 Lib.Math.min.name, .static Lib.Math.min.name, .initialized "java/lang/Math", .code Lib.Math.min.name Lib.Math.min.code 2 (some .int), .methodLink RX12 211 Lib.Math.max.name, .static Lib.Math.max.name, .code Lib.Math.max.name Lib.Math.max.code 2 (some .int), .methodLink RX12 232 yX12_isIn, .static yX12_isIn, .code yX12_isLand cX12_isLand 2 (some .boolean), .fieldLink RX12 9 "SeaLandModel" "world" "[I", .methodLink RX12 235 yX12_isLand, .instanceMethod yX12_isLand, .selects RX12 yX12_isLand yX12_isLand] ++ bs)
set_option maxHeartbeats 4000000 in
set_option maxRecDepth 100000 in
theorem m_farm (l : Launch) (dC : Nat → ClassId) (dI : Nat → Nat → Nat) (h0 : Nat) (q : Nat → Nat) (cm : Nat → ClassId) (p0 p1 : Int32) (sz : Nat) : Met l yX12_farm w_m_farm ({ frames := 2, cells := 0, slots := 0, locals := 64 }) (va_Pc [.ref h0, .int p0, .int p1] (fun U => U.heap.size = sz ∧ va_P (dC, dI) vwCl [(h0, .inr (15, mF q 0)), (q 1, .inl ((cm 1), 1749, .inl (fun _ => 0)))] U.heap ∧ va_K (dC, dI) vwCl [((cm 1), .int)] U ∧ va_D (fun _ => True) [(h0, .inr (15, mF q 0)), (q 1, .inl ((cm 1), 1749, .inl (fun _ => 0)))])) (va_Qi (fun (r : Int32) (u : List Value) => u[0]? = some (.int (T_farm p0 p1).1) ∧ ((T_farm p0 p1).1 = 0 → r = (T_farm p0 p1).2)) (fun (fs : List Value) (t : State) => va_P (dC, dI) vwCl [(h0, .inr (15, fs))] t.heap ∧ va_D (va_A [(h0, .inr (15, mF q 0)), (q 1, .inl ((cm 1), 1749, .inl (fun _ => 0)))] sz) [(h0, .inr (15, fs))]) (va_A [(h0, .inr (15, mF q 0)), (q 1, .inl ((cm 1), 1749, .inl (fun _ => 0)))] sz)) 0 0 (va_A [(h0, .inr (15, mF q 0)), (q 1, .inl ((cm 1), 1749, .inl (fun _ => 0)))] sz) := by
  refine Met.ofW (cc := cX12_farm) (maxL := 4) (ret := (some .int)) (by decide) rfl ?_
  intro p e s m args below meth c s₁ B hml hv
  obtain ⟨rfl, hsz, hP, hK, hD0⟩ := hv
  have hx := B.exec
  have hb := B.bytes
  have hr := B.returns
  have hts := atoms_spec (ws := w_m_farm) B.pre
  have hown : s.vm.findClass RX12 = some m.cls := findClass_of_methodNamed B.named
  have hlocks := B.notSynchronized
  subst hsz
  have hD := hD0.self (sz := s.heap.size)
  generalize hAe : va_A [(h0, .inr (15, mF q 0)), (q 1, .inl ((cm 1), 1749, .inl (fun _ => 0)))] s.heap.size = A at hD ⊢
  have hA : ∀ q : Nat, s.heap.size ≤ q → A q := fun q h => by rw [← hAe]; exact Or.inr h
  have hS : va_S A s.heap s.heap [] := va_S.rf
  have hP : va_P (dC, dI) vwCl [(h0, .inr (15, mF q 0)), (q 1, .inl ((cm 1), 1749, .inl (fun _ => 0)))] s.heap := hP
  have hl := lv_entry ([.ref h0, .int p0, .int p1]) (n := 4) (Nat.le_of_ble_eq_true rfl)
  rw [lg_entry_eq]
  generalize (lg_sl ([.ref h0, .int p0, .int p1]) ++ List.replicate (4 - (lg_sl ([.ref h0, .int p0, .int p1])).length) Slot.unset).toArray = ls at hl ⊢
  have hl : lv_has ls 4 [(0, .ref h0), (1, .int p0), (2, .int p1)] := hl
  refine lv_aload_n hx hb dX12_farm_0 rfl (lv_at hl 0 rfl) ?_
  refine lv_iconst (v := 0) hx hb dX12_farm_1 (by decide) ?_
  refine va_put (D := (dC, dI)) (ci := 15) (v := .int 0) (ty := .int) (C := RX12) (T := TX12) (N := 78) hx hb hts bF_X12 tyX12 tyX12_ok nmX12 hown hK hP hD hS 0 rfl rfl 0 (by decide) (ht_at hts 0 rfl) (fun _ h9 => h9) rfl (by decide +kernel) rfl rfl (Nat.le_of_ble_eq_true rfl) dX12_farm_2 (fun H locs hP hD hS => ?_)
  have hP : va_P (dC, dI) vwCl [(h0, .inr (15, mF q 0)), (q 1, .inl ((cm 1), 1749, .inl (fun _ => 0)))] H := hP
  have hD : va_D A [(h0, .inr (15, mF q 0)), (q 1, .inl ((cm 1), 1749, .inl (fun _ => 0)))] := hD
  refine lv_aload_n hx hb dX12_farm_5 rfl (lv_at hl 0 rfl) ?_
  refine lv_iload_n hx hb dX12_farm_6 rfl (lv_at hl 1 rfl) ?_
  have hPc := hP.sub (ws' := []) [] rfl
  have hDc := hD.sub (ws' := []) [] (by decide) rfl
  have hKc := hK.sub (tys' := []) [] rfl
  have hFc := va_free (wc := []) hD hS hA [] rfl
  refine va_calli (va_runS (As := [.int p0]) (rest := [.ref h0]) ⟨hx, hb, hml, hown, hts⟩ (c_m_noSquare l dC dI p0 H.size ) (va_cwS 1 hts (goodIn_app (goodIn_r _ [7, 8, 6] (by decide +kernel) (by decide +kernel)) (goodIn_ca (goodIn_r _ [2, 3, 4, 5, 6] (by decide +kernel) (by decide +kernel)) (bs_in _ _))) rfl rfl rfl (by decide +kernel) ⟨(Nat.le_of_ble_eq_true rfl), (Nat.le_of_ble_eq_true rfl)⟩) ⟨fun a U g mk q => by obtain ⟨q0, q1, qP, qK, qD⟩ := q; exact ⟨q0, q1, qP, va_K.moved (u := U) (U := U.calling g mk a) (Vm.Alike.refl U.vm) qK, qD⟩, fun U hU hW => ⟨rfl, by rw [hU], by rw [hU]; exact hPc, va_K.moved hW.alike hKc, hDc.weaken (fun _ _ _ _ => trivial)⟩⟩ rfl rfl hl.1 rfl (lv_room (Nat.le_of_ble_eq_true rfl)) dX12_farm_7 ⟨(Nat.le_of_ble_eq_true rfl), (Nat.le_of_ble_eq_true rfl)⟩) hS (fun q _ h => hFc q h) hFc (fun r2 u t H1 locs ht hvm hw3 hB hz1 hk1 hS => ?_)
  have hP1 : va_P (dC, dI) vwCl [] H1 := nilP
  have hD1 : va_D (va_A [] H.size) [] := nilD
  have hK := hK
  obtain ⟨hP, hD⟩ := va_join (wr := [(h0, .inr (15, mF q 0)), (q 1, .inl ((cm 1), 1749, .inl (fun _ => 0)))]) (w1 := []) hP hD [] [0, 1] rfl rfl (by decide) (by decide) hk1 hFc hP1 hD1
  generalize H1 = H at hP hS ⊢
  have hP : va_P (dC, dI) vwCl [(h0, .inr (15, mF q 0)), (q 1, .inl ((cm 1), 1749, .inl (fun _ => 0)))] H := hP
  have hD : va_D A [(h0, .inr (15, mF q 0)), (q 1, .inl ((cm 1), 1749, .inl (fun _ => 0)))] := hD
  try dsimp only at hw3
  by_cases hc4 : 0 ≤ p0 ∧ p0 ≤ 95
  · rw [if_pos hc4] at hw3
    subst hw3
    refine lv_if_ne (tgt := 20) hx hb dX12_farm_10 (by decide) (fun c5 => absurd c5 (by decide)) (fun c5 => ?_)
    refine lv_iload_n hx hb dX12_farm_13 rfl (lv_at hl 2 rfl) ?_
    have hPc := hP.sub (ws' := []) [] rfl
    have hDc := hD.sub (ws' := []) [] (by decide) rfl
    have hKc := hK.sub (tys' := []) [] rfl
    have hFc := va_free (wc := []) hD hS hA [] rfl
    refine va_calli (va_runS (As := [.int p1]) (rest := [.ref h0]) ⟨hx, hb, hml, hown, hts⟩ (c_m_noSquare l dC dI p1 H.size ) (va_cwS 1 hts (goodIn_app (goodIn_r _ [7, 8, 6] (by decide +kernel) (by decide +kernel)) (goodIn_ca (goodIn_r _ [2, 3, 4, 5, 6] (by decide +kernel) (by decide +kernel)) (bs_in _ _))) rfl rfl rfl (by decide +kernel) ⟨(Nat.le_of_ble_eq_true rfl), (Nat.le_of_ble_eq_true rfl)⟩) ⟨fun a U g mk q => by obtain ⟨q0, q1, qP, qK, qD⟩ := q; exact ⟨q0, q1, qP, va_K.moved (u := U) (U := U.calling g mk a) (Vm.Alike.refl U.vm) qK, qD⟩, fun U hU hW => ⟨rfl, by rw [hU], by rw [hU]; exact hPc, va_K.moved hW.alike hKc, hDc.weaken (fun _ _ _ _ => trivial)⟩⟩ rfl rfl hl.1 rfl (lv_room (Nat.le_of_ble_eq_true rfl)) dX12_farm_14 ⟨(Nat.le_of_ble_eq_true rfl), (Nat.le_of_ble_eq_true rfl)⟩) hS (fun q _ h => hFc q h) hFc (fun r7 u t H1 locs ht hvm hw8 hB hz1 hk1 hS => ?_)
    have hP1 : va_P (dC, dI) vwCl [] H1 := nilP
    have hD1 : va_D (va_A [] H.size) [] := nilD
    have hK := hK
    obtain ⟨hP, hD⟩ := va_join (wr := [(h0, .inr (15, mF q 0)), (q 1, .inl ((cm 1), 1749, .inl (fun _ => 0)))]) (w1 := []) hP hD [] [0, 1] rfl rfl (by decide) (by decide) hk1 hFc hP1 hD1
    generalize H1 = H at hP hS ⊢
    have hP : va_P (dC, dI) vwCl [(h0, .inr (15, mF q 0)), (q 1, .inl ((cm 1), 1749, .inl (fun _ => 0)))] H := hP
    have hD : va_D A [(h0, .inr (15, mF q 0)), (q 1, .inl ((cm 1), 1749, .inl (fun _ => 0)))] := hD
    try dsimp only at hw8
    by_cases hc9 : 0 ≤ p1 ∧ p1 ≤ 95
    · rw [if_pos hc9] at hw8
      subst hw8
      refine lv_if_eq (tgt := 24) hx hb dX12_farm_17 (by decide) (fun c10 => ?_) (fun c10 => absurd c10 (by decide))
      refine lv_iconst (v := 0) hx hb dX12_farm_24 (by decide) ?_
      refine lv_iconst (v := 1) hx hb dX12_farm_25 (by decide) ?_
      have hPc := hP.sub (ws' := [(h0, .inr (15, mF q 0))]) [0] rfl
      have hDc := hD.sub (ws' := [(h0, .inr (15, mF q 0))]) [0] (by decide) rfl
      have hKc := hK.sub (tys' := []) [] rfl
      have hFc := va_free (wc := [(h0, .inr (15, mF q 0))]) hD hS hA [0] rfl
      refine va_calli (va_runV (As := [.int 0, .int 1]) (rest := []) ⟨hx, hb, hml, hown, hts⟩ (c_m_throwsIf0 l dC dI h0 (mF q 0) 1 H.size ) (cwV 2 hts (goodIn_app (goodIn_r _ [10, 11, 12, 6] (by decide +kernel) (by decide +kernel)) (goodIn_ca (goodIn_r _ [9] (by decide +kernel) (by decide +kernel)) (bs_in _ _))) rfl rfl rfl (by decide +kernel) ⟨(Nat.le_of_ble_eq_true rfl), (Nat.le_of_ble_eq_true rfl)⟩) ⟨fun a U g mk q => by obtain ⟨q0, q1, qP, qK, qD⟩ := q; exact ⟨q0, q1, qP, va_K.moved (u := U) (U := U.calling g mk a) (Vm.Alike.refl U.vm) qK, qD⟩, va_recv hKc hPc (ci := 15) (q0 := 0) rfl rfl, fun U hU hW => ⟨rfl, by rw [hU], by rw [hU]; exact hPc, va_K.moved hW.alike hKc, hDc.weaken (fun _ _ _ _ => trivial)⟩⟩ rfl rfl hl.1 rfl (lv_room (Nat.le_of_ble_eq_true rfl)) dX12_farm_26 ⟨(Nat.le_of_ble_eq_true rfl), (Nat.le_of_ble_eq_true rfl)⟩) hS (fun q _ h => hFc q h) hFc (fun r12 u t H1 locs ht hvm hw13 hB hz1 hk1 hS => ?_)
      obtain ⟨hP1, hD1⟩ := hB
      rw [ht] at hP1
      obtain ⟨hP, hD⟩ := va_join (wr := [(q 1, .inl ((cm 1), 1749, .inl (fun _ => 0)))]) (w1 := [(h0, .inr (15, mF q 0))]) hP hD [0] [1] rfl rfl (by decide) (by decide) hk1 hFc hP1 hD1
      generalize H1 = H at hP hS ⊢
      have hP : va_P (dC, dI) vwCl [(q 1, .inl ((cm 1), 1749, .inl (fun _ => 0))), (h0, .inr (15, mF q 0))] H := hP
      have hD : va_D A [(q 1, .inl ((cm 1), 1749, .inl (fun _ => 0))), (h0, .inr (15, mF q 0))] := hD
      try dsimp only at hw13
      obtain rfl : 0 = r12 := (hw13).symm
      refine lv_if_ne (tgt := 41) hx hb dX12_farm_29 (by decide) (fun c14 => absurd c14 (by decide)) (fun c14 => ?_)
      refine lv_aload_n hx hb dX12_farm_32 rfl (lv_at hl 0 rfl) ?_
      refine va_get (D := (dC, dI)) (ci := 15) (v := .int 0) (C := RX12) (T := TX12) (N := 78) hx hb hts bF_X12 hown hK hP 1 rfl rfl 47 (by decide) (ht_at hts 12 rfl) (fun _ h9 => h9) rfl dX12_farm_33 ?_
      refine lv_bipush (v := 30) hx hb dX12_farm_36 (by decide) ?_
      refine lv_icmp_ne (tgt := 54) hx hb dX12_farm_38 (by decide) (fun c15 => ?_) (fun c15 => absurd c15 (by decide))
      refine lv_iconst (v := 0) hx hb dX12_farm_54 (by decide) ?_
      refine lv_istore_n (lv' := [(3, .int 0), (0, .ref h0), (1, .int p0), (2, .int p1)]) hx hb dX12_farm_55 rfl hl (by decide) rfl (fun ls hl => ?_)
      have key16 : ∀ (n16 i : Nat), i + n16 = 96 → ∀ (hg : ∀ j, j < i → ¬ Rect (nI j) p0 p1), ∀ (H : Heap) (locs : List Loc), va_P (dC, dI) vwCl [(q 1, .inl ((cm 1), 1749, .inl (fun _ => 0))), (h0, .inr (15, mF q 0))] H → va_D A [(q 1, .inl ((cm 1), 1749, .inl (fun _ => 0))), (h0, .inr (15, mF q 0))] → va_S A s.heap H locs → ∀ ls : Array Slot, lv_has ls 4 [(3, .int (nI i)), (0, .ref h0), (1, .int p0), (2, .int p1)] → W p l e (headSpec w_m_farm ({ frames := 2, cells := 0, slots := 0, locals := 64 })).room s m #[.ref h0, .int p0, .int p1] below meth c H locs 0 0 (MQ below (va_Qi (fun (r : Int32) (u : List Value) => u[0]? = some (.int (T_farm p0 p1).1) ∧ ((T_farm p0 p1).1 = 0 → r = (T_farm p0 p1).2)) (fun (fs : List Value) (t : State) => va_P (dC, dI) vwCl [(h0, .inr (15, fs))] t.heap ∧ va_D A [(h0, .inr (15, fs))]) A) #[.ref h0, .int p0, .int p1] s 0 0 A) (F0 m 56 ls []) := by
        intro n16
        induction n16 with
        | zero =>
          intro i hn16 hg H locs hP hD hS ls hl
          obtain rfl : 96 = i := by omega
          refine lv_iload_n hx hb dX12_farm_56 rfl (lv_at hl 0 rfl) ?_
          refine lv_bipush (v := 96) hx hb dX12_farm_57 (by decide) ?_
          refine lv_icmp_ge (tgt := 95) hx hb dX12_farm_59 (by decide) (fun c17 => ?_) (fun c17 => absurd c17 (by decide))
          obtain ⟨j9, hj9, ej9⟩ := nI_of2 (M := 95) (n := 95) (by decide) (Int32.not_lt.mpr hc4.1) hc4.2
          have h9 := hg j9 (by omega)
          rw [← ej9] at h9
          exact absurd (rect_self p0 p1) h9
        | succ n16 ih16 =>
          intro i hn16 hg H locs hP hD hS ls hl
          have hlt18 : i < 96 := by omega
          refine lv_iload_n hx hb dX12_farm_56 rfl (lv_at hl 0 rfl) ?_
          refine lv_bipush (v := 96) hx hb dX12_farm_57 (by decide) ?_
          refine lv_icmp_ge (tgt := 95) hx hb dX12_farm_59 (by decide) (fun c19 => absurd c19 (nI_ge (b := 96) hlt18 (by decide))) (fun c19 => ?_)
          refine lv_iload_n hx hb dX12_farm_62 rfl (lv_at hl 0 rfl) ?_
          refine lv_iload_n hx hb dX12_farm_63 rfl (lv_at hl 2 rfl) ?_
          refine lv_iload_n hx hb dX12_farm_64 rfl (lv_at hl 3 rfl) ?_
          have hPc := hP.sub (ws' := []) [] rfl
          have hDc := hD.sub (ws' := []) [] (by decide) rfl
          have hKc := hK.sub (tys' := []) [] rfl
          have hFc := va_free (wc := []) hD hS hA [] rfl
          refine va_calli (va_runS (As := [.int (nI i), .int p0, .int p1]) (rest := []) ⟨hx, hb, hml, hown, hts⟩ (m_isIn l dC dI (nI i) p0 p1 H.size ) (va_cwS 3 hts (goodIn_app (goodIn_r _ [22, 23, 6] (by decide +kernel) (by decide +kernel)) (goodIn_ca (goodIn_r _ [14, 15, 16, 17, 18, 19, 20, 21, 3, 4, 5, 6] (by decide +kernel) (by decide +kernel)) (bs_in _ _))) rfl rfl rfl (by decide +kernel) ⟨(Nat.le_of_ble_eq_true rfl), (Nat.le_of_ble_eq_true rfl)⟩) ⟨fun a U g mk q => by obtain ⟨q0, q1, qP, qK, qD⟩ := q; exact ⟨q0, q1, qP, va_K.moved (u := U) (U := U.calling g mk a) (Vm.Alike.refl U.vm) qK, qD⟩, fun U hU hW => ⟨rfl, by rw [hU], by rw [hU]; exact hPc, va_K.moved hW.alike hKc, hDc.weaken (fun _ _ _ _ => trivial)⟩⟩ rfl rfl hl.1 rfl (lv_room (Nat.le_of_ble_eq_true rfl)) dX12_farm_65 ⟨(Nat.le_of_ble_eq_true rfl), (Nat.le_of_ble_eq_true rfl)⟩) hS (fun q _ h => hFc q h) hFc (fun r21 u t H1 locs ht hvm hw22 hB hz1 hk1 hS => ?_)
          have hP1 : va_P (dC, dI) vwCl [] H1 := nilP
          have hD1 : va_D (va_A [] H.size) [] := nilD
          have hK := hK
          obtain ⟨hP, hD⟩ := va_join (wr := [(q 1, .inl ((cm 1), 1749, .inl (fun _ => 0))), (h0, .inr (15, mF q 0))]) (w1 := []) hP hD [] [0, 1] rfl rfl (by decide) (by decide) hk1 hFc hP1 hD1
          generalize H1 = H at hP hS ⊢
          have hP : va_P (dC, dI) vwCl [(q 1, .inl ((cm 1), 1749, .inl (fun _ => 0))), (h0, .inr (15, mF q 0))] H := hP
          have hD : va_D A [(q 1, .inl ((cm 1), 1749, .inl (fun _ => 0))), (h0, .inr (15, mF q 0))] := hD
          try dsimp only at hw22
          rcases hw22 with ⟨rfl, hc23⟩ | ⟨rfl, hc23⟩
          · refine lv_if_eq (tgt := 89) hx hb dX12_farm_68 (by decide) (fun c24 => absurd c24 (by decide)) (fun c24 => ?_)
            refine lv_aload_n hx hb dX12_farm_71 rfl (lv_at hl 1 rfl) ?_
            refine lv_iload_n hx hb dX12_farm_72 rfl (lv_at hl 0 rfl) ?_
            have hPc := hP.sub (ws' := [(h0, .inr (15, mF q 0)), (q 1, .inl ((cm 1), 1749, .inl (fun _ => 0)))]) [1, 0] rfl
            have hDc := hD.sub (ws' := [(h0, .inr (15, mF q 0)), (q 1, .inl ((cm 1), 1749, .inl (fun _ => 0)))]) [1, 0] (by decide) rfl
            have hKc := hK.sub (tys' := [((cm 1), .int)]) [0] rfl
            have hFc := va_free (wc := [(h0, .inr (15, mF q 0)), (q 1, .inl ((cm 1), 1749, .inl (fun _ => 0)))]) hD hS hA [1, 0] rfl
            refine va_calli (va_runV (As := [.int (nI i)]) (rest := []) ⟨hx, hb, hml, hown, hts⟩ (m_isLand l dC dI h0 q cm (nI i) H.size ⟨nI_pos' (by omega), nI_le (b := 95) (by omega) (by decide)⟩) (cwV 1 hts (goodIn_app (goodIn_r _ [26, 27, 28, 6] (by decide +kernel) (by decide +kernel)) (goodIn_ca (goodIn_r _ [24, 25] (by decide +kernel) (by decide +kernel)) (bs_in _ _))) rfl rfl rfl (by decide +kernel) ⟨(Nat.le_of_ble_eq_true rfl), (Nat.le_of_ble_eq_true rfl)⟩) ⟨fun a U g mk q => by obtain ⟨q0, q1, qP, qK, qD⟩ := q; exact ⟨q0, q1, qP, va_K.moved (u := U) (U := U.calling g mk a) (Vm.Alike.refl U.vm) qK, qD⟩, va_recv hKc hPc (ci := 15) (q0 := 0) rfl rfl, fun U hU hW => ⟨rfl, by rw [hU], by rw [hU]; exact hPc, va_K.moved hW.alike hKc, hDc.weaken (fun _ _ _ _ => trivial)⟩⟩ rfl rfl hl.1 rfl (lv_room (Nat.le_of_ble_eq_true rfl)) dX12_farm_73 ⟨(Nat.le_of_ble_eq_true rfl), (Nat.le_of_ble_eq_true rfl)⟩) hS (fun q _ h => hFc q h) hFc (fun r26 u t H1 locs ht hvm hw27 hB hz1 hk1 hS => ?_)
            obtain ⟨hP1, hD1⟩ := hB
            rw [ht] at hP1
            obtain ⟨hP, hD⟩ := va_join (wr := []) (w1 := [(h0, .inr (15, mF q 0)), (q 1, .inl ((cm 1), 1749, .inl (fun _ => 0)))]) hP hD [1, 0] [] rfl rfl (by decide) (by decide) hk1 hFc hP1 hD1
            generalize H1 = H at hP hS ⊢
            have hP : va_P (dC, dI) vwCl [(h0, .inr (15, mF q 0)), (q 1, .inl ((cm 1), 1749, .inl (fun _ => 0)))] H := hP
            have hD : va_D A [(h0, .inr (15, mF q 0)), (q 1, .inl ((cm 1), 1749, .inl (fun _ => 0)))] := hD
            try dsimp only at hw27
            obtain rfl : 0 = r26 := (hw27).symm
            refine lv_if_eq (tgt := 87) hx hb dX12_farm_76 (by decide) (fun c28 => ?_) (fun c28 => absurd c28 (by decide))
            refine lv_iconst (v := (-1)) hx hb dX12_farm_87 (by decide) ?_
            exact W.iret (v := (-1)) hx hb hr (fun t ht hW => ⟨⟨(-1), (mF q 0), rfl, (by unfold T_farm; rw [if_pos hc4, if_pos hc9]; (first | exact ⟨rfl, fun _ => rfl⟩ | exact ⟨rfl, fun h => absurd h (by decide)⟩)), by rw [ht]; exact hP.sub (ws' := [(h0, .inr (15, mF q 0))]) [0] rfl, hD.sub (ws' := [(h0, .inr (15, mF q 0))]) [0] (by decide) rfl⟩, hS.F ht⟩) hS.2.2 dX12_farm_88
          · refine lv_if_eq (tgt := 89) hx hb dX12_farm_68 (by decide) (fun c29 => ?_) (fun c29 => absurd c29 (by decide))
            obtain ⟨x30, ex30⟩ : ∃ y : Int32, y = (nI i) + 1 := ⟨_, rfl⟩
            refine lv_iinc (v := x30) (lv' := [(3, .int x30), (0, .ref h0), (1, .int p0), (2, .int p1)]) hx hb dX12_farm_89 hl (k := 0) rfl (by rw [ex30]; rfl) (by decide) rfl (fun ls hl => ?_)
            refine lv_goto (tgt := 56) hx hb dX12_farm_92 (by decide) ?_
            obtain rfl : x30 = nI (i + 1) := ex30.trans (nI_1 i)
            exact ih16 (i + 1) (by omega) (lt_s hg hc23) _ _ (hP.sub [0, 1] rfl) (hD.sub [0, 1] (by decide) rfl) hS ls (lv_sub hl [0, 1, 2, 3] rfl)
      exact key16 96 0 (by decide) lt_0 _ _ (hP.sub [0, 1] rfl) (hD.sub [0, 1] (by decide) rfl) hS ls (lv_sub hl [0, 1, 2, 3] rfl)
    · rw [if_neg hc9] at hw8
      subst hw8
      refine lv_if_eq (tgt := 24) hx hb dX12_farm_17 (by decide) (fun c31 => absurd c31 (by decide)) (fun c31 => ?_)
      refine lv_iconst (v := 1) hx hb dX12_farm_20 (by decide) ?_
      refine lv_goto (tgt := 25) hx hb dX12_farm_21 (by decide) ?_
      refine lv_iconst (v := 1) hx hb dX12_farm_25 (by decide) ?_
      have hPc := hP.sub (ws' := [(h0, .inr (15, mF q 0))]) [0] rfl
      have hDc := hD.sub (ws' := [(h0, .inr (15, mF q 0))]) [0] (by decide) rfl
      have hKc := hK.sub (tys' := []) [] rfl
      have hFc := va_free (wc := [(h0, .inr (15, mF q 0))]) hD hS hA [0] rfl
      refine va_calli (va_runV (As := [.int 1, .int 1]) (rest := []) ⟨hx, hb, hml, hown, hts⟩ (c_m_throwsIf1 l dC dI h0 (mF q 0) 1 H.size rfl) (cwV 2 hts (goodIn_app (goodIn_r _ [10, 11, 12, 6] (by decide +kernel) (by decide +kernel)) (goodIn_ca (goodIn_r _ [9, 1] (by decide +kernel) (by decide +kernel)) (bs_in _ _))) rfl rfl rfl (by decide +kernel) ⟨(Nat.le_of_ble_eq_true rfl), (Nat.le_of_ble_eq_true rfl)⟩) ⟨fun a U g mk q => by obtain ⟨q0, q1, qP, qK, qD⟩ := q; exact ⟨q0, q1, qP, va_K.moved (u := U) (U := U.calling g mk a) (Vm.Alike.refl U.vm) qK, qD⟩, va_recv hKc hPc (ci := 15) (q0 := 0) rfl rfl, fun U hU hW => ⟨rfl, by rw [hU], by rw [hU]; exact hPc, va_K.moved hW.alike hKc, hDc.weaken (fun _ _ _ _ => trivial)⟩⟩ rfl rfl hl.1 rfl (lv_room (Nat.le_of_ble_eq_true rfl)) dX12_farm_26 ⟨(Nat.le_of_ble_eq_true rfl), (Nat.le_of_ble_eq_true rfl)⟩) hS (fun q _ h => hFc q h) hFc (fun r33 u t H1 locs ht hvm hw34 hB hz1 hk1 hS => ?_)
      obtain ⟨hP1, hD1⟩ := hB
      rw [ht] at hP1
      obtain ⟨hP, hD⟩ := va_join (wr := [(q 1, .inl ((cm 1), 1749, .inl (fun _ => 0)))]) (w1 := [(h0, .inr (15, mF q 1))]) hP hD [0] [1] rfl rfl (by decide) (by decide) hk1 hFc hP1 hD1
      generalize H1 = H at hP hS ⊢
      have hP : va_P (dC, dI) vwCl [(q 1, .inl ((cm 1), 1749, .inl (fun _ => 0))), (h0, .inr (15, mF q 1))] H := hP
      have hD : va_D A [(q 1, .inl ((cm 1), 1749, .inl (fun _ => 0))), (h0, .inr (15, mF q 1))] := hD
      try dsimp only at hw34
      obtain rfl : 1 = r33 := (hw34).symm
      refine lv_if_ne (tgt := 41) hx hb dX12_farm_29 (by decide) (fun c35 => ?_) (fun c35 => absurd c35 (by decide))
      refine lv_aload_n hx hb dX12_farm_41 rfl (lv_at hl 0 rfl) ?_
      refine va_get (D := (dC, dI)) (ci := 15) (v := .int 1) (C := RX12) (T := TX12) (N := 78) hx hb hts bF_X12 hown hK hP 1 rfl rfl 0 (by decide) (ht_at hts 0 rfl) (fun _ h9 => h9) rfl dX12_farm_42 ?_
      refine lv_if_eq (tgt := 52) hx hb dX12_farm_45 (by decide) (fun c36 => absurd c36 (by decide)) (fun c36 => ?_)
      refine lv_iconst (v := 0) hx hb dX12_farm_48 (by decide) ?_
      refine lv_goto (tgt := 53) hx hb dX12_farm_49 (by decide) ?_
      exact W.iret (v := 0) hx hb hr (fun t ht hW => ⟨⟨0, (mF q 1), rfl, (by unfold T_farm; rw [if_pos hc4, if_neg hc9]; (first | exact ⟨rfl, fun _ => rfl⟩ | exact ⟨rfl, fun h => absurd h (by decide)⟩)), by rw [ht]; exact hP.sub (ws' := [(h0, .inr (15, mF q 1))]) [1] rfl, hD.sub (ws' := [(h0, .inr (15, mF q 1))]) [1] (by decide) rfl⟩, hS.F ht⟩) hS.2.2 dX12_farm_53
  · rw [if_neg hc4] at hw3
    subst hw3
    refine lv_if_ne (tgt := 20) hx hb dX12_farm_10 (by decide) (fun c37 => ?_) (fun c37 => absurd c37 (by decide))
    refine lv_iconst (v := 1) hx hb dX12_farm_20 (by decide) ?_
    refine lv_goto (tgt := 25) hx hb dX12_farm_21 (by decide) ?_
    refine lv_iconst (v := 1) hx hb dX12_farm_25 (by decide) ?_
    have hPc := hP.sub (ws' := [(h0, .inr (15, mF q 0))]) [0] rfl
    have hDc := hD.sub (ws' := [(h0, .inr (15, mF q 0))]) [0] (by decide) rfl
    have hKc := hK.sub (tys' := []) [] rfl
    have hFc := va_free (wc := [(h0, .inr (15, mF q 0))]) hD hS hA [0] rfl
    refine va_calli (va_runV (As := [.int 1, .int 1]) (rest := []) ⟨hx, hb, hml, hown, hts⟩ (c_m_throwsIf1 l dC dI h0 (mF q 0) 1 H.size rfl) (cwV 2 hts (goodIn_app (goodIn_r _ [10, 11, 12, 6] (by decide +kernel) (by decide +kernel)) (goodIn_ca (goodIn_r _ [9, 1] (by decide +kernel) (by decide +kernel)) (bs_in _ _))) rfl rfl rfl (by decide +kernel) ⟨(Nat.le_of_ble_eq_true rfl), (Nat.le_of_ble_eq_true rfl)⟩) ⟨fun a U g mk q => by obtain ⟨q0, q1, qP, qK, qD⟩ := q; exact ⟨q0, q1, qP, va_K.moved (u := U) (U := U.calling g mk a) (Vm.Alike.refl U.vm) qK, qD⟩, va_recv hKc hPc (ci := 15) (q0 := 0) rfl rfl, fun U hU hW => ⟨rfl, by rw [hU], by rw [hU]; exact hPc, va_K.moved hW.alike hKc, hDc.weaken (fun _ _ _ _ => trivial)⟩⟩ rfl rfl hl.1 rfl (lv_room (Nat.le_of_ble_eq_true rfl)) dX12_farm_26 ⟨(Nat.le_of_ble_eq_true rfl), (Nat.le_of_ble_eq_true rfl)⟩) hS (fun q _ h => hFc q h) hFc (fun r39 u t H1 locs ht hvm hw40 hB hz1 hk1 hS => ?_)
    obtain ⟨hP1, hD1⟩ := hB
    rw [ht] at hP1
    obtain ⟨hP, hD⟩ := va_join (wr := [(q 1, .inl ((cm 1), 1749, .inl (fun _ => 0)))]) (w1 := [(h0, .inr (15, mF q 1))]) hP hD [0] [1] rfl rfl (by decide) (by decide) hk1 hFc hP1 hD1
    generalize H1 = H at hP hS ⊢
    have hP : va_P (dC, dI) vwCl [(q 1, .inl ((cm 1), 1749, .inl (fun _ => 0))), (h0, .inr (15, mF q 1))] H := hP
    have hD : va_D A [(q 1, .inl ((cm 1), 1749, .inl (fun _ => 0))), (h0, .inr (15, mF q 1))] := hD
    try dsimp only at hw40
    obtain rfl : 1 = r39 := (hw40).symm
    refine lv_if_ne (tgt := 41) hx hb dX12_farm_29 (by decide) (fun c41 => ?_) (fun c41 => absurd c41 (by decide))
    refine lv_aload_n hx hb dX12_farm_41 rfl (lv_at hl 0 rfl) ?_
    refine va_get (D := (dC, dI)) (ci := 15) (v := .int 1) (C := RX12) (T := TX12) (N := 78) hx hb hts bF_X12 hown hK hP 1 rfl rfl 0 (by decide) (ht_at hts 0 rfl) (fun _ h9 => h9) rfl dX12_farm_42 ?_
    refine lv_if_eq (tgt := 52) hx hb dX12_farm_45 (by decide) (fun c42 => absurd c42 (by decide)) (fun c42 => ?_)
    refine lv_iconst (v := 0) hx hb dX12_farm_48 (by decide) ?_
    refine lv_goto (tgt := 53) hx hb dX12_farm_49 (by decide) ?_
    exact W.iret (v := 0) hx hb hr (fun t ht hW => ⟨⟨0, (mF q 1), rfl, (by unfold T_farm; rw [if_neg hc4]; (first | exact ⟨rfl, fun _ => rfl⟩ | exact ⟨rfl, fun h => absurd h (by decide)⟩)), by rw [ht]; exact hP.sub (ws' := [(h0, .inr (15, mF q 1))]) [1] rfl, hD.sub (ws' := [(h0, .inr (15, mF q 1))]) [1] (by decide) rfl⟩, hS.F ht⟩) hS.2.2 dX12_farm_53
