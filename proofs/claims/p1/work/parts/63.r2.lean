def w_x_inRectangle : List Cond := .code yX11_inRectangle cX11_inRectangle 3 (some .boolean) :: ([.code yX11_isBetween cX11_isBetween 3 (some .boolean), .methodLink RX11 588 Lib.Math.min.name, .static Lib.Math.min.name, .initialized "java/lang/Math", .code Lib.Math.min.name Lib.Math.min.code 2 (some .int), .methodLink RX11 591 Lib.Math.max.name, .static Lib.Math.max.name, .code Lib.Math.max.name Lib.Math.max.code 2 (some .int), .methodLink RX11 585 yX11_isBetween, .static yX11_isBetween, .initialized RX11] ++ bs)
set_option maxHeartbeats 4000000 in
set_option maxRecDepth 100000 in
theorem x_inRectangle (l : Launch) (dC : Nat → ClassId) (dI : Nat → Nat → Nat) (sq fr to : Int32) (sz : Nat) : Met l yX11_inRectangle w_x_inRectangle ({ frames := 2, cells := 0, slots := 0, locals := 62 }) (va_Pc [.int sq, .int fr, .int to] (fun U => U.heap.size = sz ∧ va_P (dC, dI) vwCl [] U.heap ∧ va_K (dC, dI) vwCl [] U ∧ va_D (fun _ => True) [])) (va_Qi (fun (r : Int32) (u : Unit) => (r = 1 ∧ Rect sq fr to) ∨ (r = 0 ∧ ¬ Rect sq fr to)) (fun (_ : Unit) (_ : State) => True) (va_A [] sz)) 0 0 (va_A [] sz) := by
  refine Met.ofW (cc := cX11_inRectangle) (maxL := 3) (ret := (some .boolean)) (by decide) rfl ?_
  intro p e s m args below meth c s₁ B hml hv
  obtain ⟨rfl, hsz, hP, hK, hD0⟩ := hv
  have hx := B.exec
  have hb := B.bytes
  have hr := B.returns
  have hts := atoms_spec (ws := w_x_inRectangle) B.pre
  have hown : s.vm.findClass RX11 = some m.cls := findClass_of_methodNamed B.named
  have hlocks := B.notSynchronized
  subst hsz
  have hD := hD0.self (sz := s.heap.size)
  generalize hAe : va_A [] s.heap.size = A at hD ⊢
  have hA : ∀ q : Nat, s.heap.size ≤ q → A q := fun q h => by rw [← hAe]; exact Or.inr h
  have hS : va_S A s.heap s.heap [] := va_S.rf
  have hP : va_P (dC, dI) vwCl [] s.heap := hP
  have hl := lv_entry ([.int sq, .int fr, .int to]) (n := 3) (Nat.le_of_ble_eq_true rfl)
  rw [lg_entry_eq]
  generalize (lg_sl ([.int sq, .int fr, .int to]) ++ List.replicate (3 - (lg_sl ([.int sq, .int fr, .int to])).length) Slot.unset).toArray = ls at hl ⊢
  have hl : lv_has ls 3 [(0, .int sq), (1, .int fr), (2, .int to)] := hl
  refine lv_iload_n hx hb dX11_inRectangle_0 rfl (lv_at hl 0 rfl) ?_
  refine lv_bipush (v := 12) hx hb dX11_inRectangle_1 (by decide) ?_
  refine lv_irem hx hb dX11_inRectangle_3 (by decide) ?_
  refine lv_topi (fun x1 ex1 => ?_)
  refine lv_iload_n hx hb dX11_inRectangle_4 rfl (lv_at hl 1 rfl) ?_
  refine lv_bipush (v := 12) hx hb dX11_inRectangle_5 (by decide) ?_
  refine lv_irem hx hb dX11_inRectangle_7 (by decide) ?_
  refine lv_topi (fun x2 ex2 => ?_)
  refine lv_iload_n hx hb dX11_inRectangle_8 rfl (lv_at hl 2 rfl) ?_
  refine lv_bipush (v := 12) hx hb dX11_inRectangle_9 (by decide) ?_
  refine lv_irem hx hb dX11_inRectangle_11 (by decide) ?_
  refine lv_topi (fun x3 ex3 => ?_)
  have hPc := hP.sub (ws' := []) [] rfl
  have hDc := hD.sub (ws' := []) [] (by decide) rfl
  have hKc := hK.sub (tys' := []) [] rfl
  have hFc := va_free (wc := []) hD hS hA [] rfl
  refine va_calli (va_runS (As := [.int x1, .int x2, .int x3]) (rest := []) ⟨hx, hb, hml, hown, hts⟩ (x_isBetween l dC dI x1 x2 x3 s.heap.size ) (va_cwS 3 hts (goodIn_app (goodIn_r _ [9, 10, 11] (by decide +kernel) (by decide +kernel)) (goodIn_ca (goodIn_r _ [1, 2, 3, 4, 5, 6, 7, 8] (by decide +kernel) (by decide +kernel)) (bs_in _ _))) rfl rfl rfl (by decide +kernel) ⟨(Nat.le_of_ble_eq_true rfl), (Nat.le_of_ble_eq_true rfl)⟩) ⟨fun a U g mk q => by obtain ⟨q0, q1, qP, qK, qD⟩ := q; exact ⟨q0, q1, qP, va_K.moved (u := U) (U := U.calling g mk a) (Vm.Alike.refl U.vm) qK, qD⟩, fun U hU hW => ⟨rfl, by rw [hU], by rw [hU]; exact hPc, va_K.moved hW.alike hKc, hDc.weaken (fun _ _ _ _ => trivial)⟩⟩ rfl rfl hl.1 rfl (lv_room (Nat.le_of_ble_eq_true rfl)) dX11_inRectangle_12 ⟨(Nat.le_of_ble_eq_true rfl), (Nat.le_of_ble_eq_true rfl)⟩) hS (fun q _ h => hFc q h) hFc (fun r5 u t H1 locs ht hvm hw6 hB hz1 hk1 hS => ?_)
  have hP1 : va_P (dC, dI) vwCl [] H1 := nilP
  have hD1 : va_D (va_A [] s.heap.size) [] := nilD
  have hK := hK
  obtain ⟨hP, hD⟩ := va_join (wr := []) (w1 := []) hP hD [] [] rfl rfl (by decide) (by decide) hk1 hFc hP1 hD1
  generalize H1 = H at hP hS ⊢
  have hP : va_P (dC, dI) vwCl [] H := hP
  have hD : va_D A [] := hD
  try dsimp only at hw6
  rcases hw6 with ⟨rfl, hc7⟩ | ⟨rfl, hc7⟩
  · refine lv_if_eq (tgt := 40) hx hb dX11_inRectangle_15 (by decide) (fun c8 => absurd c8 (by decide)) (fun c8 => ?_)
    refine lv_iload_n hx hb dX11_inRectangle_18 rfl (lv_at hl 0 rfl) ?_
    refine lv_bipush (v := 12) hx hb dX11_inRectangle_19 (by decide) ?_
    refine lv_idiv hx hb dX11_inRectangle_21 (by decide) ?_
    refine lv_topi (fun x9 ex9 => ?_)
    refine lv_iload_n hx hb dX11_inRectangle_22 rfl (lv_at hl 1 rfl) ?_
    refine lv_bipush (v := 12) hx hb dX11_inRectangle_23 (by decide) ?_
    refine lv_idiv hx hb dX11_inRectangle_25 (by decide) ?_
    refine lv_topi (fun x10 ex10 => ?_)
    refine lv_iload_n hx hb dX11_inRectangle_26 rfl (lv_at hl 2 rfl) ?_
    refine lv_bipush (v := 12) hx hb dX11_inRectangle_27 (by decide) ?_
    refine lv_idiv hx hb dX11_inRectangle_29 (by decide) ?_
    refine lv_topi (fun x11 ex11 => ?_)
    have hPc := hP.sub (ws' := []) [] rfl
    have hDc := hD.sub (ws' := []) [] (by decide) rfl
    have hKc := hK.sub (tys' := []) [] rfl
    have hFc := va_free (wc := []) hD hS hA [] rfl
    refine va_calli (va_runS (As := [.int x9, .int x10, .int x11]) (rest := []) ⟨hx, hb, hml, hown, hts⟩ (x_isBetween l dC dI x9 x10 x11 H.size ) (va_cwS 3 hts (goodIn_app (goodIn_r _ [9, 10, 11] (by decide +kernel) (by decide +kernel)) (goodIn_ca (goodIn_r _ [1, 2, 3, 4, 5, 6, 7, 8] (by decide +kernel) (by decide +kernel)) (bs_in _ _))) rfl rfl rfl (by decide +kernel) ⟨(Nat.le_of_ble_eq_true rfl), (Nat.le_of_ble_eq_true rfl)⟩) ⟨fun a U g mk q => by obtain ⟨q0, q1, qP, qK, qD⟩ := q; exact ⟨q0, q1, qP, va_K.moved (u := U) (U := U.calling g mk a) (Vm.Alike.refl U.vm) qK, qD⟩, fun U hU hW => ⟨rfl, by rw [hU], by rw [hU]; exact hPc, va_K.moved hW.alike hKc, hDc.weaken (fun _ _ _ _ => trivial)⟩⟩ rfl rfl hl.1 rfl (lv_room (Nat.le_of_ble_eq_true rfl)) dX11_inRectangle_30 ⟨(Nat.le_of_ble_eq_true rfl), (Nat.le_of_ble_eq_true rfl)⟩) hS (fun q _ h => hFc q h) hFc (fun r13 u t H1 locs ht hvm hw14 hB hz1 hk1 hS => ?_)
    have hP1 : va_P (dC, dI) vwCl [] H1 := nilP
    have hD1 : va_D (va_A [] H.size) [] := nilD
    have hK := hK
    obtain ⟨hP, hD⟩ := va_join (wr := []) (w1 := []) hP hD [] [] rfl rfl (by decide) (by decide) hk1 hFc hP1 hD1
    generalize H1 = H at hP hS ⊢
    have hP : va_P (dC, dI) vwCl [] H := hP
    have hD : va_D A [] := hD
    try dsimp only at hw14
    rcases hw14 with ⟨rfl, hc15⟩ | ⟨rfl, hc15⟩
    · refine lv_if_eq (tgt := 40) hx hb dX11_inRectangle_33 (by decide) (fun c16 => absurd c16 (by decide)) (fun c16 => ?_)
      refine lv_iconst (v := 1) hx hb dX11_inRectangle_36 (by decide) ?_
      refine lv_goto (tgt := 41) hx hb dX11_inRectangle_37 (by decide) ?_
      exact W.zret (v := 1) hx hb hr (by decide) (fun t ht hW => ⟨⟨1, (), rfl, (by subst_vars; exact Or.inl ⟨rfl, hc7, hc15⟩), trivial⟩, hS.F ht⟩) hS.2.2 dX11_inRectangle_41
    · refine lv_if_eq (tgt := 40) hx hb dX11_inRectangle_33 (by decide) (fun c17 => ?_) (fun c17 => absurd c17 (by decide))
      refine lv_iconst (v := 0) hx hb dX11_inRectangle_40 (by decide) ?_
      exact W.zret (v := 0) hx hb hr (by decide) (fun t ht hW => ⟨⟨0, (), rfl, (by subst_vars; exact Or.inr ⟨rfl, fun h => hc15 h.2⟩), trivial⟩, hS.F ht⟩) hS.2.2 dX11_inRectangle_41
  · refine lv_if_eq (tgt := 40) hx hb dX11_inRectangle_15 (by decide) (fun c18 => ?_) (fun c18 => absurd c18 (by decide))
    refine lv_iconst (v := 0) hx hb dX11_inRectangle_40 (by decide) ?_
    exact W.zret (v := 0) hx hb hr (by decide) (fun t ht hW => ⟨⟨0, (), rfl, (by subst_vars; exact Or.inr ⟨rfl, fun h => hc7 h.1⟩), trivial⟩, hS.F ht⟩) hS.2.2 dX11_inRectangle_41
def w_m_isIn : List Cond := .code yX12_isIn cX12_isIn 5 (some .boolean) :: ([.methodLink RX12 207 Lib.Math.min.name, .static Lib.Math.min.name, .initialized "java/lang/Math", .code Lib.Math.min.name Lib.Math.min.code 2 (some .int), .methodLink RX12 211 Lib.Math.max.name, .static Lib.Math.max.name, .code Lib.Math.max.name Lib.Math.max.code 2 (some .int), .code yX12_in cX12_in 3 (some .boolean), .methodLink RX12 197 yX12_in, .static yX12_in, .initialized RX12] ++ bs)
set_option maxHeartbeats 4000000 in
set_option maxRecDepth 100000 in
theorem m_isIn (l : Launch) (dC : Nat → ClassId) (dI : Nat → Nat → Nat) (sq fr to : Int32) (sz : Nat) : Met l yX12_isIn w_m_isIn ({ frames := 1, cells := 0, slots := 0, locals := 40 }) (va_Pc [.int sq, .int fr, .int to] (fun U => U.heap.size = sz ∧ va_P (dC, dI) vwCl [] U.heap ∧ va_K (dC, dI) vwCl [] U ∧ va_D (fun _ => True) [])) (va_Qi (fun (r : Int32) (u : Unit) => (r = 1 ∧ Rect sq fr to) ∨ (r = 0 ∧ ¬ Rect sq fr to)) (fun (_ : Unit) (_ : State) => True) (va_A [] sz)) 0 0 (va_A [] sz) := by
  refine Met.ofW (cc := cX12_isIn) (maxL := 5) (ret := (some .boolean)) (by decide) rfl ?_
  intro p e s m args below meth c s₁ B hml hv
  obtain ⟨rfl, hsz, hP, hK, hD0⟩ := hv
  have hx := B.exec
  have hb := B.bytes
  have hr := B.returns
  have hts := atoms_spec (ws := w_m_isIn) B.pre
  have hown : s.vm.findClass RX12 = some m.cls := findClass_of_methodNamed B.named
  have hlocks := B.notSynchronized
  subst hsz
  have hD := hD0.self (sz := s.heap.size)
  generalize hAe : va_A [] s.heap.size = A at hD ⊢
  have hA : ∀ q : Nat, s.heap.size ≤ q → A q := fun q h => by rw [← hAe]; exact Or.inr h
  have hS : va_S A s.heap s.heap [] := va_S.rf
  have hP : va_P (dC, dI) vwCl [] s.heap := hP
  have hl := lv_entry ([.int sq, .int fr, .int to]) (n := 5) (Nat.le_of_ble_eq_true rfl)
  rw [lg_entry_eq]
  generalize (lg_sl ([.int sq, .int fr, .int to]) ++ List.replicate (5 - (lg_sl ([.int sq, .int fr, .int to])).length) Slot.unset).toArray = ls at hl ⊢
  have hl : lv_has ls 5 [(0, .int sq), (1, .int fr), (2, .int to)] := hl
  refine lv_iload_n hx hb dX12_isIn_0 rfl (lv_at hl 0 rfl) ?_
  refine lv_bipush (v := 12) hx hb dX12_isIn_1 (by decide) ?_
  refine lv_irem hx hb dX12_isIn_3 (by decide) ?_
  refine lv_topi (fun x1 ex1 => ?_)
  refine lv_istore_n (lv' := [(3, .int x1), (0, .int sq), (1, .int fr), (2, .int to)]) hx hb dX12_isIn_4 rfl hl (by decide) rfl (fun ls hl => ?_)
  refine lv_iload_n hx hb dX12_isIn_5 rfl (lv_at hl 1 rfl) ?_
  refine lv_bipush (v := 12) hx hb dX12_isIn_6 (by decide) ?_
  refine lv_idiv hx hb dX12_isIn_8 (by decide) ?_
  refine lv_topi (fun x2 ex2 => ?_)
  refine lv_istore (lv' := [(4, .int x2), (3, .int x1), (0, .int sq), (1, .int fr), (2, .int to)]) hx hb dX12_isIn_9 hl (by decide) rfl (fun ls hl => ?_)
  refine lv_iload_n hx hb dX12_isIn_11 rfl (lv_at hl 1 rfl) ?_
  refine lv_iload_n hx hb dX12_isIn_12 rfl (lv_at hl 3 rfl) ?_
  refine lv_bipush (v := 12) hx hb dX12_isIn_13 (by decide) ?_
  refine lv_irem hx hb dX12_isIn_15 (by decide) ?_
  refine lv_topi (fun x3 ex3 => ?_)
  refine lv_iload_n hx hb dX12_isIn_16 rfl (lv_at hl 4 rfl) ?_
  refine lv_bipush (v := 12) hx hb dX12_isIn_17 (by decide) ?_
  refine lv_irem hx hb dX12_isIn_19 (by decide) ?_
  refine lv_topi (fun x4 ex4 => ?_)
  refine va_mmin hx hb (hml.trans hl.1.symm) hown (ht_at hts 0 rfl) (ht_at hts 1 rfl) (ht_at hts 2 rfl) (ht_at hts 3 rfl) (Nat.le_of_ble_eq_true rfl) (Nat.le_of_ble_eq_true rfl) (Nat.le_of_ble_eq_true rfl) (Nat.le_of_ble_eq_true rfl) dX12_isIn_20 ?_
  refine lv_topi (fun x5 ex5 => ?_)
  refine lv_iload_n hx hb dX12_isIn_23 rfl (lv_at hl 3 rfl) ?_
  refine lv_bipush (v := 12) hx hb dX12_isIn_24 (by decide) ?_
  refine lv_irem hx hb dX12_isIn_26 (by decide) ?_
  refine lv_topi (fun x6 ex6 => ?_)
  refine lv_iload_n hx hb dX12_isIn_27 rfl (lv_at hl 4 rfl) ?_
  refine lv_bipush (v := 12) hx hb dX12_isIn_28 (by decide) ?_
  refine lv_irem hx hb dX12_isIn_30 (by decide) ?_
  refine lv_topi (fun x7 ex7 => ?_)
  refine va_mmax hx hb (hml.trans hl.1.symm) hown (ht_at hts 4 rfl) (ht_at hts 5 rfl) (ht_at hts 2 rfl) (ht_at hts 6 rfl) (Nat.le_of_ble_eq_true rfl) (Nat.le_of_ble_eq_true rfl) (Nat.le_of_ble_eq_true rfl) (Nat.le_of_ble_eq_true rfl) dX12_isIn_31 ?_
  refine lv_topi (fun x8 ex8 => ?_)
  have hPc := hP.sub (ws' := []) [] rfl
  have hDc := hD.sub (ws' := []) [] (by decide) rfl
  have hKc := hK.sub (tys' := []) [] rfl
  have hFc := va_free (wc := []) hD hS hA [] rfl
  refine va_calli (va_runS (As := [.int x1, .int x5, .int x8]) (rest := []) ⟨hx, hb, hml, hown, hts⟩ (c_min_ l dC dI x1 x5 x8 s.heap.size ) (va_cwS 3 hts (goodIn_app (goodIn_r _ [9, 10, 11] (by decide +kernel) (by decide +kernel)) (goodIn_ca (goodIn_r _ [8] (by decide +kernel) (by decide +kernel)) (bs_in _ _))) rfl rfl rfl (by decide +kernel) ⟨(Nat.le_of_ble_eq_true rfl), (Nat.le_of_ble_eq_true rfl)⟩) ⟨fun a U g mk q => by obtain ⟨q0, q1, qP, qK, qD⟩ := q; exact ⟨q0, q1, qP, va_K.moved (u := U) (U := U.calling g mk a) (Vm.Alike.refl U.vm) qK, qD⟩, fun U hU hW => ⟨rfl, by rw [hU], by rw [hU]; exact hPc, va_K.moved hW.alike hKc, hDc.weaken (fun _ _ _ _ => trivial)⟩⟩ rfl rfl hl.1 rfl (lv_room (Nat.le_of_ble_eq_true rfl)) dX12_isIn_34 ⟨(Nat.le_of_ble_eq_true rfl), (Nat.le_of_ble_eq_true rfl)⟩) hS (fun q _ h => hFc q h) hFc (fun r10 u t H1 locs ht hvm hw11 hB hz1 hk1 hS => ?_)
  have hP1 : va_P (dC, dI) vwCl [] H1 := nilP
  have hD1 : va_D (va_A [] s.heap.size) [] := nilD
  have hK := hK
  obtain ⟨hP, hD⟩ := va_join (wr := []) (w1 := []) hP hD [] [] rfl rfl (by decide) (by decide) hk1 hFc hP1 hD1
  generalize H1 = H at hP hS ⊢
  have hP : va_P (dC, dI) vwCl [] H := hP
  have hD : va_D A [] := hD
  try dsimp only at hw11
  by_cases hc12 : x5 ≤ x1 ∧ x1 ≤ x8
  · rw [if_pos hc12] at hw11
    subst hw11
    refine lv_if_eq (tgt := 74) hx hb dX12_isIn_37 (by decide) (fun c13 => absurd c13 (by decide)) (fun c13 => ?_)
    refine lv_iload hx hb dX12_isIn_40 (lv_at hl 0 rfl) ?_
    refine lv_iload_n hx hb dX12_isIn_42 rfl (lv_at hl 3 rfl) ?_
    refine lv_bipush (v := 12) hx hb dX12_isIn_43 (by decide) ?_
    refine lv_idiv hx hb dX12_isIn_45 (by decide) ?_
    refine lv_topi (fun x14 ex14 => ?_)
    refine lv_iload_n hx hb dX12_isIn_46 rfl (lv_at hl 4 rfl) ?_
    refine lv_bipush (v := 12) hx hb dX12_isIn_47 (by decide) ?_
    refine lv_idiv hx hb dX12_isIn_49 (by decide) ?_
    refine lv_topi (fun x15 ex15 => ?_)
    refine va_mmin hx hb (hml.trans hl.1.symm) hown (ht_at hts 0 rfl) (ht_at hts 1 rfl) (ht_at hts 2 rfl) (ht_at hts 3 rfl) (Nat.le_of_ble_eq_true rfl) (Nat.le_of_ble_eq_true rfl) (Nat.le_of_ble_eq_true rfl) (Nat.le_of_ble_eq_true rfl) dX12_isIn_50 ?_
    refine lv_topi (fun x16 ex16 => ?_)
    refine lv_iload_n hx hb dX12_isIn_53 rfl (lv_at hl 3 rfl) ?_
    refine lv_bipush (v := 12) hx hb dX12_isIn_54 (by decide) ?_
    refine lv_idiv hx hb dX12_isIn_56 (by decide) ?_
    refine lv_topi (fun x17 ex17 => ?_)
    refine lv_iload_n hx hb dX12_isIn_57 rfl (lv_at hl 4 rfl) ?_
    refine lv_bipush (v := 12) hx hb dX12_isIn_58 (by decide) ?_
    refine lv_idiv hx hb dX12_isIn_60 (by decide) ?_
    refine lv_topi (fun x18 ex18 => ?_)
    refine va_mmax hx hb (hml.trans hl.1.symm) hown (ht_at hts 4 rfl) (ht_at hts 5 rfl) (ht_at hts 2 rfl) (ht_at hts 6 rfl) (Nat.le_of_ble_eq_true rfl) (Nat.le_of_ble_eq_true rfl) (Nat.le_of_ble_eq_true rfl) (Nat.le_of_ble_eq_true rfl) dX12_isIn_61 ?_
    refine lv_topi (fun x19 ex19 => ?_)
    have hPc := hP.sub (ws' := []) [] rfl
    have hDc := hD.sub (ws' := []) [] (by decide) rfl
    have hKc := hK.sub (tys' := []) [] rfl
    have hFc := va_free (wc := []) hD hS hA [] rfl
    refine va_calli (va_runS (As := [.int x2, .int x16, .int x19]) (rest := []) ⟨hx, hb, hml, hown, hts⟩ (c_min_ l dC dI x2 x16 x19 H.size ) (va_cwS 3 hts (goodIn_app (goodIn_r _ [9, 10, 11] (by decide +kernel) (by decide +kernel)) (goodIn_ca (goodIn_r _ [8] (by decide +kernel) (by decide +kernel)) (bs_in _ _))) rfl rfl rfl (by decide +kernel) ⟨(Nat.le_of_ble_eq_true rfl), (Nat.le_of_ble_eq_true rfl)⟩) ⟨fun a U g mk q => by obtain ⟨q0, q1, qP, qK, qD⟩ := q; exact ⟨q0, q1, qP, va_K.moved (u := U) (U := U.calling g mk a) (Vm.Alike.refl U.vm) qK, qD⟩, fun U hU hW => ⟨rfl, by rw [hU], by rw [hU]; exact hPc, va_K.moved hW.alike hKc, hDc.weaken (fun _ _ _ _ => trivial)⟩⟩ rfl rfl hl.1 rfl (lv_room (Nat.le_of_ble_eq_true rfl)) dX12_isIn_64 ⟨(Nat.le_of_ble_eq_true rfl), (Nat.le_of_ble_eq_true rfl)⟩) hS (fun q _ h => hFc q h) hFc (fun r21 u t H1 locs ht hvm hw22 hB hz1 hk1 hS => ?_)
    have hP1 : va_P (dC, dI) vwCl [] H1 := nilP
    have hD1 : va_D (va_A [] H.size) [] := nilD
    have hK := hK
    obtain ⟨hP, hD⟩ := va_join (wr := []) (w1 := []) hP hD [] [] rfl rfl (by decide) (by decide) hk1 hFc hP1 hD1
    generalize H1 = H at hP hS ⊢
    have hP : va_P (dC, dI) vwCl [] H := hP
    have hD : va_D A [] := hD
    try dsimp only at hw22
    by_cases hc23 : x16 ≤ x2 ∧ x2 ≤ x19
    · rw [if_pos hc23] at hw22
      subst hw22
      refine lv_if_eq (tgt := 74) hx hb dX12_isIn_67 (by decide) (fun c24 => absurd c24 (by decide)) (fun c24 => ?_)
      refine lv_iconst (v := 1) hx hb dX12_isIn_70 (by decide) ?_
      refine lv_goto (tgt := 75) hx hb dX12_isIn_71 (by decide) ?_
      exact W.zret (v := 1) hx hb hr (by decide) (fun t ht hW => ⟨⟨1, (), rfl, (by subst_vars; exact Or.inl ⟨rfl, hc12, hc23⟩), trivial⟩, hS.F ht⟩) hS.2.2 dX12_isIn_75
    · rw [if_neg hc23] at hw22
      subst hw22
      refine lv_if_eq (tgt := 74) hx hb dX12_isIn_67 (by decide) (fun c25 => ?_) (fun c25 => absurd c25 (by decide))
      refine lv_iconst (v := 0) hx hb dX12_isIn_74 (by decide) ?_
      exact W.zret (v := 0) hx hb hr (by decide) (fun t ht hW => ⟨⟨0, (), rfl, (by subst_vars; exact Or.inr ⟨rfl, fun h => hc23 h.2⟩), trivial⟩, hS.F ht⟩) hS.2.2 dX12_isIn_75
  · rw [if_neg hc12] at hw11
    subst hw11
    refine lv_if_eq (tgt := 74) hx hb dX12_isIn_37 (by decide) (fun c26 => ?_) (fun c26 => absurd c26 (by decide))
    refine lv_iconst (v := 0) hx hb dX12_isIn_74 (by decide) ?_
    exact W.zret (v := 0) hx hb hr (by decide) (fun t ht hW => ⟨⟨0, (), rfl, (by subst_vars; exact Or.inr ⟨rfl, fun h => hc12 h.1⟩), trivial⟩, hS.F ht⟩) hS.2.2 dX12_isIn_75
