def w_r_anHour : List Cond := .code yX12_anHour cX12_anHour 6 none :: ([.fieldLink RX12 9 "SeaLandModel" "world" "[I", .code yX12_hour cX12_hour 1 (some .int), .methodLink RX12 228 yX12_hour, .instanceMethod yX12_hour, .selects RX12 yX12_hour yX12_hour, .initialized RX12, .code yX12_outside cX12_outside 4 (some .int), .methodLink RX12 247 yX12_outside, .instanceMethod yX12_outside, .selects RX12 yX12_outside yX12_outside, .code yX12_rain cX12_rain 3 (some .int), .code yX12_telling cX12_telling 6 (some .int), .methodLink RX12 243 yX12_telling, .instanceMethod yX12_telling, .selects RX12 yX12_telling yX12_telling, .methodLink RX12 253 yX12_rain, .instanceMethod yX12_rain, .selects RX12 yX12_rain yX12_rain, .code yX12_wind cX12_wind 7 (some .int), .methodLink RX12 250 yX12_wind, .instanceMethod yX12_wind, .selects RX12 yX12_wind yX12_wind, .code yX12_ditches cX12_ditches 5 none, .fieldLink RX12 16 "SeaLandModel" "moves" "[I", .code yX12_hasDitch cX12_hasDitch 2 (some .boolean), .code yX12_isLand cX12_isLand 2 (some .boolean), .methodLink RX12 235 yX12_isLand, .instanceMethod yX12_isLand, .selects RX12 yX12_isLand yX12_isLand, .methodLink RX12 298 yX12_hasDitch, .instanceMethod yX12_hasDitch, .selects RX12 yX12_hasDitch yX12_hasDitch, .methodLink RX12 310 yX12_ditches, .instanceMethod yX12_ditches, .selects RX12 yX12_ditches yX12_ditches, .code yX12_writesRow cX12_writesRow 2 none, .fieldLink RX12 238 "SeaLandModel" "rows" "I", .fieldLink RX12 25 "SeaLandModel" "rowTold" "[I", .code yX12_level cX12_level 2 (some .int), .methodLink RX12 285 yX12_level, .instanceMethod yX12_level, .selects RX12 yX12_level yX12_level, .fieldLink RX12 28 "SeaLandModel" "rowTrue" "[I", .methodLink RX12 319 yX12_writesRow, .instanceMethod yX12_writesRow, .selects RX12 yX12_writesRow yX12_writesRow, .code yX12_dayEnds cX12_dayEnds 3 none, .methodLink RX12 316 yX12_dayEnds, .instanceMethod yX12_dayEnds, .selects RX12 yX12_dayEnds yX12_dayEnds] ++ bs)
set_option maxHeartbeats 4000000 in
set_option maxRecDepth 100000 in
theorem r_anHour (l : Launch) (dC : Nat → ClassId) (dI : Nat → Nat → Nat) (h0 : Nat) (q : Nat → Nat) (cm : Nat → ClassId) (ra h : Nat) (g mv f0 f1 : Nat → Int32) (sz : Nat) (hz : ∀ j, j ≠ 1429 → g j = 0) (hv : g 1429 = nI h) (hh : h < 1000000) (hra : ra ≤ 24) (hm : ∀ j, mv j = 0) : Met l yX12_anHour w_r_anHour ({ frames := 3, cells := 0, slots := 0, locals := 66 }) (va_Pc [.ref h0] (fun U => U.heap.size = sz ∧ va_P (dC, dI) vwCl [(h0, .inr (15, mG q (nI ra))), (q 1, .inl ((cm 1), 1749, .inl g)), (q 4, .inl ((cm 4), 96, .inl mv)), (q 7, .inl ((cm 7), 2304, .inl f0)), (q 8, .inl ((cm 8), 2304, .inl f1))] U.heap ∧ va_K (dC, dI) vwCl [((cm 1), .int), ((cm 4), .int), ((cm 7), .int), ((cm 8), .int)] U ∧ va_D (fun _ => True) [(h0, .inr (15, mG q (nI ra))), (q 1, .inl ((cm 1), 1749, .inl g)), (q 4, .inl ((cm 4), 96, .inl mv)), (q 7, .inl ((cm 7), 2304, .inl f0)), (q 8, .inl ((cm 8), 2304, .inl f1))])) (va_Qv (fun (u : Nat × (Nat → Int32) × (Nat → Int32) × (Nat → Int32) × (Nat → Int32)) => (u.1 ≤ 24 ∧ u.2.1 1429 = nI (h + 1)) ∧ (∀ j, j ≠ 1429 → u.2.1 j = 0) ∧ ∀ j, u.2.2.1 j = 0) (fun (u : Nat × (Nat → Int32) × (Nat → Int32) × (Nat → Int32) × (Nat → Int32)) (t : State) => match u with | (rb, gb, mb, k0, k1) => va_P (dC, dI) vwCl [(h0, .inr (15, mG q (nI rb))), (q 1, .inl ((cm 1), 1749, .inl gb)), (q 4, .inl ((cm 4), 96, .inl mb)), (q 7, .inl ((cm 7), 2304, .inl k0)), (q 8, .inl ((cm 8), 2304, .inl k1))] t.heap ∧ va_D (va_A [(h0, .inr (15, mG q (nI ra))), (q 1, .inl ((cm 1), 1749, .inl g)), (q 4, .inl ((cm 4), 96, .inl mv)), (q 7, .inl ((cm 7), 2304, .inl f0)), (q 8, .inl ((cm 8), 2304, .inl f1))] sz) [(h0, .inr (15, mG q (nI rb))), (q 1, .inl ((cm 1), 1749, .inl gb)), (q 4, .inl ((cm 4), 96, .inl mb)), (q 7, .inl ((cm 7), 2304, .inl k0)), (q 8, .inl ((cm 8), 2304, .inl k1))]) (va_A [(h0, .inr (15, mG q (nI ra))), (q 1, .inl ((cm 1), 1749, .inl g)), (q 4, .inl ((cm 4), 96, .inl mv)), (q 7, .inl ((cm 7), 2304, .inl f0)), (q 8, .inl ((cm 8), 2304, .inl f1))] sz)) 0 0 (va_A [(h0, .inr (15, mG q (nI ra))), (q 1, .inl ((cm 1), 1749, .inl g)), (q 4, .inl ((cm 4), 96, .inl mv)), (q 7, .inl ((cm 7), 2304, .inl f0)), (q 8, .inl ((cm 8), 2304, .inl f1))] sz) := by
  refine Met.ofW (cc := cX12_anHour) (maxL := 6) (ret := none) (by decide) rfl ?_
  intro p e s m args below meth c s₁ B hml hv
  obtain ⟨rfl, hsz, hP, hK, hD0⟩ := hv
  have hx := B.exec
  have hb := B.bytes
  have hr := B.returns
  have hts := atoms_spec (ws := w_r_anHour) B.pre
  have hown : s.vm.findClass RX12 = some m.cls := findClass_of_methodNamed B.named
  have hlocks := B.notSynchronized
  subst hsz
  have hD := hD0.self (sz := s.heap.size)
  generalize hAe : va_A [(h0, .inr (15, mG q (nI ra))), (q 1, .inl ((cm 1), 1749, .inl g)), (q 4, .inl ((cm 4), 96, .inl mv)), (q 7, .inl ((cm 7), 2304, .inl f0)), (q 8, .inl ((cm 8), 2304, .inl f1))] s.heap.size = A at hD ⊢
  have hA : ∀ q : Nat, s.heap.size ≤ q → A q := fun q h => by rw [← hAe]; exact Or.inr h
  have hS : va_S A s.heap s.heap [] := va_S.rf
  have hP : va_P (dC, dI) vwCl [(h0, .inr (15, mG q (nI ra))), (q 1, .inl ((cm 1), 1749, .inl g)), (q 4, .inl ((cm 4), 96, .inl mv)), (q 7, .inl ((cm 7), 2304, .inl f0)), (q 8, .inl ((cm 8), 2304, .inl f1))] s.heap := hP
  have hl := lv_entry ([.ref h0]) (n := 6) (Nat.le_of_ble_eq_true rfl)
  rw [lg_entry_eq]
  generalize (lg_sl ([.ref h0]) ++ List.replicate (6 - (lg_sl ([.ref h0])).length) Slot.unset).toArray = ls at hl ⊢
  have hl : lv_has ls 6 [(0, .ref h0)] := hl
  refine lv_aload_n hx hb dX12_anHour_0 rfl (lv_at hl 0 rfl) ?_
  refine va_get (D := (dC, dI)) (ci := 15) (v := .ref (q 1)) (C := RX12) (T := TX12) (N := 78) hx hb hts bF_X12 hown hK hP 0 rfl rfl 1 (by decide) (ht_at hts 0 rfl) (fun _ h9 => h9) rfl dX12_anHour_1 ?_
  refine lv_sipush (v := 1429) hx hb dX12_anHour_4 (by decide) ?_
  refine lv_dup2_11 hx hb dX12_anHour_7 rfl rfl ?_
  refine va_iald hx hb hK hP 1 0 rfl rfl (by unfold vp_in; decide) dX12_anHour_8 ?_
  refine lv_topi (fun x1 ex1 => ?_)
  obtain rfl : nI h = x1 := (ex1.trans hv).symm
  refine lv_iconst (v := 1) hx hb dX12_anHour_9 (by decide) ?_
  refine lv_iadd hx hb dX12_anHour_10 ?_
  refine lv_topi (fun x2 ex2 => ?_)
  obtain rfl : nI (h + 1) = x2 := (ex2.trans (nI_1 h)).symm
  refine va_iast hx hb hK hP hD hS 1 0 rfl rfl (by unfold vp_in; decide) dX12_anHour_11 (fun H locs hP hD hS => ?_)
  have hP : va_P (dC, dI) vwCl [(h0, .inr (15, mG q (nI ra))), (q 1, .inl ((cm 1), 1749, .inl (upd g (1429 : Int32).toNatClampNeg (nI (h + 1))))), (q 4, .inl ((cm 4), 96, .inl mv)), (q 7, .inl ((cm 7), 2304, .inl f0)), (q 8, .inl ((cm 8), 2304, .inl f1))] H := hP
  have hD : va_D A [(h0, .inr (15, mG q (nI ra))), (q 1, .inl ((cm 1), 1749, .inl (upd g (1429 : Int32).toNatClampNeg (nI (h + 1))))), (q 4, .inl ((cm 4), 96, .inl mv)), (q 7, .inl ((cm 7), 2304, .inl f0)), (q 8, .inl ((cm 8), 2304, .inl f1))] := hD
  have hz2 : ∀ j, j ≠ 1429 → upd g (1429 : Int32).toNatClampNeg (nI (h + 1)) j = 0 := fun j hj => (pk_un hj).trans (hz j hj)
  have hv2 : upd g (1429 : Int32).toNatClampNeg (nI (h + 1)) 1429 = nI (h + 1) := pk_us
  generalize upd g (1429 : Int32).toNatClampNeg (nI (h + 1)) = g2 at hP hD hz2 hv2
  have hP : va_P (dC, dI) vwCl [(h0, .inr (15, mG q (nI ra))), (q 1, .inl ((cm 1), 1749, .inl g2)), (q 4, .inl ((cm 4), 96, .inl mv)), (q 7, .inl ((cm 7), 2304, .inl f0)), (q 8, .inl ((cm 8), 2304, .inl f1))] H := hP
  have hD : va_D A [(h0, .inr (15, mG q (nI ra))), (q 1, .inl ((cm 1), 1749, .inl g2)), (q 4, .inl ((cm 4), 96, .inl mv)), (q 7, .inl ((cm 7), 2304, .inl f0)), (q 8, .inl ((cm 8), 2304, .inl f1))] := hD
  have hp2 : (0 : Int32) ≤ nI (h + 1) := nI_pos' (by omega)
  refine lv_aload_n hx hb dX12_anHour_12 rfl (lv_at hl 0 rfl) ?_
  refine lv_aload_n hx hb dX12_anHour_13 rfl (lv_at hl 0 rfl) ?_
  have hPc := hP.sub (ws' := [(h0, .inr (15, mG q (nI ra))), (q 1, .inl ((cm 1), 1749, .inl g2))]) [0, 1] rfl
  have hDc := hD.sub (ws' := [(h0, .inr (15, mG q (nI ra))), (q 1, .inl ((cm 1), 1749, .inl g2))]) [0, 1] (by decide) rfl
  have hKc := hK.sub (tys' := [((cm 1), .int)]) [0] rfl
  have hFc := va_free (wc := [(h0, .inr (15, mG q (nI ra))), (q 1, .inl ((cm 1), 1749, .inl g2))]) hD hS hA [0, 1] rfl
  refine va_calli (va_runV (As := []) (rest := [.ref h0]) ⟨hx, hb, hml, hown, hts⟩ (r_hour l dC dI h0 q cm (nI ra) g2 (nI (h + 1)) H.size hv2) (cwV 0 hts (goodIn_app (goodIn_r _ [3, 4, 5, 6] (by decide +kernel) (by decide +kernel)) (goodIn_ca (goodIn_r _ [2, 1] (by decide +kernel) (by decide +kernel)) (bs_in _ _))) rfl rfl rfl (by decide +kernel) ⟨(Nat.le_of_ble_eq_true rfl), (Nat.le_of_ble_eq_true rfl)⟩) ⟨fun a U g mk q => by obtain ⟨q0, q1, qP, qK, qD⟩ := q; exact ⟨q0, q1, qP, va_K.moved (u := U) (U := U.calling g mk a) (Vm.Alike.refl U.vm) qK, qD⟩, va_recv hKc hPc (ci := 15) (q0 := 0) rfl rfl, fun U hU hW => ⟨rfl, by rw [hU], by rw [hU]; exact hPc, va_K.moved hW.alike hKc, hDc.weaken (fun _ _ _ _ => trivial)⟩⟩ rfl rfl hl.1 rfl (lv_room (Nat.le_of_ble_eq_true rfl)) dX12_anHour_14 ⟨(Nat.le_of_ble_eq_true rfl), (Nat.le_of_ble_eq_true rfl)⟩) hS (fun q _ h => hFc q h) hFc (fun r4 u t H1 locs ht hvm hw5 hB hz1 hk1 hS => ?_)
  obtain ⟨hP1, hD1⟩ := hB
  rw [ht] at hP1
  obtain ⟨hP, hD⟩ := va_join (wr := [(q 4, .inl ((cm 4), 96, .inl mv)), (q 7, .inl ((cm 7), 2304, .inl f0)), (q 8, .inl ((cm 8), 2304, .inl f1))]) (w1 := [(h0, .inr (15, mG q (nI ra))), (q 1, .inl ((cm 1), 1749, .inl g2))]) hP hD [0, 1] [2, 3, 4] rfl rfl (by decide) (by decide) hk1 hFc hP1 hD1
  generalize H1 = H at hP hS ⊢
  have hP : va_P (dC, dI) vwCl [(q 4, .inl ((cm 4), 96, .inl mv)), (q 7, .inl ((cm 7), 2304, .inl f0)), (q 8, .inl ((cm 8), 2304, .inl f1)), (h0, .inr (15, mG q (nI ra))), (q 1, .inl ((cm 1), 1749, .inl g2))] H := hP
  have hD : va_D A [(q 4, .inl ((cm 4), 96, .inl mv)), (q 7, .inl ((cm 7), 2304, .inl f0)), (q 8, .inl ((cm 8), 2304, .inl f1)), (h0, .inr (15, mG q (nI ra))), (q 1, .inl ((cm 1), 1749, .inl g2))] := hD
  try dsimp only at hw5
  obtain rfl : (nI (h + 1)) = r4 := (hw5).symm
  have hPc := hP.sub (ws' := [(h0, .inr (15, mG q (nI ra))), (q 1, .inl ((cm 1), 1749, .inl g2))]) [3, 4] rfl
  have hDc := hD.sub (ws' := [(h0, .inr (15, mG q (nI ra))), (q 1, .inl ((cm 1), 1749, .inl g2))]) [3, 4] (by decide) rfl
  have hKc := hK.sub (tys' := [((cm 1), .int)]) [0] rfl
  have hFc := va_free (wc := [(h0, .inr (15, mG q (nI ra))), (q 1, .inl ((cm 1), 1749, .inl g2))]) hD hS hA [3, 4] rfl
  refine va_calli (va_runV (As := [.int (nI (h + 1))]) (rest := []) ⟨hx, hb, hml, hown, hts⟩ (r_outside l dC dI h0 q cm (nI ra) g2 (nI (h + 1)) H.size hz2 hp2) (cwV 1 hts (goodIn_app (goodIn_r _ [8, 9, 10, 6] (by decide +kernel) (by decide +kernel)) (goodIn_ca (goodIn_r _ [7, 1] (by decide +kernel) (by decide +kernel)) (bs_in _ _))) rfl rfl rfl (by decide +kernel) ⟨(Nat.le_of_ble_eq_true rfl), (Nat.le_of_ble_eq_true rfl)⟩) ⟨fun a U g mk q => by obtain ⟨q0, q1, qP, qK, qD⟩ := q; exact ⟨q0, q1, qP, va_K.moved (u := U) (U := U.calling g mk a) (Vm.Alike.refl U.vm) qK, qD⟩, va_recv hKc hPc (ci := 15) (q0 := 0) rfl rfl, fun U hU hW => ⟨rfl, by rw [hU], by rw [hU]; exact hPc, va_K.moved hW.alike hKc, hDc.weaken (fun _ _ _ _ => trivial)⟩⟩ rfl rfl hl.1 rfl (lv_room (Nat.le_of_ble_eq_true rfl)) dX12_anHour_17 ⟨(Nat.le_of_ble_eq_true rfl), (Nat.le_of_ble_eq_true rfl)⟩) hS (fun q _ h => hFc q h) hFc (fun r7 u t H1 locs ht hvm hw8 hB hz1 hk1 hS => ?_)
  obtain ⟨hP1, hD1⟩ := hB
  rw [ht] at hP1
  obtain ⟨hP, hD⟩ := va_join (wr := [(q 4, .inl ((cm 4), 96, .inl mv)), (q 7, .inl ((cm 7), 2304, .inl f0)), (q 8, .inl ((cm 8), 2304, .inl f1))]) (w1 := [(h0, .inr (15, mG q (nI ra))), (q 1, .inl ((cm 1), 1749, .inl g2))]) hP hD [3, 4] [0, 1, 2] rfl rfl (by decide) (by decide) hk1 hFc hP1 hD1
  generalize H1 = H at hP hS ⊢
  have hP : va_P (dC, dI) vwCl [(q 4, .inl ((cm 4), 96, .inl mv)), (q 7, .inl ((cm 7), 2304, .inl f0)), (q 8, .inl ((cm 8), 2304, .inl f1)), (h0, .inr (15, mG q (nI ra))), (q 1, .inl ((cm 1), 1749, .inl g2))] H := hP
  have hD : va_D A [(q 4, .inl ((cm 4), 96, .inl mv)), (q 7, .inl ((cm 7), 2304, .inl f0)), (q 8, .inl ((cm 8), 2304, .inl f1)), (h0, .inr (15, mG q (nI ra))), (q 1, .inl ((cm 1), 1749, .inl g2))] := hD
  try dsimp only at hw8
  obtain rfl : 0 = r7 := (hw8).symm
  refine lv_istore_n (lv' := [(1, .int 0), (0, .ref h0)]) hx hb dX12_anHour_20 rfl hl (by decide) rfl (fun ls hl => ?_)
  refine lv_aload_n hx hb dX12_anHour_21 rfl (lv_at hl 1 rfl) ?_
  refine lv_aload_n hx hb dX12_anHour_22 rfl (lv_at hl 1 rfl) ?_
  have hPc := hP.sub (ws' := [(h0, .inr (15, mG q (nI ra))), (q 1, .inl ((cm 1), 1749, .inl g2))]) [3, 4] rfl
  have hDc := hD.sub (ws' := [(h0, .inr (15, mG q (nI ra))), (q 1, .inl ((cm 1), 1749, .inl g2))]) [3, 4] (by decide) rfl
  have hKc := hK.sub (tys' := [((cm 1), .int)]) [0] rfl
  have hFc := va_free (wc := [(h0, .inr (15, mG q (nI ra))), (q 1, .inl ((cm 1), 1749, .inl g2))]) hD hS hA [3, 4] rfl
  refine va_calli (va_runV (As := []) (rest := [.ref h0]) ⟨hx, hb, hml, hown, hts⟩ (r_hour l dC dI h0 q cm (nI ra) g2 (nI (h + 1)) H.size hv2) (cwV 0 hts (goodIn_app (goodIn_r _ [3, 4, 5, 6] (by decide +kernel) (by decide +kernel)) (goodIn_ca (goodIn_r _ [2, 1] (by decide +kernel) (by decide +kernel)) (bs_in _ _))) rfl rfl rfl (by decide +kernel) ⟨(Nat.le_of_ble_eq_true rfl), (Nat.le_of_ble_eq_true rfl)⟩) ⟨fun a U g mk q => by obtain ⟨q0, q1, qP, qK, qD⟩ := q; exact ⟨q0, q1, qP, va_K.moved (u := U) (U := U.calling g mk a) (Vm.Alike.refl U.vm) qK, qD⟩, va_recv hKc hPc (ci := 15) (q0 := 0) rfl rfl, fun U hU hW => ⟨rfl, by rw [hU], by rw [hU]; exact hPc, va_K.moved hW.alike hKc, hDc.weaken (fun _ _ _ _ => trivial)⟩⟩ rfl rfl hl.1 rfl (lv_room (Nat.le_of_ble_eq_true rfl)) dX12_anHour_23 ⟨(Nat.le_of_ble_eq_true rfl), (Nat.le_of_ble_eq_true rfl)⟩) hS (fun q _ h => hFc q h) hFc (fun r10 u t H1 locs ht hvm hw11 hB hz1 hk1 hS => ?_)
  obtain ⟨hP1, hD1⟩ := hB
  rw [ht] at hP1
  obtain ⟨hP, hD⟩ := va_join (wr := [(q 4, .inl ((cm 4), 96, .inl mv)), (q 7, .inl ((cm 7), 2304, .inl f0)), (q 8, .inl ((cm 8), 2304, .inl f1))]) (w1 := [(h0, .inr (15, mG q (nI ra))), (q 1, .inl ((cm 1), 1749, .inl g2))]) hP hD [3, 4] [0, 1, 2] rfl rfl (by decide) (by decide) hk1 hFc hP1 hD1
  generalize H1 = H at hP hS ⊢
  have hP : va_P (dC, dI) vwCl [(q 4, .inl ((cm 4), 96, .inl mv)), (q 7, .inl ((cm 7), 2304, .inl f0)), (q 8, .inl ((cm 8), 2304, .inl f1)), (h0, .inr (15, mG q (nI ra))), (q 1, .inl ((cm 1), 1749, .inl g2))] H := hP
  have hD : va_D A [(q 4, .inl ((cm 4), 96, .inl mv)), (q 7, .inl ((cm 7), 2304, .inl f0)), (q 8, .inl ((cm 8), 2304, .inl f1)), (h0, .inr (15, mG q (nI ra))), (q 1, .inl ((cm 1), 1749, .inl g2))] := hD
  try dsimp only at hw11
  obtain rfl : (nI (h + 1)) = r10 := (hw11).symm
  have hPc := hP.sub (ws' := [(h0, .inr (15, mG q (nI ra))), (q 1, .inl ((cm 1), 1749, .inl g2))]) [3, 4] rfl
  have hDc := hD.sub (ws' := [(h0, .inr (15, mG q (nI ra))), (q 1, .inl ((cm 1), 1749, .inl g2))]) [3, 4] (by decide) rfl
  have hKc := hK.sub (tys' := [((cm 1), .int)]) [0] rfl
  have hFc := va_free (wc := [(h0, .inr (15, mG q (nI ra))), (q 1, .inl ((cm 1), 1749, .inl g2))]) hD hS hA [3, 4] rfl
  refine va_calli (va_runV (As := [.int (nI (h + 1))]) (rest := []) ⟨hx, hb, hml, hown, hts⟩ (r_rain l dC dI h0 q cm (nI ra) g2 (nI (h + 1)) H.size hz2) (cwV 1 hts (goodIn_app (goodIn_r _ [16, 17, 18, 6] (by decide +kernel) (by decide +kernel)) (goodIn_ca (goodIn_r _ [11, 12, 1, 13, 14, 15, 6] (by decide +kernel) (by decide +kernel)) (bs_in _ _))) rfl rfl rfl (by decide +kernel) ⟨(Nat.le_of_ble_eq_true rfl), (Nat.le_of_ble_eq_true rfl)⟩) ⟨fun a U g mk q => by obtain ⟨q0, q1, qP, qK, qD⟩ := q; exact ⟨q0, q1, qP, va_K.moved (u := U) (U := U.calling g mk a) (Vm.Alike.refl U.vm) qK, qD⟩, va_recv hKc hPc (ci := 15) (q0 := 0) rfl rfl, fun U hU hW => ⟨rfl, by rw [hU], by rw [hU]; exact hPc, va_K.moved hW.alike hKc, hDc.weaken (fun _ _ _ _ => trivial)⟩⟩ rfl rfl hl.1 rfl (lv_room (Nat.le_of_ble_eq_true rfl)) dX12_anHour_26 ⟨(Nat.le_of_ble_eq_true rfl), (Nat.le_of_ble_eq_true rfl)⟩) hS (fun q _ h => hFc q h) hFc (fun r13 u t H1 locs ht hvm hw14 hB hz1 hk1 hS => ?_)
  obtain ⟨hP1, hD1⟩ := hB
  rw [ht] at hP1
  obtain ⟨hP, hD⟩ := va_join (wr := [(q 4, .inl ((cm 4), 96, .inl mv)), (q 7, .inl ((cm 7), 2304, .inl f0)), (q 8, .inl ((cm 8), 2304, .inl f1))]) (w1 := [(h0, .inr (15, mG q (nI ra))), (q 1, .inl ((cm 1), 1749, .inl g2))]) hP hD [3, 4] [0, 1, 2] rfl rfl (by decide) (by decide) hk1 hFc hP1 hD1
  generalize H1 = H at hP hS ⊢
  have hP : va_P (dC, dI) vwCl [(q 4, .inl ((cm 4), 96, .inl mv)), (q 7, .inl ((cm 7), 2304, .inl f0)), (q 8, .inl ((cm 8), 2304, .inl f1)), (h0, .inr (15, mG q (nI ra))), (q 1, .inl ((cm 1), 1749, .inl g2))] H := hP
  have hD : va_D A [(q 4, .inl ((cm 4), 96, .inl mv)), (q 7, .inl ((cm 7), 2304, .inl f0)), (q 8, .inl ((cm 8), 2304, .inl f1)), (h0, .inr (15, mG q (nI ra))), (q 1, .inl ((cm 1), 1749, .inl g2))] := hD
  try dsimp only at hw14
  obtain rfl : 0 = r13 := (hw14).symm
  refine lv_istore_n (lv' := [(2, .int 0), (1, .int 0), (0, .ref h0)]) hx hb dX12_anHour_29 rfl hl (by decide) rfl (fun ls hl => ?_)
  refine lv_aload_n hx hb dX12_anHour_30 rfl (lv_at hl 2 rfl) ?_
  refine lv_aload_n hx hb dX12_anHour_31 rfl (lv_at hl 2 rfl) ?_
  have hPc := hP.sub (ws' := [(h0, .inr (15, mG q (nI ra))), (q 1, .inl ((cm 1), 1749, .inl g2))]) [3, 4] rfl
  have hDc := hD.sub (ws' := [(h0, .inr (15, mG q (nI ra))), (q 1, .inl ((cm 1), 1749, .inl g2))]) [3, 4] (by decide) rfl
  have hKc := hK.sub (tys' := [((cm 1), .int)]) [0] rfl
  have hFc := va_free (wc := [(h0, .inr (15, mG q (nI ra))), (q 1, .inl ((cm 1), 1749, .inl g2))]) hD hS hA [3, 4] rfl
  refine va_calli (va_runV (As := []) (rest := [.ref h0]) ⟨hx, hb, hml, hown, hts⟩ (r_hour l dC dI h0 q cm (nI ra) g2 (nI (h + 1)) H.size hv2) (cwV 0 hts (goodIn_app (goodIn_r _ [3, 4, 5, 6] (by decide +kernel) (by decide +kernel)) (goodIn_ca (goodIn_r _ [2, 1] (by decide +kernel) (by decide +kernel)) (bs_in _ _))) rfl rfl rfl (by decide +kernel) ⟨(Nat.le_of_ble_eq_true rfl), (Nat.le_of_ble_eq_true rfl)⟩) ⟨fun a U g mk q => by obtain ⟨q0, q1, qP, qK, qD⟩ := q; exact ⟨q0, q1, qP, va_K.moved (u := U) (U := U.calling g mk a) (Vm.Alike.refl U.vm) qK, qD⟩, va_recv hKc hPc (ci := 15) (q0 := 0) rfl rfl, fun U hU hW => ⟨rfl, by rw [hU], by rw [hU]; exact hPc, va_K.moved hW.alike hKc, hDc.weaken (fun _ _ _ _ => trivial)⟩⟩ rfl rfl hl.1 rfl (lv_room (Nat.le_of_ble_eq_true rfl)) dX12_anHour_32 ⟨(Nat.le_of_ble_eq_true rfl), (Nat.le_of_ble_eq_true rfl)⟩) hS (fun q _ h => hFc q h) hFc (fun r16 u t H1 locs ht hvm hw17 hB hz1 hk1 hS => ?_)
  obtain ⟨hP1, hD1⟩ := hB
  rw [ht] at hP1
  obtain ⟨hP, hD⟩ := va_join (wr := [(q 4, .inl ((cm 4), 96, .inl mv)), (q 7, .inl ((cm 7), 2304, .inl f0)), (q 8, .inl ((cm 8), 2304, .inl f1))]) (w1 := [(h0, .inr (15, mG q (nI ra))), (q 1, .inl ((cm 1), 1749, .inl g2))]) hP hD [3, 4] [0, 1, 2] rfl rfl (by decide) (by decide) hk1 hFc hP1 hD1
  generalize H1 = H at hP hS ⊢
  have hP : va_P (dC, dI) vwCl [(q 4, .inl ((cm 4), 96, .inl mv)), (q 7, .inl ((cm 7), 2304, .inl f0)), (q 8, .inl ((cm 8), 2304, .inl f1)), (h0, .inr (15, mG q (nI ra))), (q 1, .inl ((cm 1), 1749, .inl g2))] H := hP
  have hD : va_D A [(q 4, .inl ((cm 4), 96, .inl mv)), (q 7, .inl ((cm 7), 2304, .inl f0)), (q 8, .inl ((cm 8), 2304, .inl f1)), (h0, .inr (15, mG q (nI ra))), (q 1, .inl ((cm 1), 1749, .inl g2))] := hD
  try dsimp only at hw17
  obtain rfl : (nI (h + 1)) = r16 := (hw17).symm
  have hPc := hP.sub (ws' := [(h0, .inr (15, mG q (nI ra))), (q 1, .inl ((cm 1), 1749, .inl g2))]) [3, 4] rfl
  have hDc := hD.sub (ws' := [(h0, .inr (15, mG q (nI ra))), (q 1, .inl ((cm 1), 1749, .inl g2))]) [3, 4] (by decide) rfl
  have hKc := hK.sub (tys' := [((cm 1), .int)]) [0] rfl
  have hFc := va_free (wc := [(h0, .inr (15, mG q (nI ra))), (q 1, .inl ((cm 1), 1749, .inl g2))]) hD hS hA [3, 4] rfl
  refine va_calli (va_runV (As := [.int (nI (h + 1))]) (rest := []) ⟨hx, hb, hml, hown, hts⟩ (r_wind l dC dI h0 q cm (nI ra) g2 (nI (h + 1)) H.size hz2) (cwV 1 hts (goodIn_app (goodIn_r _ [20, 21, 22, 6] (by decide +kernel) (by decide +kernel)) (goodIn_ca (goodIn_r _ [19, 12, 1, 13, 14, 15, 6] (by decide +kernel) (by decide +kernel)) (bs_in _ _))) rfl rfl rfl (by decide +kernel) ⟨(Nat.le_of_ble_eq_true rfl), (Nat.le_of_ble_eq_true rfl)⟩) ⟨fun a U g mk q => by obtain ⟨q0, q1, qP, qK, qD⟩ := q; exact ⟨q0, q1, qP, va_K.moved (u := U) (U := U.calling g mk a) (Vm.Alike.refl U.vm) qK, qD⟩, va_recv hKc hPc (ci := 15) (q0 := 0) rfl rfl, fun U hU hW => ⟨rfl, by rw [hU], by rw [hU]; exact hPc, va_K.moved hW.alike hKc, hDc.weaken (fun _ _ _ _ => trivial)⟩⟩ rfl rfl hl.1 rfl (lv_room (Nat.le_of_ble_eq_true rfl)) dX12_anHour_35 ⟨(Nat.le_of_ble_eq_true rfl), (Nat.le_of_ble_eq_true rfl)⟩) hS (fun q _ h => hFc q h) hFc (fun r19 u t H1 locs ht hvm hw20 hB hz1 hk1 hS => ?_)
  obtain ⟨hP1, hD1⟩ := hB
  rw [ht] at hP1
  obtain ⟨hP, hD⟩ := va_join (wr := [(q 4, .inl ((cm 4), 96, .inl mv)), (q 7, .inl ((cm 7), 2304, .inl f0)), (q 8, .inl ((cm 8), 2304, .inl f1))]) (w1 := [(h0, .inr (15, mG q (nI ra))), (q 1, .inl ((cm 1), 1749, .inl g2))]) hP hD [3, 4] [0, 1, 2] rfl rfl (by decide) (by decide) hk1 hFc hP1 hD1
  generalize H1 = H at hP hS ⊢
  have hP : va_P (dC, dI) vwCl [(q 4, .inl ((cm 4), 96, .inl mv)), (q 7, .inl ((cm 7), 2304, .inl f0)), (q 8, .inl ((cm 8), 2304, .inl f1)), (h0, .inr (15, mG q (nI ra))), (q 1, .inl ((cm 1), 1749, .inl g2))] H := hP
  have hD : va_D A [(q 4, .inl ((cm 4), 96, .inl mv)), (q 7, .inl ((cm 7), 2304, .inl f0)), (q 8, .inl ((cm 8), 2304, .inl f1)), (h0, .inr (15, mG q (nI ra))), (q 1, .inl ((cm 1), 1749, .inl g2))] := hD
  try dsimp only at hw20
  obtain rfl : 0 = r19 := (hw20).symm
  refine lv_istore_n (lv' := [(3, .int 0), (2, .int 0), (1, .int 0), (0, .ref h0)]) hx hb dX12_anHour_38 rfl hl (by decide) rfl (fun ls hl => ?_)
  refine lv_iconst (v := 0) hx hb dX12_anHour_39 (by decide) ?_
  refine lv_istore (lv' := [(4, .int 0), (3, .int 0), (2, .int 0), (1, .int 0), (0, .ref h0)]) hx hb dX12_anHour_40 hl (by decide) rfl (fun ls hl => ?_)
  have key21 : ∀ (n21 i : Nat), i + n21 = 96 → ∀ (H : Heap) (locs : List Loc), va_P (dC, dI) vwCl [(q 4, .inl ((cm 4), 96, .inl mv)), (q 7, .inl ((cm 7), 2304, .inl f0)), (q 8, .inl ((cm 8), 2304, .inl f1)), (h0, .inr (15, mG q (nI ra))), (q 1, .inl ((cm 1), 1749, .inl g2))] H → va_D A [(q 4, .inl ((cm 4), 96, .inl mv)), (q 7, .inl ((cm 7), 2304, .inl f0)), (q 8, .inl ((cm 8), 2304, .inl f1)), (h0, .inr (15, mG q (nI ra))), (q 1, .inl ((cm 1), 1749, .inl g2))] → va_S A s.heap H locs → ∀ ls : Array Slot, lv_has ls 6 [(4, .int (nI i)), (0, .ref h0), (1, .int 0), (2, .int 0), (3, .int 0)] → W p l e (headSpec w_r_anHour ({ frames := 3, cells := 0, slots := 0, locals := 66 })).room s m #[.ref h0] below meth c H locs 0 0 (MQ below (va_Qv (fun (u : Nat × (Nat → Int32) × (Nat → Int32) × (Nat → Int32) × (Nat → Int32)) => (u.1 ≤ 24 ∧ u.2.1 1429 = nI (h + 1)) ∧ (∀ j, j ≠ 1429 → u.2.1 j = 0) ∧ ∀ j, u.2.2.1 j = 0) (fun (u : Nat × (Nat → Int32) × (Nat → Int32) × (Nat → Int32) × (Nat → Int32)) (t : State) => match u with | (rb, gb, mb, k0, k1) => va_P (dC, dI) vwCl [(h0, .inr (15, mG q (nI rb))), (q 1, .inl ((cm 1), 1749, .inl gb)), (q 4, .inl ((cm 4), 96, .inl mb)), (q 7, .inl ((cm 7), 2304, .inl k0)), (q 8, .inl ((cm 8), 2304, .inl k1))] t.heap ∧ va_D A [(h0, .inr (15, mG q (nI rb))), (q 1, .inl ((cm 1), 1749, .inl gb)), (q 4, .inl ((cm 4), 96, .inl mb)), (q 7, .inl ((cm 7), 2304, .inl k0)), (q 8, .inl ((cm 8), 2304, .inl k1))]) A) #[.ref h0] s 0 0 A) (F0 m 42 ls []) := by
    intro n21
    induction n21 with
    | zero =>
      intro i hn21 H locs hP hD hS ls hl
      obtain rfl : 96 = i := by omega
      refine lv_iload hx hb dX12_anHour_42 (lv_at hl 0 rfl) ?_
      refine lv_bipush (v := 96) hx hb dX12_anHour_44 (by decide) ?_
      refine lv_icmp_ge (tgt := 94) hx hb dX12_anHour_46 (by decide) (fun c22 => ?_) (fun c22 => absurd c22 (by decide))
      refine lv_aload_n hx hb dX12_anHour_94 rfl (lv_at hl 1 rfl) ?_
      refine va_get (D := (dC, dI)) (ci := 15) (v := .ref (q 1)) (C := RX12) (T := TX12) (N := 78) hx hb hts bF_X12 hown hK hP 3 rfl rfl 1 (by decide) (ht_at hts 0 rfl) (fun _ h9 => h9) rfl dX12_anHour_95 ?_
      refine lv_sipush (v := 1428) hx hb dX12_anHour_98 (by decide) ?_
      refine va_iald hx hb hK hP 4 0 rfl rfl (by unfold vp_in; decide) dX12_anHour_101 ?_
      refine lv_topi (fun x23 ex23 => ?_)
      obtain rfl : 0 = x23 := (ex23.trans (hz2 _ (by decide))).symm
      refine lv_istore (lv' := [(4, .int 0), (0, .ref h0), (1, .int 0), (2, .int 0), (3, .int 0)]) hx hb dX12_anHour_102 hl (by decide) rfl (fun ls hl => ?_)
      refine lv_iconst (v := 0) hx hb dX12_anHour_104 (by decide) ?_
      refine lv_istore (lv' := [(5, .int 0), (4, .int 0), (0, .ref h0), (1, .int 0), (2, .int 0), (3, .int 0)]) hx hb dX12_anHour_105 hl (by decide) rfl (fun ls hl => ?_)
      refine lv_iload hx hb dX12_anHour_107 (lv_at hl 0 rfl) ?_
      refine lv_iload hx hb dX12_anHour_109 (lv_at hl 1 rfl) ?_
      refine lv_icmp_ge (tgt := 136) hx hb dX12_anHour_111 (by decide) (fun c24 => ?_) (fun c24 => absurd c24 (by decide))
      refine lv_iconst (v := 0) hx hb dX12_anHour_136 (by decide) ?_
      refine lv_istore (lv' := [(5, .int 0), (4, .int 0), (0, .ref h0), (1, .int 0), (2, .int 0), (3, .int 0)]) hx hb dX12_anHour_137 hl (by decide) rfl (fun ls hl => ?_)
      refine lv_iload hx hb dX12_anHour_139 (lv_at hl 0 rfl) ?_
      refine lv_iload hx hb dX12_anHour_141 (lv_at hl 1 rfl) ?_
      refine lv_icmp_ge (tgt := 170) hx hb dX12_anHour_143 (by decide) (fun c25 => ?_) (fun c25 => absurd c25 (by decide))
      refine lv_aload_n hx hb dX12_anHour_170 rfl (lv_at hl 2 rfl) ?_
      have hPc := hP.sub (ws' := [(h0, .inr (15, mG q (nI ra))), (q 1, .inl ((cm 1), 1749, .inl g2)), (q 4, .inl ((cm 4), 96, .inl mv))]) [3, 4, 0] rfl
      have hDc := hD.sub (ws' := [(h0, .inr (15, mG q (nI ra))), (q 1, .inl ((cm 1), 1749, .inl g2)), (q 4, .inl ((cm 4), 96, .inl mv))]) [3, 4, 0] (by decide) rfl
      have hKc := hK.sub (tys' := [((cm 1), .int), ((cm 4), .int)]) [0, 1] rfl
      have hFc := va_free (wc := [(h0, .inr (15, mG q (nI ra))), (q 1, .inl ((cm 1), 1749, .inl g2)), (q 4, .inl ((cm 4), 96, .inl mv))]) hD hS hA [3, 4, 0] rfl
      refine va_callv (va_runV (As := []) (rest := []) ⟨hx, hb, hml, hown, hts⟩ (r_ditches l dC dI h0 q cm (nI ra) g2 mv H.size hz2 hm) (cwV 0 hts (goodIn_app (goodIn_r _ [33, 34, 35, 6] (by decide +kernel) (by decide +kernel)) (goodIn_ca (goodIn_r _ [23, 24, 25, 26, 1, 27, 28, 29, 6, 30, 31, 32] (by decide +kernel) (by decide +kernel)) (bs_in _ _))) rfl rfl rfl (by decide +kernel) ⟨(Nat.le_of_ble_eq_true rfl), (Nat.le_of_ble_eq_true rfl)⟩) ⟨fun a U g mk q => by obtain ⟨q0, q1, qP, qK, qD⟩ := q; exact ⟨q0, q1, qP, va_K.moved (u := U) (U := U.calling g mk a) (Vm.Alike.refl U.vm) qK, qD⟩, va_recv hKc hPc (ci := 15) (q0 := 0) rfl rfl, fun U hU hW => ⟨rfl, by rw [hU], by rw [hU]; exact hPc, va_K.moved hW.alike hKc, hDc.weaken (fun _ _ _ _ => trivial)⟩⟩ rfl rfl hl.1 rfl (lv_room (Nat.le_of_ble_eq_true rfl)) dX12_anHour_171 ⟨(Nat.le_of_ble_eq_true rfl), (Nat.le_of_ble_eq_true rfl)⟩) hS (fun q _ h => hFc q h) hFc (fun u t H1 locs ht hvm hw28 hB hz1 hk1 hS => ?_)
      obtain ⟨mw29, rfl⟩ : ∃ z, z = u := ⟨_, rfl⟩
      obtain ⟨hP1, hD1⟩ := hB
      rw [ht] at hP1
      obtain ⟨hP, hD⟩ := va_join (wr := [(q 7, .inl ((cm 7), 2304, .inl f0)), (q 8, .inl ((cm 8), 2304, .inl f1))]) (w1 := [(h0, .inr (15, mG q (nI ra))), (q 1, .inl ((cm 1), 1749, .inl g2)), (q 4, .inl ((cm 4), 96, .inl mw29))]) hP hD [3, 4, 0] [1, 2] rfl rfl (by decide) (by decide) hk1 hFc hP1 hD1
      generalize H1 = H at hP hS ⊢
      have hP : va_P (dC, dI) vwCl [(q 7, .inl ((cm 7), 2304, .inl f0)), (q 8, .inl ((cm 8), 2304, .inl f1)), (h0, .inr (15, mG q (nI ra))), (q 1, .inl ((cm 1), 1749, .inl g2)), (q 4, .inl ((cm 4), 96, .inl mw29))] H := hP
      have hD : va_D A [(q 7, .inl ((cm 7), 2304, .inl f0)), (q 8, .inl ((cm 8), 2304, .inl f1)), (h0, .inr (15, mG q (nI ra))), (q 1, .inl ((cm 1), 1749, .inl g2)), (q 4, .inl ((cm 4), 96, .inl mw29))] := hD
      try dsimp only at hw28
      refine lv_iconst (v := 0) hx hb dX12_anHour_174 (by decide) ?_
      refine lv_istore (lv' := [(5, .int 0), (4, .int 0), (0, .ref h0), (1, .int 0), (2, .int 0), (3, .int 0)]) hx hb dX12_anHour_175 hl (by decide) rfl (fun ls hl => ?_)
      refine lv_iload hx hb dX12_anHour_177 (lv_at hl 0 rfl) ?_
      refine lv_iload hx hb dX12_anHour_179 (lv_at hl 1 rfl) ?_
      refine lv_icmp_ge (tgt := 219) hx hb dX12_anHour_181 (by decide) (fun c30 => ?_) (fun c30 => absurd c30 (by decide))
      refine lv_aload_n hx hb dX12_anHour_219 rfl (lv_at hl 2 rfl) ?_
      have hPc := hP.sub (ws' := [(h0, .inr (15, mG q (nI ra))), (q 1, .inl ((cm 1), 1749, .inl g2))]) [2, 3] rfl
      have hDc := hD.sub (ws' := [(h0, .inr (15, mG q (nI ra))), (q 1, .inl ((cm 1), 1749, .inl g2))]) [2, 3] (by decide) rfl
      have hKc := hK.sub (tys' := [((cm 1), .int)]) [0] rfl
      have hFc := va_free (wc := [(h0, .inr (15, mG q (nI ra))), (q 1, .inl ((cm 1), 1749, .inl g2))]) hD hS hA [2, 3] rfl
      refine va_calli (va_runV (As := []) (rest := []) ⟨hx, hb, hml, hown, hts⟩ (r_hour l dC dI h0 q cm (nI ra) g2 (nI (h + 1)) H.size hv2) (cwV 0 hts (goodIn_app (goodIn_r _ [3, 4, 5, 6] (by decide +kernel) (by decide +kernel)) (goodIn_ca (goodIn_r _ [2, 1] (by decide +kernel) (by decide +kernel)) (bs_in _ _))) rfl rfl rfl (by decide +kernel) ⟨(Nat.le_of_ble_eq_true rfl), (Nat.le_of_ble_eq_true rfl)⟩) ⟨fun a U g mk q => by obtain ⟨q0, q1, qP, qK, qD⟩ := q; exact ⟨q0, q1, qP, va_K.moved (u := U) (U := U.calling g mk a) (Vm.Alike.refl U.vm) qK, qD⟩, va_recv hKc hPc (ci := 15) (q0 := 0) rfl rfl, fun U hU hW => ⟨rfl, by rw [hU], by rw [hU]; exact hPc, va_K.moved hW.alike hKc, hDc.weaken (fun _ _ _ _ => trivial)⟩⟩ rfl rfl hl.1 rfl (lv_room (Nat.le_of_ble_eq_true rfl)) dX12_anHour_220 ⟨(Nat.le_of_ble_eq_true rfl), (Nat.le_of_ble_eq_true rfl)⟩) hS (fun q _ h => hFc q h) hFc (fun r32 u t H1 locs ht hvm hw33 hB hz1 hk1 hS => ?_)
      obtain ⟨hP1, hD1⟩ := hB
      rw [ht] at hP1
      obtain ⟨hP, hD⟩ := va_join (wr := [(q 7, .inl ((cm 7), 2304, .inl f0)), (q 8, .inl ((cm 8), 2304, .inl f1)), (q 4, .inl ((cm 4), 96, .inl mw29))]) (w1 := [(h0, .inr (15, mG q (nI ra))), (q 1, .inl ((cm 1), 1749, .inl g2))]) hP hD [2, 3] [0, 1, 4] rfl rfl (by decide) (by decide) hk1 hFc hP1 hD1
      generalize H1 = H at hP hS ⊢
      have hP : va_P (dC, dI) vwCl [(q 7, .inl ((cm 7), 2304, .inl f0)), (q 8, .inl ((cm 8), 2304, .inl f1)), (q 4, .inl ((cm 4), 96, .inl mw29)), (h0, .inr (15, mG q (nI ra))), (q 1, .inl ((cm 1), 1749, .inl g2))] H := hP
      have hD : va_D A [(q 7, .inl ((cm 7), 2304, .inl f0)), (q 8, .inl ((cm 8), 2304, .inl f1)), (q 4, .inl ((cm 4), 96, .inl mw29)), (h0, .inr (15, mG q (nI ra))), (q 1, .inl ((cm 1), 1749, .inl g2))] := hD
      try dsimp only at hw33
      obtain rfl : (nI (h + 1)) = r32 := (hw33).symm
      refine lv_bipush (v := 24) hx hb dX12_anHour_223 (by decide) ?_
      refine lv_irem hx hb dX12_anHour_225 (by decide) ?_
      refine lv_topi (fun x34 ex34 => ?_)
      refine lv_if_ne (tgt := 233) hx hb dX12_anHour_226 (by decide) (fun c35 => ?_) (fun c35 => ?_)
      · refine lv_aload_n hx hb dX12_anHour_233 rfl (lv_at hl 2 rfl) ?_
        have hPc := hP.sub (ws' := [(h0, .inr (15, mG q (nI ra))), (q 1, .inl ((cm 1), 1749, .inl g2)), (q 7, .inl ((cm 7), 2304, .inl f0)), (q 8, .inl ((cm 8), 2304, .inl f1))]) [3, 4, 0, 1] rfl
        have hDc := hD.sub (ws' := [(h0, .inr (15, mG q (nI ra))), (q 1, .inl ((cm 1), 1749, .inl g2)), (q 7, .inl ((cm 7), 2304, .inl f0)), (q 8, .inl ((cm 8), 2304, .inl f1))]) [3, 4, 0, 1] (by decide) rfl
        have hKc := hK.sub (tys' := [((cm 1), .int), ((cm 7), .int), ((cm 8), .int)]) [0, 2, 3] rfl
        have hFc := va_free (wc := [(h0, .inr (15, mG q (nI ra))), (q 1, .inl ((cm 1), 1749, .inl g2)), (q 7, .inl ((cm 7), 2304, .inl f0)), (q 8, .inl ((cm 8), 2304, .inl f1))]) hD hS hA [3, 4, 0, 1] rfl
        refine va_callv (va_runV (As := []) (rest := []) ⟨hx, hb, hml, hown, hts⟩ (r_writesRow l dC dI h0 q cm ra (nI (h + 1)) g2 f0 f1 H.size hz2 hv2 hp2 hra) (cwV 0 hts (goodIn_app (goodIn_r _ [44, 45, 46, 6] (by decide +kernel) (by decide +kernel)) (goodIn_ca (goodIn_r _ [36, 37, 38, 39, 26, 1, 27, 28, 29, 6, 2, 3, 4, 5, 7, 8, 9, 10, 40, 41, 42, 43] (by decide +kernel) (by decide +kernel)) (bs_in _ _))) rfl rfl rfl (by decide +kernel) ⟨(Nat.le_of_ble_eq_true rfl), (Nat.le_of_ble_eq_true rfl)⟩) ⟨fun a U g mk q => by obtain ⟨q0, q1, qP, qK, qD⟩ := q; exact ⟨q0, q1, qP, va_K.moved (u := U) (U := U.calling g mk a) (Vm.Alike.refl U.vm) qK, qD⟩, va_recv hKc hPc (ci := 15) (q0 := 0) rfl rfl, fun U hU hW => ⟨rfl, by rw [hU], by rw [hU]; exact hPc, va_K.moved hW.alike hKc, hDc.weaken (fun _ _ _ _ => trivial)⟩⟩ rfl rfl hl.1 rfl (lv_room (Nat.le_of_ble_eq_true rfl)) dX12_anHour_234 ⟨(Nat.le_of_ble_eq_true rfl), (Nat.le_of_ble_eq_true rfl)⟩) hS (fun q _ h => hFc q h) hFc (fun u t H1 locs ht hvm hw38 hB hz1 hk1 hS => ?_)
        obtain ⟨rb39, k040, k141⟩ := u
        obtain ⟨hP1, hD1⟩ := hB
        rw [ht] at hP1
        obtain ⟨hP, hD⟩ := va_join (wr := [(q 4, .inl ((cm 4), 96, .inl mw29))]) (w1 := [(h0, .inr (15, mG q (nI rb39))), (q 1, .inl ((cm 1), 1749, .inl g2)), (q 7, .inl ((cm 7), 2304, .inl k040)), (q 8, .inl ((cm 8), 2304, .inl k141))]) hP hD [3, 4, 0, 1] [2] rfl rfl (by decide) (by decide) hk1 hFc hP1 hD1
        generalize H1 = H at hP hS ⊢
        have hP : va_P (dC, dI) vwCl [(q 4, .inl ((cm 4), 96, .inl mw29)), (h0, .inr (15, mG q (nI rb39))), (q 1, .inl ((cm 1), 1749, .inl g2)), (q 7, .inl ((cm 7), 2304, .inl k040)), (q 8, .inl ((cm 8), 2304, .inl k141))] H := hP
        have hD : va_D A [(q 4, .inl ((cm 4), 96, .inl mw29)), (h0, .inr (15, mG q (nI rb39))), (q 1, .inl ((cm 1), 1749, .inl g2)), (q 7, .inl ((cm 7), 2304, .inl k040)), (q 8, .inl ((cm 8), 2304, .inl k141))] := hD
        try dsimp only at hw38
        exact W.vret hx hb hr (fun t ht hW => ⟨⟨(rb39, g2, mw29, k040, k141), rfl, (by exact ⟨⟨hw38, hv2⟩, hz2, hw28⟩), by rw [ht]; exact hP.sub (ws' := [(h0, .inr (15, mG q (nI rb39))), (q 1, .inl ((cm 1), 1749, .inl g2)), (q 4, .inl ((cm 4), 96, .inl mw29)), (q 7, .inl ((cm 7), 2304, .inl k040)), (q 8, .inl ((cm 8), 2304, .inl k141))]) [1, 2, 0, 3, 4] rfl, hD.sub (ws' := [(h0, .inr (15, mG q (nI rb39))), (q 1, .inl ((cm 1), 1749, .inl g2)), (q 4, .inl ((cm 4), 96, .inl mw29)), (q 7, .inl ((cm 7), 2304, .inl k040)), (q 8, .inl ((cm 8), 2304, .inl k141))]) [1, 2, 0, 3, 4] (by decide) rfl⟩, hS.F ht⟩) hS.2.2 dX12_anHour_237
      · refine lv_aload_n hx hb dX12_anHour_229 rfl (lv_at hl 2 rfl) ?_
        have hPc := hP.sub (ws' := [(h0, .inr (15, mG q (nI ra))), (q 1, .inl ((cm 1), 1749, .inl g2))]) [3, 4] rfl
        have hDc := hD.sub (ws' := [(h0, .inr (15, mG q (nI ra))), (q 1, .inl ((cm 1), 1749, .inl g2))]) [3, 4] (by decide) rfl
        have hKc := hK.sub (tys' := [((cm 1), .int)]) [0] rfl
        have hFc := va_free (wc := [(h0, .inr (15, mG q (nI ra))), (q 1, .inl ((cm 1), 1749, .inl g2))]) hD hS hA [3, 4] rfl
        refine va_callv (va_runV (As := []) (rest := []) ⟨hx, hb, hml, hown, hts⟩ (r_dayEnds l dC dI h0 q cm (nI ra) g2 H.size hz2) (cwV 0 hts (goodIn_app (goodIn_r _ [48, 49, 50, 6] (by decide +kernel) (by decide +kernel)) (goodIn_ca (goodIn_r _ [47, 26, 1, 27, 28, 29, 6] (by decide +kernel) (by decide +kernel)) (bs_in _ _))) rfl rfl rfl (by decide +kernel) ⟨(Nat.le_of_ble_eq_true rfl), (Nat.le_of_ble_eq_true rfl)⟩) ⟨fun a U g mk q => by obtain ⟨q0, q1, qP, qK, qD⟩ := q; exact ⟨q0, q1, qP, va_K.moved (u := U) (U := U.calling g mk a) (Vm.Alike.refl U.vm) qK, qD⟩, va_recv hKc hPc (ci := 15) (q0 := 0) rfl rfl, fun U hU hW => ⟨rfl, by rw [hU], by rw [hU]; exact hPc, va_K.moved hW.alike hKc, hDc.weaken (fun _ _ _ _ => trivial)⟩⟩ rfl rfl hl.1 rfl (lv_room (Nat.le_of_ble_eq_true rfl)) dX12_anHour_230 ⟨(Nat.le_of_ble_eq_true rfl), (Nat.le_of_ble_eq_true rfl)⟩) hS (fun q _ h => hFc q h) hFc (fun u t H1 locs ht hvm hw44 hB hz1 hk1 hS => ?_)
        obtain ⟨hP1, hD1⟩ := hB
        rw [ht] at hP1
        obtain ⟨hP, hD⟩ := va_join (wr := [(q 7, .inl ((cm 7), 2304, .inl f0)), (q 8, .inl ((cm 8), 2304, .inl f1)), (q 4, .inl ((cm 4), 96, .inl mw29))]) (w1 := [(h0, .inr (15, mG q (nI ra))), (q 1, .inl ((cm 1), 1749, .inl g2))]) hP hD [3, 4] [0, 1, 2] rfl rfl (by decide) (by decide) hk1 hFc hP1 hD1
        generalize H1 = H at hP hS ⊢
        have hP : va_P (dC, dI) vwCl [(q 7, .inl ((cm 7), 2304, .inl f0)), (q 8, .inl ((cm 8), 2304, .inl f1)), (q 4, .inl ((cm 4), 96, .inl mw29)), (h0, .inr (15, mG q (nI ra))), (q 1, .inl ((cm 1), 1749, .inl g2))] H := hP
        have hD : va_D A [(q 7, .inl ((cm 7), 2304, .inl f0)), (q 8, .inl ((cm 8), 2304, .inl f1)), (q 4, .inl ((cm 4), 96, .inl mw29)), (h0, .inr (15, mG q (nI ra))), (q 1, .inl ((cm 1), 1749, .inl g2))] := hD
        try dsimp only at hw44
        refine lv_aload_n hx hb dX12_anHour_233 rfl (lv_at hl 2 rfl) ?_
        have hPc := hP.sub (ws' := [(h0, .inr (15, mG q (nI ra))), (q 1, .inl ((cm 1), 1749, .inl g2)), (q 7, .inl ((cm 7), 2304, .inl f0)), (q 8, .inl ((cm 8), 2304, .inl f1))]) [3, 4, 0, 1] rfl
        have hDc := hD.sub (ws' := [(h0, .inr (15, mG q (nI ra))), (q 1, .inl ((cm 1), 1749, .inl g2)), (q 7, .inl ((cm 7), 2304, .inl f0)), (q 8, .inl ((cm 8), 2304, .inl f1))]) [3, 4, 0, 1] (by decide) rfl
        have hKc := hK.sub (tys' := [((cm 1), .int), ((cm 7), .int), ((cm 8), .int)]) [0, 2, 3] rfl
        have hFc := va_free (wc := [(h0, .inr (15, mG q (nI ra))), (q 1, .inl ((cm 1), 1749, .inl g2)), (q 7, .inl ((cm 7), 2304, .inl f0)), (q 8, .inl ((cm 8), 2304, .inl f1))]) hD hS hA [3, 4, 0, 1] rfl
        refine va_callv (va_runV (As := []) (rest := []) ⟨hx, hb, hml, hown, hts⟩ (r_writesRow l dC dI h0 q cm ra (nI (h + 1)) g2 f0 f1 H.size hz2 hv2 hp2 hra) (cwV 0 hts (goodIn_app (goodIn_r _ [44, 45, 46, 6] (by decide +kernel) (by decide +kernel)) (goodIn_ca (goodIn_r _ [36, 37, 38, 39, 26, 1, 27, 28, 29, 6, 2, 3, 4, 5, 7, 8, 9, 10, 40, 41, 42, 43] (by decide +kernel) (by decide +kernel)) (bs_in _ _))) rfl rfl rfl (by decide +kernel) ⟨(Nat.le_of_ble_eq_true rfl), (Nat.le_of_ble_eq_true rfl)⟩) ⟨fun a U g mk q => by obtain ⟨q0, q1, qP, qK, qD⟩ := q; exact ⟨q0, q1, qP, va_K.moved (u := U) (U := U.calling g mk a) (Vm.Alike.refl U.vm) qK, qD⟩, va_recv hKc hPc (ci := 15) (q0 := 0) rfl rfl, fun U hU hW => ⟨rfl, by rw [hU], by rw [hU]; exact hPc, va_K.moved hW.alike hKc, hDc.weaken (fun _ _ _ _ => trivial)⟩⟩ rfl rfl hl.1 rfl (lv_room (Nat.le_of_ble_eq_true rfl)) dX12_anHour_234 ⟨(Nat.le_of_ble_eq_true rfl), (Nat.le_of_ble_eq_true rfl)⟩) hS (fun q _ h => hFc q h) hFc (fun u t H1 locs ht hvm hw47 hB hz1 hk1 hS => ?_)
        obtain ⟨rb48, k049, k150⟩ := u
        obtain ⟨hP1, hD1⟩ := hB
        rw [ht] at hP1
        obtain ⟨hP, hD⟩ := va_join (wr := [(q 4, .inl ((cm 4), 96, .inl mw29))]) (w1 := [(h0, .inr (15, mG q (nI rb48))), (q 1, .inl ((cm 1), 1749, .inl g2)), (q 7, .inl ((cm 7), 2304, .inl k049)), (q 8, .inl ((cm 8), 2304, .inl k150))]) hP hD [3, 4, 0, 1] [2] rfl rfl (by decide) (by decide) hk1 hFc hP1 hD1
        generalize H1 = H at hP hS ⊢
        have hP : va_P (dC, dI) vwCl [(q 4, .inl ((cm 4), 96, .inl mw29)), (h0, .inr (15, mG q (nI rb48))), (q 1, .inl ((cm 1), 1749, .inl g2)), (q 7, .inl ((cm 7), 2304, .inl k049)), (q 8, .inl ((cm 8), 2304, .inl k150))] H := hP
        have hD : va_D A [(q 4, .inl ((cm 4), 96, .inl mw29)), (h0, .inr (15, mG q (nI rb48))), (q 1, .inl ((cm 1), 1749, .inl g2)), (q 7, .inl ((cm 7), 2304, .inl k049)), (q 8, .inl ((cm 8), 2304, .inl k150))] := hD
        try dsimp only at hw47
        exact W.vret hx hb hr (fun t ht hW => ⟨⟨(rb48, g2, mw29, k049, k150), rfl, (by exact ⟨⟨hw47, hv2⟩, hz2, hw28⟩), by rw [ht]; exact hP.sub (ws' := [(h0, .inr (15, mG q (nI rb48))), (q 1, .inl ((cm 1), 1749, .inl g2)), (q 4, .inl ((cm 4), 96, .inl mw29)), (q 7, .inl ((cm 7), 2304, .inl k049)), (q 8, .inl ((cm 8), 2304, .inl k150))]) [1, 2, 0, 3, 4] rfl, hD.sub (ws' := [(h0, .inr (15, mG q (nI rb48))), (q 1, .inl ((cm 1), 1749, .inl g2)), (q 4, .inl ((cm 4), 96, .inl mw29)), (q 7, .inl ((cm 7), 2304, .inl k049)), (q 8, .inl ((cm 8), 2304, .inl k150))]) [1, 2, 0, 3, 4] (by decide) rfl⟩, hS.F ht⟩) hS.2.2 dX12_anHour_237
    | succ n21 ih21 =>
      intro i hn21 H locs hP hD hS ls hl
      have hlt51 : i < 96 := by omega
      refine lv_iload hx hb dX12_anHour_42 (lv_at hl 0 rfl) ?_
      refine lv_bipush (v := 96) hx hb dX12_anHour_44 (by decide) ?_
      refine lv_icmp_ge (tgt := 94) hx hb dX12_anHour_46 (by decide) (fun c52 => absurd c52 (nI_ge (b := 96) hlt51 (by decide))) (fun c52 => ?_)
      refine lv_aload_n hx hb dX12_anHour_49 rfl (lv_at hl 1 rfl) ?_
      refine lv_iload hx hb dX12_anHour_50 (lv_at hl 0 rfl) ?_
      have hPc := hP.sub (ws' := [(h0, .inr (15, mG q (nI ra))), (q 1, .inl ((cm 1), 1749, .inl g2))]) [3, 4] rfl
      have hDc := hD.sub (ws' := [(h0, .inr (15, mG q (nI ra))), (q 1, .inl ((cm 1), 1749, .inl g2))]) [3, 4] (by decide) rfl
      have hKc := hK.sub (tys' := [((cm 1), .int)]) [0] rfl
      have hFc := va_free (wc := [(h0, .inr (15, mG q (nI ra))), (q 1, .inl ((cm 1), 1749, .inl g2))]) hD hS hA [3, 4] rfl
      refine va_calli (va_runV (As := [.int (nI i)]) (rest := []) ⟨hx, hb, hml, hown, hts⟩ (r_isLand l dC dI h0 q cm (nI ra) g2 (nI i) H.size hz2 (sq_of hlt51)) (cwV 1 hts (goodIn_app (goodIn_r _ [27, 28, 29, 6] (by decide +kernel) (by decide +kernel)) (goodIn_ca (goodIn_r _ [26, 1] (by decide +kernel) (by decide +kernel)) (bs_in _ _))) rfl rfl rfl (by decide +kernel) ⟨(Nat.le_of_ble_eq_true rfl), (Nat.le_of_ble_eq_true rfl)⟩) ⟨fun a U g mk q => by obtain ⟨q0, q1, qP, qK, qD⟩ := q; exact ⟨q0, q1, qP, va_K.moved (u := U) (U := U.calling g mk a) (Vm.Alike.refl U.vm) qK, qD⟩, va_recv hKc hPc (ci := 15) (q0 := 0) rfl rfl, fun U hU hW => ⟨rfl, by rw [hU], by rw [hU]; exact hPc, va_K.moved hW.alike hKc, hDc.weaken (fun _ _ _ _ => trivial)⟩⟩ rfl rfl hl.1 rfl (lv_room (Nat.le_of_ble_eq_true rfl)) dX12_anHour_52 ⟨(Nat.le_of_ble_eq_true rfl), (Nat.le_of_ble_eq_true rfl)⟩) hS (fun q _ h => hFc q h) hFc (fun r54 u t H1 locs ht hvm hw55 hB hz1 hk1 hS => ?_)
      obtain ⟨hP1, hD1⟩ := hB
      rw [ht] at hP1
      obtain ⟨hP, hD⟩ := va_join (wr := [(q 4, .inl ((cm 4), 96, .inl mv)), (q 7, .inl ((cm 7), 2304, .inl f0)), (q 8, .inl ((cm 8), 2304, .inl f1))]) (w1 := [(h0, .inr (15, mG q (nI ra))), (q 1, .inl ((cm 1), 1749, .inl g2))]) hP hD [3, 4] [0, 1, 2] rfl rfl (by decide) (by decide) hk1 hFc hP1 hD1
      generalize H1 = H at hP hS ⊢
      have hP : va_P (dC, dI) vwCl [(q 4, .inl ((cm 4), 96, .inl mv)), (q 7, .inl ((cm 7), 2304, .inl f0)), (q 8, .inl ((cm 8), 2304, .inl f1)), (h0, .inr (15, mG q (nI ra))), (q 1, .inl ((cm 1), 1749, .inl g2))] H := hP
      have hD : va_D A [(q 4, .inl ((cm 4), 96, .inl mv)), (q 7, .inl ((cm 7), 2304, .inl f0)), (q 8, .inl ((cm 8), 2304, .inl f1)), (h0, .inr (15, mG q (nI ra))), (q 1, .inl ((cm 1), 1749, .inl g2))] := hD
      try dsimp only at hw55
      obtain rfl : 0 = r54 := (hw55).symm
      refine lv_if_ne (tgt := 61) hx hb dX12_anHour_55 (by decide) (fun c56 => absurd c56 (by decide)) (fun c56 => ?_)
      refine lv_goto (tgt := 88) hx hb dX12_anHour_58 (by decide) ?_
      obtain ⟨x57, ex57⟩ : ∃ y : Int32, y = (nI i) + 1 := ⟨_, rfl⟩
      refine lv_iinc (v := x57) (lv' := [(4, .int x57), (0, .ref h0), (1, .int 0), (2, .int 0), (3, .int 0)]) hx hb dX12_anHour_88 hl (k := 0) rfl (by rw [ex57]; rfl) (by decide) rfl (fun ls hl => ?_)
      refine lv_goto (tgt := 42) hx hb dX12_anHour_91 (by decide) ?_
      obtain rfl : x57 = nI (i + 1) := ex57.trans (nI_1 i)
      exact ih21 (i + 1) (by omega) _ _ (hP.sub [0, 1, 2, 3, 4] rfl) (hD.sub [0, 1, 2, 3, 4] (by decide) rfl) hS ls (lv_sub hl [0, 1, 2, 3, 4] rfl)
  exact key21 96 0 (by decide) _ _ (hP.sub [0, 1, 2, 3, 4] rfl) (hD.sub [0, 1, 2, 3, 4] (by decide) rfl) hS ls (lv_sub hl [0, 4, 3, 2, 1] rfl)
def w_m_hours : List Cond := .code yX12_hours cX12_hours 3 (some .int) :: ([.fieldLink RX12 194 "SeaLandModel" "thrown" "I", .code yX12_in cX12_in 3 (some .boolean), .methodLink RX12 197 yX12_in, .static yX12_in, .initialized RX12, .code yX12_throwsIf cX12_throwsIf 3 (some .boolean), .methodLink RX12 224 yX12_throwsIf, .instanceMethod yX12_throwsIf, .selects RX12 yX12_throwsIf yX12_throwsIf, .code yX12_hour cX12_hour 1 (some .int), .fieldLink RX12 9 "SeaLandModel" "world" "[I", .methodLink RX12 228 yX12_hour, .instanceMethod yX12_hour, .selects RX12 yX12_hour yX12_hour, .constant RX12 242 40000, .code yX12_anHour cX12_anHour 6 none, .code yX12_outside cX12_outside 4 (some .int), .methodLink RX12 247 yX12_outside, .instanceMethod yX12_outside, .selects RX12 yX12_outside yX12_outside, .code yX12_rain cX12_rain 3 (some .int), .code yX12_telling cX12_telling 6 (some .int), .methodLink RX12 243 yX12_telling, .instanceMethod yX12_telling, .selects RX12 yX12_telling yX12_telling, .methodLink RX12 253 yX12_rain, .instanceMethod yX12_rain, .selects RX12 yX12_rain yX12_rain, .code yX12_wind cX12_wind 7 (some .int), .methodLink RX12 250 yX12_wind, .instanceMethod yX12_wind, .selects RX12 yX12_wind yX12_wind, .code yX12_ditches cX12_ditches 5 none, .fieldLink RX12 16 "SeaLandModel" "moves" "[I", .code yX12_hasDitch cX12_hasDitch 2 (some .boolean), .code yX12_isLand cX12_isLand 2 (some .boolean), .methodLink RX12 235 yX12_isLand, .instanceMethod yX12_isLand, .selects RX12 yX12_isLand yX12_isLand, .methodLink RX12 298 yX12_hasDitch, .instanceMethod yX12_hasDitch, .selects RX12 yX12_hasDitch yX12_hasDitch, .methodLink RX12 310 yX12_ditches, .instanceMethod yX12_ditches, .selects RX12 yX12_ditches yX12_ditches, .code yX12_writesRow cX12_writesRow 2 none, .fieldLink RX12 238 "SeaLandModel" "rows" "I", .fieldLink RX12 25 "SeaLandModel" "rowTold" "[I", .code yX12_level cX12_level 2 (some .int), .methodLink RX12 285 yX12_level, .instanceMethod yX12_level, .selects RX12 yX12_level yX12_level, .fieldLink RX12 28 "SeaLandModel" "rowTrue" "[I", .methodLink RX12 319 yX12_writesRow, .instanceMethod yX12_writesRow, .selects RX12 yX12_writesRow yX12_writesRow, .code yX12_dayEnds cX12_dayEnds 3 none, .methodLink RX12 316 yX12_dayEnds, .instanceMethod yX12_dayEnds, .selects RX12 yX12_dayEnds yX12_dayEnds, .methodLink RX12 322 yX12_anHour, .instanceMethod yX12_anHour, .selects RX12 yX12_anHour yX12_anHour] ++ bs)
set_option maxHeartbeats 4000000 in
set_option maxRecDepth 100000 in
theorem m_hours (l : Launch) (dC : Nat → ClassId) (dI : Nat → Nat → Nat) (h0 : Nat) (q : Nat → Nat) (cm : Nat → ClassId) (p0 : Int32) (sz : Nat) : Met l yX12_hours w_m_hours ({ frames := 4, cells := 0, slots := 0, locals := 91 }) (va_Pc [.ref h0, .int p0] (fun U => U.heap.size = sz ∧ va_P (dC, dI) vwCl [(h0, .inr (15, mF q 0)), (q 1, .inl ((cm 1), 1749, .inl (fun _ => 0))), (q 4, .inl ((cm 4), 96, .inl (fun _ => 0))), (q 7, .inl ((cm 7), 2304, .inl (fun _ => 0))), (q 8, .inl ((cm 8), 2304, .inl (fun _ => 0)))] U.heap ∧ va_K (dC, dI) vwCl [((cm 1), .int), ((cm 4), .int), ((cm 7), .int), ((cm 8), .int)] U ∧ va_D (fun _ => True) [(h0, .inr (15, mF q 0)), (q 1, .inl ((cm 1), 1749, .inl (fun _ => 0))), (q 4, .inl ((cm 4), 96, .inl (fun _ => 0))), (q 7, .inl ((cm 7), 2304, .inl (fun _ => 0))), (q 8, .inl ((cm 8), 2304, .inl (fun _ => 0)))])) (va_Qi (fun (r : Int32) (u : List Value) => u[0]? = some (.int (T_hours p0).1) ∧ ((T_hours p0).1 = 0 → r = (T_hours p0).2)) (fun (fs : List Value) (t : State) => va_P (dC, dI) vwCl [(h0, .inr (15, fs))] t.heap ∧ va_D (va_A [(h0, .inr (15, mF q 0)), (q 1, .inl ((cm 1), 1749, .inl (fun _ => 0))), (q 4, .inl ((cm 4), 96, .inl (fun _ => 0))), (q 7, .inl ((cm 7), 2304, .inl (fun _ => 0))), (q 8, .inl ((cm 8), 2304, .inl (fun _ => 0)))] sz) [(h0, .inr (15, fs))]) (va_A [(h0, .inr (15, mF q 0)), (q 1, .inl ((cm 1), 1749, .inl (fun _ => 0))), (q 4, .inl ((cm 4), 96, .inl (fun _ => 0))), (q 7, .inl ((cm 7), 2304, .inl (fun _ => 0))), (q 8, .inl ((cm 8), 2304, .inl (fun _ => 0)))] sz)) 0 0 (va_A [(h0, .inr (15, mF q 0)), (q 1, .inl ((cm 1), 1749, .inl (fun _ => 0))), (q 4, .inl ((cm 4), 96, .inl (fun _ => 0))), (q 7, .inl ((cm 7), 2304, .inl (fun _ => 0))), (q 8, .inl ((cm 8), 2304, .inl (fun _ => 0)))] sz) := by
  refine Met.ofW (cc := cX12_hours) (maxL := 3) (ret := (some .int)) (by decide) rfl ?_
  intro p e s m args below meth c s₁ B hml hv
  obtain ⟨rfl, hsz, hP, hK, hD0⟩ := hv
  have hx := B.exec
  have hb := B.bytes
  have hr := B.returns
  have hts := atoms_spec (ws := w_m_hours) B.pre
  have hown : s.vm.findClass RX12 = some m.cls := findClass_of_methodNamed B.named
  have hlocks := B.notSynchronized
  subst hsz
  have hD := hD0.self (sz := s.heap.size)
  generalize hAe : va_A [(h0, .inr (15, mF q 0)), (q 1, .inl ((cm 1), 1749, .inl (fun _ => 0))), (q 4, .inl ((cm 4), 96, .inl (fun _ => 0))), (q 7, .inl ((cm 7), 2304, .inl (fun _ => 0))), (q 8, .inl ((cm 8), 2304, .inl (fun _ => 0)))] s.heap.size = A at hD ⊢
  have hA : ∀ q : Nat, s.heap.size ≤ q → A q := fun q h => by rw [← hAe]; exact Or.inr h
  have hS : va_S A s.heap s.heap [] := va_S.rf
  have hP : va_P (dC, dI) vwCl [(h0, .inr (15, mF q 0)), (q 1, .inl ((cm 1), 1749, .inl (fun _ => 0))), (q 4, .inl ((cm 4), 96, .inl (fun _ => 0))), (q 7, .inl ((cm 7), 2304, .inl (fun _ => 0))), (q 8, .inl ((cm 8), 2304, .inl (fun _ => 0)))] s.heap := hP
  have hl := lv_entry ([.ref h0, .int p0]) (n := 3) (Nat.le_of_ble_eq_true rfl)
  rw [lg_entry_eq]
  generalize (lg_sl ([.ref h0, .int p0]) ++ List.replicate (3 - (lg_sl ([.ref h0, .int p0])).length) Slot.unset).toArray = ls at hl ⊢
  have hl : lv_has ls 3 [(0, .ref h0), (1, .int p0)] := hl
  refine lv_aload_n hx hb dX12_hours_0 rfl (lv_at hl 0 rfl) ?_
  refine lv_iconst (v := 0) hx hb dX12_hours_1 (by decide) ?_
  refine va_put (D := (dC, dI)) (ci := 15) (v := .int 0) (ty := .int) (C := RX12) (T := TX12) (N := 78) hx hb hts bF_X12 tyX12 tyX12_ok nmX12 hown hK hP hD hS 0 rfl rfl 0 (by decide) (ht_at hts 0 rfl) (fun _ h9 => h9) rfl (by decide +kernel) rfl rfl (Nat.le_of_ble_eq_true rfl) dX12_hours_2 (fun H locs hP hD hS => ?_)
  have hP : va_P (dC, dI) vwCl [(h0, .inr (15, mF q 0)), (q 1, .inl ((cm 1), 1749, .inl (fun _ => 0))), (q 4, .inl ((cm 4), 96, .inl (fun _ => 0))), (q 7, .inl ((cm 7), 2304, .inl (fun _ => 0))), (q 8, .inl ((cm 8), 2304, .inl (fun _ => 0)))] H := hP
  have hD : va_D A [(h0, .inr (15, mF q 0)), (q 1, .inl ((cm 1), 1749, .inl (fun _ => 0))), (q 4, .inl ((cm 4), 96, .inl (fun _ => 0))), (q 7, .inl ((cm 7), 2304, .inl (fun _ => 0))), (q 8, .inl ((cm 8), 2304, .inl (fun _ => 0)))] := hD
  refine lv_aload_n hx hb dX12_hours_5 rfl (lv_at hl 0 rfl) ?_
  refine lv_iload_n hx hb dX12_hours_6 rfl (lv_at hl 1 rfl) ?_
  refine lv_iconst (v := 0) hx hb dX12_hours_7 (by decide) ?_
  refine lv_sipush (v := 240) hx hb dX12_hours_8 (by decide) ?_
  have hPc := hP.sub (ws' := []) [] rfl
  have hDc := hD.sub (ws' := []) [] (by decide) rfl
  have hKc := hK.sub (tys' := []) [] rfl
  have hFc := va_free (wc := []) hD hS hA [] rfl
  refine va_calli (va_runS (As := [.int p0, .int 0, .int 240]) (rest := [.ref h0]) ⟨hx, hb, hml, hown, hts⟩ (c_min_ l dC dI p0 0 240 H.size ) (va_cwS 3 hts (goodIn_app (goodIn_r _ [3, 4, 5] (by decide +kernel) (by decide +kernel)) (goodIn_ca (goodIn_r _ [2] (by decide +kernel) (by decide +kernel)) (bs_in _ _))) rfl rfl rfl (by decide +kernel) ⟨(Nat.le_of_ble_eq_true rfl), (Nat.le_of_ble_eq_true rfl)⟩) ⟨fun a U g mk q => by obtain ⟨q0, q1, qP, qK, qD⟩ := q; exact ⟨q0, q1, qP, va_K.moved (u := U) (U := U.calling g mk a) (Vm.Alike.refl U.vm) qK, qD⟩, fun U hU hW => ⟨rfl, by rw [hU], by rw [hU]; exact hPc, va_K.moved hW.alike hKc, hDc.weaken (fun _ _ _ _ => trivial)⟩⟩ rfl rfl hl.1 rfl (lv_room (Nat.le_of_ble_eq_true rfl)) dX12_hours_11 ⟨(Nat.le_of_ble_eq_true rfl), (Nat.le_of_ble_eq_true rfl)⟩) hS (fun q _ h => hFc q h) hFc (fun r2 u t H1 locs ht hvm hw3 hB hz1 hk1 hS => ?_)
  have hP1 : va_P (dC, dI) vwCl [] H1 := nilP
  have hD1 : va_D (va_A [] H.size) [] := nilD
  have hK := hK
  obtain ⟨hP, hD⟩ := va_join (wr := [(h0, .inr (15, mF q 0)), (q 1, .inl ((cm 1), 1749, .inl (fun _ => 0))), (q 4, .inl ((cm 4), 96, .inl (fun _ => 0))), (q 7, .inl ((cm 7), 2304, .inl (fun _ => 0))), (q 8, .inl ((cm 8), 2304, .inl (fun _ => 0)))]) (w1 := []) hP hD [] [0, 1, 2, 3, 4] rfl rfl (by decide) (by decide) hk1 hFc hP1 hD1
  generalize H1 = H at hP hS ⊢
  have hP : va_P (dC, dI) vwCl [(h0, .inr (15, mF q 0)), (q 1, .inl ((cm 1), 1749, .inl (fun _ => 0))), (q 4, .inl ((cm 4), 96, .inl (fun _ => 0))), (q 7, .inl ((cm 7), 2304, .inl (fun _ => 0))), (q 8, .inl ((cm 8), 2304, .inl (fun _ => 0)))] H := hP
  have hD : va_D A [(h0, .inr (15, mF q 0)), (q 1, .inl ((cm 1), 1749, .inl (fun _ => 0))), (q 4, .inl ((cm 4), 96, .inl (fun _ => 0))), (q 7, .inl ((cm 7), 2304, .inl (fun _ => 0))), (q 8, .inl ((cm 8), 2304, .inl (fun _ => 0)))] := hD
  try dsimp only at hw3
  by_cases hc4 : (0 : Int32) ≤ p0 ∧ p0 ≤ (240 : Int32)
  · rw [if_pos hc4] at hw3
    subst hw3
    refine lv_if_ne (tgt := 21) hx hb dX12_hours_14 (by decide) (fun c5 => ?_) (fun c5 => absurd c5 (by decide))
    refine lv_iconst (v := 0) hx hb dX12_hours_21 (by decide) ?_
    refine lv_iconst (v := 1) hx hb dX12_hours_22 (by decide) ?_
    have hPc := hP.sub (ws' := [(h0, .inr (15, mF q 0))]) [0] rfl
    have hDc := hD.sub (ws' := [(h0, .inr (15, mF q 0))]) [0] (by decide) rfl
    have hKc := hK.sub (tys' := []) [] rfl
    have hFc := va_free (wc := [(h0, .inr (15, mF q 0))]) hD hS hA [0] rfl
    refine va_calli (va_runV (As := [.int 0, .int 1]) (rest := []) ⟨hx, hb, hml, hown, hts⟩ (c_m_throwsIf0 l dC dI h0 (mF q 0) 1 H.size ) (cwV 2 hts (goodIn_app (goodIn_r _ [7, 8, 9, 5] (by decide +kernel) (by decide +kernel)) (goodIn_ca (goodIn_r _ [6] (by decide +kernel) (by decide +kernel)) (bs_in _ _))) rfl rfl rfl (by decide +kernel) ⟨(Nat.le_of_ble_eq_true rfl), (Nat.le_of_ble_eq_true rfl)⟩) ⟨fun a U g mk q => by obtain ⟨q0, q1, qP, qK, qD⟩ := q; exact ⟨q0, q1, qP, va_K.moved (u := U) (U := U.calling g mk a) (Vm.Alike.refl U.vm) qK, qD⟩, va_recv hKc hPc (ci := 15) (q0 := 0) rfl rfl, fun U hU hW => ⟨rfl, by rw [hU], by rw [hU]; exact hPc, va_K.moved hW.alike hKc, hDc.weaken (fun _ _ _ _ => trivial)⟩⟩ rfl rfl hl.1 rfl (lv_room (Nat.le_of_ble_eq_true rfl)) dX12_hours_23 ⟨(Nat.le_of_ble_eq_true rfl), (Nat.le_of_ble_eq_true rfl)⟩) hS (fun q _ h => hFc q h) hFc (fun r7 u t H1 locs ht hvm hw8 hB hz1 hk1 hS => ?_)
    obtain ⟨hP1, hD1⟩ := hB
    rw [ht] at hP1
    obtain ⟨hP, hD⟩ := va_join (wr := [(q 1, .inl ((cm 1), 1749, .inl (fun _ => 0))), (q 4, .inl ((cm 4), 96, .inl (fun _ => 0))), (q 7, .inl ((cm 7), 2304, .inl (fun _ => 0))), (q 8, .inl ((cm 8), 2304, .inl (fun _ => 0)))]) (w1 := [(h0, .inr (15, mF q 0))]) hP hD [0] [1, 2, 3, 4] rfl rfl (by decide) (by decide) hk1 hFc hP1 hD1
    generalize H1 = H at hP hS ⊢
    have hP : va_P (dC, dI) vwCl [(q 1, .inl ((cm 1), 1749, .inl (fun _ => 0))), (q 4, .inl ((cm 4), 96, .inl (fun _ => 0))), (q 7, .inl ((cm 7), 2304, .inl (fun _ => 0))), (q 8, .inl ((cm 8), 2304, .inl (fun _ => 0))), (h0, .inr (15, mF q 0))] H := hP
    have hD : va_D A [(q 1, .inl ((cm 1), 1749, .inl (fun _ => 0))), (q 4, .inl ((cm 4), 96, .inl (fun _ => 0))), (q 7, .inl ((cm 7), 2304, .inl (fun _ => 0))), (q 8, .inl ((cm 8), 2304, .inl (fun _ => 0))), (h0, .inr (15, mF q 0))] := hD
    try dsimp only at hw8
    obtain rfl : 0 = r7 := (hw8).symm
    refine lv_if_eq (tgt := 31) hx hb dX12_hours_26 (by decide) (fun c9 => ?_) (fun c9 => absurd c9 (by decide))
    obtain ⟨n9, hn9, e9⟩ := nI_of2 (M := 240) (n := 240) (by decide) (Int32.not_lt.mpr hc4.1) hc4.2
    refine lv_iconst (v := 0) hx hb dX12_hours_31 (by decide) ?_
    refine lv_istore_n (lv' := [(2, .int 0), (0, .ref h0), (1, .int p0)]) hx hb dX12_hours_32 rfl hl (by decide) rfl (fun ls hl => ?_)
    have key10 : ∀ (n10 i : Nat), i + n10 = n9 → ∀ (ra : Nat) (g mv f0 f1 : Nat → Int32), ∀ (hg : (ra ≤ 24 ∧ g 1429 = nI i) ∧ (∀ j, j ≠ 1429 → g j = 0) ∧ ∀ j, mv j = 0), ∀ (H : Heap) (locs : List Loc), va_P (dC, dI) vwCl [(q 1, .inl ((cm 1), 1749, .inl g)), (q 4, .inl ((cm 4), 96, .inl mv)), (q 7, .inl ((cm 7), 2304, .inl f0)), (q 8, .inl ((cm 8), 2304, .inl f1)), (h0, .inr (15, mG q (nI ra)))] H → va_D A [(q 1, .inl ((cm 1), 1749, .inl g)), (q 4, .inl ((cm 4), 96, .inl mv)), (q 7, .inl ((cm 7), 2304, .inl f0)), (q 8, .inl ((cm 8), 2304, .inl f1)), (h0, .inr (15, mG q (nI ra)))] → va_S A s.heap H locs → ∀ ls : Array Slot, lv_has ls 3 [(2, .int (nI i)), (0, .ref h0), (1, .int p0)] → W p l e (headSpec w_m_hours ({ frames := 4, cells := 0, slots := 0, locals := 91 })).room s m #[.ref h0, .int p0] below meth c H locs 0 0 (MQ below (va_Qi (fun (r : Int32) (u : List Value) => u[0]? = some (.int (T_hours p0).1) ∧ ((T_hours p0).1 = 0 → r = (T_hours p0).2)) (fun (fs : List Value) (t : State) => va_P (dC, dI) vwCl [(h0, .inr (15, fs))] t.heap ∧ va_D A [(h0, .inr (15, fs))]) A) #[.ref h0, .int p0] s 0 0 A) (F0 m 33 ls []) := by
      intro n10
      induction n10 with
      | zero =>
        intro i hn10 ra g mv f0 f1 hg H locs hP hD hS ls hl
        obtain rfl : n9 = i := by omega
        refine lv_iload_n hx hb dX12_hours_33 rfl (lv_at hl 0 rfl) ?_
        refine lv_iload_n hx hb dX12_hours_34 rfl (lv_at hl 2 rfl) ?_
        refine lv_icmp_ge (tgt := 57) hx hb dX12_hours_35 (by decide) (fun c11 => ?_) (fun c11 => absurd (le_e e9) c11)
        refine lv_aload_n hx hb dX12_hours_57 rfl (lv_at hl 1 rfl) ?_
        have hPc := hP.sub (ws' := [(h0, .inr (15, mG q (nI ra))), (q 1, .inl ((cm 1), 1749, .inl g))]) [4, 0] rfl
        have hDc := hD.sub (ws' := [(h0, .inr (15, mG q (nI ra))), (q 1, .inl ((cm 1), 1749, .inl g))]) [4, 0] (by decide) rfl
        have hKc := hK.sub (tys' := [((cm 1), .int)]) [0] rfl
        have hFc := va_free (wc := [(h0, .inr (15, mG q (nI ra))), (q 1, .inl ((cm 1), 1749, .inl g))]) hD hS hA [4, 0] rfl
        refine va_calli (va_runV (As := []) (rest := []) ⟨hx, hb, hml, hown, hts⟩ (r_hour l dC dI h0 q cm (nI ra) g (nI n9) H.size hg.1.2) (cwV 0 hts (goodIn_app (goodIn_r _ [12, 13, 14, 5] (by decide +kernel) (by decide +kernel)) (goodIn_ca (goodIn_r _ [10, 11] (by decide +kernel) (by decide +kernel)) (bs_in _ _))) rfl rfl rfl (by decide +kernel) ⟨(Nat.le_of_ble_eq_true rfl), (Nat.le_of_ble_eq_true rfl)⟩) ⟨fun a U g mk q => by obtain ⟨q0, q1, qP, qK, qD⟩ := q; exact ⟨q0, q1, qP, va_K.moved (u := U) (U := U.calling g mk a) (Vm.Alike.refl U.vm) qK, qD⟩, va_recv hKc hPc (ci := 15) (q0 := 0) rfl rfl, fun U hU hW => ⟨rfl, by rw [hU], by rw [hU]; exact hPc, va_K.moved hW.alike hKc, hDc.weaken (fun _ _ _ _ => trivial)⟩⟩ rfl rfl hl.1 rfl (lv_room (Nat.le_of_ble_eq_true rfl)) dX12_hours_58 ⟨(Nat.le_of_ble_eq_true rfl), (Nat.le_of_ble_eq_true rfl)⟩) hS (fun q _ h => hFc q h) hFc (fun r13 u t H1 locs ht hvm hw14 hB hz1 hk1 hS => ?_)
        obtain ⟨hP1, hD1⟩ := hB
        rw [ht] at hP1
        obtain ⟨hP, hD⟩ := va_join (wr := [(q 4, .inl ((cm 4), 96, .inl mv)), (q 7, .inl ((cm 7), 2304, .inl f0)), (q 8, .inl ((cm 8), 2304, .inl f1))]) (w1 := [(h0, .inr (15, mG q (nI ra))), (q 1, .inl ((cm 1), 1749, .inl g))]) hP hD [4, 0] [1, 2, 3] rfl rfl (by decide) (by decide) hk1 hFc hP1 hD1
        generalize H1 = H at hP hS ⊢
        have hP : va_P (dC, dI) vwCl [(q 4, .inl ((cm 4), 96, .inl mv)), (q 7, .inl ((cm 7), 2304, .inl f0)), (q 8, .inl ((cm 8), 2304, .inl f1)), (h0, .inr (15, mG q (nI ra))), (q 1, .inl ((cm 1), 1749, .inl g))] H := hP
        have hD : va_D A [(q 4, .inl ((cm 4), 96, .inl mv)), (q 7, .inl ((cm 7), 2304, .inl f0)), (q 8, .inl ((cm 8), 2304, .inl f1)), (h0, .inr (15, mG q (nI ra))), (q 1, .inl ((cm 1), 1749, .inl g))] := hD
        try dsimp only at hw14
        obtain rfl : (nI n9) = r13 := (hw14).symm
        exact W.iret (v := (nI n9)) hx hb hr (fun t ht hW => ⟨⟨(nI n9), (mG q (nI ra)), rfl, (by unfold T_hours; rw [if_pos hc4]; exact ⟨rfl, fun _ => e9.symm⟩), by rw [ht]; exact hP.sub (ws' := [(h0, .inr (15, mG q (nI ra)))]) [3] rfl, hD.sub (ws' := [(h0, .inr (15, mG q (nI ra)))]) [3] (by decide) rfl⟩, hS.F ht⟩) hS.2.2 dX12_hours_61
      | succ n10 ih10 =>
        intro i hn10 ra g mv f0 f1 hg H locs hP hD hS ls hl
        have hlt15 : i < n9 := by omega
        refine lv_iload_n hx hb dX12_hours_33 rfl (lv_at hl 0 rfl) ?_
        refine lv_iload_n hx hb dX12_hours_34 rfl (lv_at hl 2 rfl) ?_
        refine lv_icmp_ge (tgt := 57) hx hb dX12_hours_35 (by decide) (fun c16 => absurd c16 (by rw [e9]; exact nI_ge hlt15 (by omega))) (fun c16 => ?_)
        refine lv_aload_n hx hb dX12_hours_38 rfl (lv_at hl 1 rfl) ?_
        have hPc := hP.sub (ws' := [(h0, .inr (15, mG q (nI ra))), (q 1, .inl ((cm 1), 1749, .inl g))]) [4, 0] rfl
        have hDc := hD.sub (ws' := [(h0, .inr (15, mG q (nI ra))), (q 1, .inl ((cm 1), 1749, .inl g))]) [4, 0] (by decide) rfl
        have hKc := hK.sub (tys' := [((cm 1), .int)]) [0] rfl
        have hFc := va_free (wc := [(h0, .inr (15, mG q (nI ra))), (q 1, .inl ((cm 1), 1749, .inl g))]) hD hS hA [4, 0] rfl
        refine va_calli (va_runV (As := []) (rest := []) ⟨hx, hb, hml, hown, hts⟩ (r_hour l dC dI h0 q cm (nI ra) g (nI i) H.size hg.1.2) (cwV 0 hts (goodIn_app (goodIn_r _ [12, 13, 14, 5] (by decide +kernel) (by decide +kernel)) (goodIn_ca (goodIn_r _ [10, 11] (by decide +kernel) (by decide +kernel)) (bs_in _ _))) rfl rfl rfl (by decide +kernel) ⟨(Nat.le_of_ble_eq_true rfl), (Nat.le_of_ble_eq_true rfl)⟩) ⟨fun a U g mk q => by obtain ⟨q0, q1, qP, qK, qD⟩ := q; exact ⟨q0, q1, qP, va_K.moved (u := U) (U := U.calling g mk a) (Vm.Alike.refl U.vm) qK, qD⟩, va_recv hKc hPc (ci := 15) (q0 := 0) rfl rfl, fun U hU hW => ⟨rfl, by rw [hU], by rw [hU]; exact hPc, va_K.moved hW.alike hKc, hDc.weaken (fun _ _ _ _ => trivial)⟩⟩ rfl rfl hl.1 rfl (lv_room (Nat.le_of_ble_eq_true rfl)) dX12_hours_39 ⟨(Nat.le_of_ble_eq_true rfl), (Nat.le_of_ble_eq_true rfl)⟩) hS (fun q _ h => hFc q h) hFc (fun r18 u t H1 locs ht hvm hw19 hB hz1 hk1 hS => ?_)
        obtain ⟨hP1, hD1⟩ := hB
        rw [ht] at hP1
        obtain ⟨hP, hD⟩ := va_join (wr := [(q 4, .inl ((cm 4), 96, .inl mv)), (q 7, .inl ((cm 7), 2304, .inl f0)), (q 8, .inl ((cm 8), 2304, .inl f1))]) (w1 := [(h0, .inr (15, mG q (nI ra))), (q 1, .inl ((cm 1), 1749, .inl g))]) hP hD [4, 0] [1, 2, 3] rfl rfl (by decide) (by decide) hk1 hFc hP1 hD1
        generalize H1 = H at hP hS ⊢
        have hP : va_P (dC, dI) vwCl [(q 4, .inl ((cm 4), 96, .inl mv)), (q 7, .inl ((cm 7), 2304, .inl f0)), (q 8, .inl ((cm 8), 2304, .inl f1)), (h0, .inr (15, mG q (nI ra))), (q 1, .inl ((cm 1), 1749, .inl g))] H := hP
        have hD : va_D A [(q 4, .inl ((cm 4), 96, .inl mv)), (q 7, .inl ((cm 7), 2304, .inl f0)), (q 8, .inl ((cm 8), 2304, .inl f1)), (h0, .inr (15, mG q (nI ra))), (q 1, .inl ((cm 1), 1749, .inl g))] := hD
        try dsimp only at hw19
        obtain rfl : (nI i) = r18 := (hw19).symm
        refine lv_ldc (v := 40000) hx hb hown (ht_at hts 14 rfl) dX12_hours_42 ?_
        refine lv_icmp_ge (tgt := 57) hx hb dX12_hours_44 (by decide) (fun c20 => absurd c20 (nI_ge (b := 40000) (by omega) (by decide))) (fun c20 => ?_)
        refine lv_aload_n hx hb dX12_hours_47 rfl (lv_at hl 1 rfl) ?_
        have hPc := hP.sub (ws' := [(h0, .inr (15, mG q (nI ra))), (q 1, .inl ((cm 1), 1749, .inl g)), (q 4, .inl ((cm 4), 96, .inl mv)), (q 7, .inl ((cm 7), 2304, .inl f0)), (q 8, .inl ((cm 8), 2304, .inl f1))]) [3, 4, 0, 1, 2] rfl
        have hDc := hD.sub (ws' := [(h0, .inr (15, mG q (nI ra))), (q 1, .inl ((cm 1), 1749, .inl g)), (q 4, .inl ((cm 4), 96, .inl mv)), (q 7, .inl ((cm 7), 2304, .inl f0)), (q 8, .inl ((cm 8), 2304, .inl f1))]) [3, 4, 0, 1, 2] (by decide) rfl
        have hKc := hK.sub (tys' := [((cm 1), .int), ((cm 4), .int), ((cm 7), .int), ((cm 8), .int)]) [0, 1, 2, 3] rfl
        have hFc := va_free (wc := [(h0, .inr (15, mG q (nI ra))), (q 1, .inl ((cm 1), 1749, .inl g)), (q 4, .inl ((cm 4), 96, .inl mv)), (q 7, .inl ((cm 7), 2304, .inl f0)), (q 8, .inl ((cm 8), 2304, .inl f1))]) hD hS hA [3, 4, 0, 1, 2] rfl
        refine va_callv (va_runV (As := []) (rest := []) ⟨hx, hb, hml, hown, hts⟩ (r_anHour l dC dI h0 q cm ra i g mv f0 f1 H.size hg.2.1 hg.1.2 (by omega) hg.1.1 hg.2.2) (cwV 0 hts (goodIn_app (goodIn_r _ [61, 62, 63, 5] (by decide +kernel) (by decide +kernel)) (goodIn_ca (goodIn_r _ [16, 11, 10, 12, 13, 14, 5, 17, 18, 19, 20, 21, 22, 23, 24, 25, 26, 27, 28, 29, 30, 31, 32, 33, 34, 35, 36, 37, 38, 39, 40, 41, 42, 43, 44, 45, 46, 47, 48, 49, 50, 51, 52, 53, 54, 55, 56, 57, 58, 59, 60] (by decide +kernel) (by decide +kernel)) (bs_in _ _))) rfl rfl rfl (by decide +kernel) ⟨(Nat.le_of_ble_eq_true rfl), (Nat.le_of_ble_eq_true rfl)⟩) ⟨fun a U g mk q => by obtain ⟨q0, q1, qP, qK, qD⟩ := q; exact ⟨q0, q1, qP, va_K.moved (u := U) (U := U.calling g mk a) (Vm.Alike.refl U.vm) qK, qD⟩, va_recv hKc hPc (ci := 15) (q0 := 0) rfl rfl, fun U hU hW => ⟨rfl, by rw [hU], by rw [hU]; exact hPc, va_K.moved hW.alike hKc, hDc.weaken (fun _ _ _ _ => trivial)⟩⟩ rfl rfl hl.1 rfl (lv_room (Nat.le_of_ble_eq_true rfl)) dX12_hours_48 ⟨(Nat.le_of_ble_eq_true rfl), (Nat.le_of_ble_eq_true rfl)⟩) hS (fun q _ h => hFc q h) hFc (fun u t H1 locs ht hvm hw23 hB hz1 hk1 hS => ?_)
        obtain ⟨rb24, gb25, mb26, k027, k128⟩ := u
        obtain ⟨hP1, hD1⟩ := hB
        rw [ht] at hP1
        obtain ⟨hP, hD⟩ := va_join (wr := []) (w1 := [(h0, .inr (15, mG q (nI rb24))), (q 1, .inl ((cm 1), 1749, .inl gb25)), (q 4, .inl ((cm 4), 96, .inl mb26)), (q 7, .inl ((cm 7), 2304, .inl k027)), (q 8, .inl ((cm 8), 2304, .inl k128))]) hP hD [3, 4, 0, 1, 2] [] rfl rfl (by decide) (by decide) hk1 hFc hP1 hD1
        generalize H1 = H at hP hS ⊢
        have hP : va_P (dC, dI) vwCl [(h0, .inr (15, mG q (nI rb24))), (q 1, .inl ((cm 1), 1749, .inl gb25)), (q 4, .inl ((cm 4), 96, .inl mb26)), (q 7, .inl ((cm 7), 2304, .inl k027)), (q 8, .inl ((cm 8), 2304, .inl k128))] H := hP
        have hD : va_D A [(h0, .inr (15, mG q (nI rb24))), (q 1, .inl ((cm 1), 1749, .inl gb25)), (q 4, .inl ((cm 4), 96, .inl mb26)), (q 7, .inl ((cm 7), 2304, .inl k027)), (q 8, .inl ((cm 8), 2304, .inl k128))] := hD
        try dsimp only at hw23
        obtain ⟨x29, ex29⟩ : ∃ y : Int32, y = (nI i) + 1 := ⟨_, rfl⟩
        refine lv_iinc (v := x29) (lv' := [(2, .int x29), (0, .ref h0), (1, .int p0)]) hx hb dX12_hours_51 hl (k := 0) rfl (by rw [ex29]; rfl) (by decide) rfl (fun ls hl => ?_)
        refine lv_goto (tgt := 33) hx hb dX12_hours_54 (by decide) ?_
        obtain rfl : x29 = nI (i + 1) := ex29.trans (nI_1 i)
        exact ih10 (i + 1) (by omega) rb24 gb25 mb26 k027 k128 hw23 _ _ (hP.sub [1, 2, 3, 4, 0] rfl) (hD.sub [1, 2, 3, 4, 0] (by decide) rfl) hS ls (lv_sub hl [0, 1, 2] rfl)
    exact key10 n9 0 (by omega) 0 (fun _ => 0) (fun _ => 0) (fun _ => 0) (fun _ => 0) ⟨⟨by decide, rfl⟩, fun _ _ => rfl, fun _ => rfl⟩ _ _ (hP.sub [0, 1, 2, 3, 4] rfl) (hD.sub [0, 1, 2, 3, 4] (by decide) rfl) hS ls (lv_sub hl [0, 1, 2] rfl)
  · rw [if_neg hc4] at hw3
    subst hw3
    refine lv_if_ne (tgt := 21) hx hb dX12_hours_14 (by decide) (fun c30 => absurd c30 (by decide)) (fun c30 => ?_)
    refine lv_iconst (v := 1) hx hb dX12_hours_17 (by decide) ?_
    refine lv_goto (tgt := 22) hx hb dX12_hours_18 (by decide) ?_
    refine lv_iconst (v := 1) hx hb dX12_hours_22 (by decide) ?_
    have hPc := hP.sub (ws' := [(h0, .inr (15, mF q 0))]) [0] rfl
    have hDc := hD.sub (ws' := [(h0, .inr (15, mF q 0))]) [0] (by decide) rfl
    have hKc := hK.sub (tys' := []) [] rfl
    have hFc := va_free (wc := [(h0, .inr (15, mF q 0))]) hD hS hA [0] rfl
    refine va_calli (va_runV (As := [.int 1, .int 1]) (rest := []) ⟨hx, hb, hml, hown, hts⟩ (c_m_throwsIf1 l dC dI h0 (mF q 0) 1 H.size rfl) (cwV 2 hts (goodIn_app (goodIn_r _ [7, 8, 9, 5] (by decide +kernel) (by decide +kernel)) (goodIn_ca (goodIn_r _ [6, 1] (by decide +kernel) (by decide +kernel)) (bs_in _ _))) rfl rfl rfl (by decide +kernel) ⟨(Nat.le_of_ble_eq_true rfl), (Nat.le_of_ble_eq_true rfl)⟩) ⟨fun a U g mk q => by obtain ⟨q0, q1, qP, qK, qD⟩ := q; exact ⟨q0, q1, qP, va_K.moved (u := U) (U := U.calling g mk a) (Vm.Alike.refl U.vm) qK, qD⟩, va_recv hKc hPc (ci := 15) (q0 := 0) rfl rfl, fun U hU hW => ⟨rfl, by rw [hU], by rw [hU]; exact hPc, va_K.moved hW.alike hKc, hDc.weaken (fun _ _ _ _ => trivial)⟩⟩ rfl rfl hl.1 rfl (lv_room (Nat.le_of_ble_eq_true rfl)) dX12_hours_23 ⟨(Nat.le_of_ble_eq_true rfl), (Nat.le_of_ble_eq_true rfl)⟩) hS (fun q _ h => hFc q h) hFc (fun r32 u t H1 locs ht hvm hw33 hB hz1 hk1 hS => ?_)
    obtain ⟨hP1, hD1⟩ := hB
    rw [ht] at hP1
    obtain ⟨hP, hD⟩ := va_join (wr := [(q 1, .inl ((cm 1), 1749, .inl (fun _ => 0))), (q 4, .inl ((cm 4), 96, .inl (fun _ => 0))), (q 7, .inl ((cm 7), 2304, .inl (fun _ => 0))), (q 8, .inl ((cm 8), 2304, .inl (fun _ => 0)))]) (w1 := [(h0, .inr (15, mF q 1))]) hP hD [0] [1, 2, 3, 4] rfl rfl (by decide) (by decide) hk1 hFc hP1 hD1
    generalize H1 = H at hP hS ⊢
    have hP : va_P (dC, dI) vwCl [(q 1, .inl ((cm 1), 1749, .inl (fun _ => 0))), (q 4, .inl ((cm 4), 96, .inl (fun _ => 0))), (q 7, .inl ((cm 7), 2304, .inl (fun _ => 0))), (q 8, .inl ((cm 8), 2304, .inl (fun _ => 0))), (h0, .inr (15, mF q 1))] H := hP
    have hD : va_D A [(q 1, .inl ((cm 1), 1749, .inl (fun _ => 0))), (q 4, .inl ((cm 4), 96, .inl (fun _ => 0))), (q 7, .inl ((cm 7), 2304, .inl (fun _ => 0))), (q 8, .inl ((cm 8), 2304, .inl (fun _ => 0))), (h0, .inr (15, mF q 1))] := hD
    try dsimp only at hw33
    obtain rfl : 1 = r32 := (hw33).symm
    refine lv_if_eq (tgt := 31) hx hb dX12_hours_26 (by decide) (fun c34 => absurd c34 (by decide)) (fun c34 => ?_)
    refine lv_iconst (v := 0) hx hb dX12_hours_29 (by decide) ?_
    exact W.iret (v := 0) hx hb hr (fun t ht hW => ⟨⟨0, (mF q 1), rfl, (by unfold T_hours; rw [if_neg hc4]; exact ⟨rfl, fun h => absurd h (by decide)⟩), by rw [ht]; exact hP.sub (ws' := [(h0, .inr (15, mF q 1))]) [4] rfl, hD.sub (ws' := [(h0, .inr (15, mF q 1))]) [4] (by decide) rfl⟩, hS.F ht⟩) hS.2.2 dX12_hours_30
