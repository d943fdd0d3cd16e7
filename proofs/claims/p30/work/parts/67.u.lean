def w_c_settlerE : List Cond := .code yX11_settler cX11_settler 8 (some .int) :: (HAppend.hAppend (α := List Cond) (β := List Cond) (γ := List Cond) [.code yX11_within cX11_within 3 (some .boolean), .methodLink RX11 58 yX11_within, .static yX11_within, .initialized RX11, .code yX11_needNumbers cX11_needNumbers 1 none, .classLink RX11 547 "java/lang/IllegalArgumentException", .initialized "java/lang/IllegalArgumentException", .methodLink RX11 62 yX11_needNumbers, .static yX11_needNumbers, .constant RX11 96 100000, .constant RX11 341 999999, .fieldLink RX11 30 "SeaLand" "board" "LSeaLand$Board;", .classLink RX11 350 RX7, .instantiable RX7 12, .initialized RX7, .code yX7_init cX7_init 8 none, .methodLink RX7 3 objectInit, .instanceMethod objectInit, .code objectInit ⟨#[0xb1]⟩ 1 none, .fieldLink RX7 9 "SeaLand$Settler" "farm" "I", .fieldLink RX7 15 "SeaLand$Settler" "age" "I", .fieldLink RX7 18 "SeaLand$Settler" "sons" "I", .fieldLink RX7 21 "SeaLand$Settler" "coin" "I", .fieldLink RX7 24 "SeaLand$Settler" "cattle" "I", .fieldLink RX7 27 "SeaLand$Settler" "kin" "Z", .fieldLink RX7 31 "SeaLand$Settler" "board" "Z", .fieldLink RX7 34 "SeaLand$Settler" "drawn" "I", .methodLink RX11 352 yX7_init, .instanceMethod yX7_init, .code yX0_settle cX0_settle 2 (some .int), .fieldLink RX0 11 "SeaLand$Board" "settlers" "[LSeaLand$Settler;", .fieldLink RX0 75 "SeaLand$Board" "settled" "I", .methodLink RX11 355 yX0_settle, .instanceMethod yX0_settle, .selects RX0 yX0_settle yX0_settle, .initialized RX0, .classLink RX11 345 "java/lang/UnsupportedOperationException", .initialized "java/lang/UnsupportedOperationException"] bs2)
set_option maxHeartbeats 4000000 in
set_option maxRecDepth 100000 in
theorem c_settlerE (l : Launch) (hlt : l.stackTraces = false) (dC : Nat → ClassId) (dI : Nat → Nat → Nat) (kA : Nat → ClassId) (adK adV : Nat → Nat) (G : gT) (H0 : Heap) (nC nS : Int) (o0 : Nat) (p0 : Int32) (p1 : Int32) (p2 : Int32) (p3 : Int32) (p4 : Int32) (p5 : Int32) (p6 : Int32) (wa : Nat) (bo : Nat) (hT : gH (dC, dI) kA (SHc nC nS) G H0) (hr_o0 : G o0 = some 14) (hq4 : 0 ≤ p4.toInt ∧ p4.toInt ≤ 1) (hq5 : 0 ≤ p5.toInt ∧ p5.toInt ≤ 1) (hu_o0 : ∀ b, G b = some 3 → b = bo) (hu_a0 : ∀ b, G b = some 51 → b = wa) (hgC : 0 ≤ nC ∧ nC ≤ 40) (hgS : 0 ≤ nS ∧ nS ≤ 60) : vx_Met l yX11_settler w_c_settlerE ({ frames := 7, cells := 1, slots := 12, locals := 120 }) (va_Pc [.ref o0, .int p0, .int p1, .int p2, .int p3, .int p4, .int p5, .int p6] (fun U => U.heap = H0 ∧ va_K (dC, dI) vwCl (tyl kA) U ∧ EVC adK adV (gA G H0.size) U U.heap)) (va_Qi (fun (r : Int32) (u : gT × Int × Int) => (0 ≤ r.toInt ∧ r.toInt ≤ 59) ∧ ((0 ≤ p0.toInt ∧ p0.toInt ≤ 99 ∧ 0 ≤ p1.toInt ∧ p1.toInt ≤ 20 ∧ 0 ≤ p2.toInt ∧ p2.toInt ≤ 100000 ∧ 0 ≤ p3.toInt ∧ p3.toInt ≤ 100 ∧ 0 ≤ p6.toInt ∧ p6.toInt ≤ 999999) ∧ nS ≤ 59 ∧ r.toInt = nS)) (fun (u : gT × Int × Int) (t : State) => match u with | (G1, n1, n2) => gH (dC, dI) kA (SHc n1 n2) G1 t.heap ∧ gF (dC, dI) SKc G ([(3, 14), (10, 0), (10, 1), (10, 2), (10, 3), (10, 4), (10, 5), (10, 6), (10, 7), (51, 0)] : List (Nat × Nat)) H0 t.heap ∧ gZ ([10] : List Nat) H0.size G G1 ∧ (0 ≤ n1 ∧ n1 ≤ 40) ∧ ((0 ≤ n2 ∧ n2 ≤ 60) ∧ n2 = nS + 1)) (gA G H0.size)) (vx_X (fun _ : Unit => True) (fun E _ t => (E = "java/lang/IllegalArgumentException" ∨ E = "java/lang/UnsupportedOperationException") ∧ ((E = "java/lang/IllegalArgumentException" ∧ ¬ (0 ≤ p0.toInt ∧ p0.toInt ≤ 99 ∧ 0 ≤ p1.toInt ∧ p1.toInt ≤ 20 ∧ 0 ≤ p2.toInt ∧ p2.toInt ≤ 100000 ∧ 0 ≤ p3.toInt ∧ p3.toInt ≤ 100 ∧ 0 ≤ p6.toInt ∧ p6.toInt ≤ 999999)) ∨ (E = "java/lang/UnsupportedOperationException" ∧ ((0 ≤ p0.toInt ∧ p0.toInt ≤ 99 ∧ 0 ≤ p1.toInt ∧ p1.toInt ≤ 20 ∧ 0 ≤ p2.toInt ∧ p2.toInt ≤ 100000 ∧ 0 ≤ p3.toInt ∧ p3.toInt ≤ 100 ∧ 0 ≤ p6.toInt ∧ p6.toInt ≤ 999999) ∧ nS = 60))) ∧ gH (dC, dI) kA (SHc nC nS) G t.heap ∧ gF (dC, dI) SKc G ([(3, 14), (10, 0), (10, 1), (10, 2), (10, 3), (10, 4), (10, 5), (10, 6), (10, 7), (51, 0)] : List (Nat × Nat)) H0 t.heap) (gA G H0.size)) 1 12 (gA G H0.size) := by
  refine vx_ofW (cc := cX11_settler) (maxL := 8) (ret := (some .int)) (by decide) rfl ?_
  intro p e s m args below meth c s₁ B hml hnt hv
  obtain ⟨rfl, hH0, hK, hE⟩ := hv
  have hx := B.exec
  have hb := B.bytes
  have hr := B.returns
  have hts := atoms_spec (ws := w_c_settlerE) B.pre
  have hown : s.vm.findClass RX11 = some m.cls := findClass_of_methodNamed B.named
  have hlocks := B.notSynchronized
  subst hH0
  generalize hAe : gA G s.heap.size = A at hE ⊢
  have hA : ∀ q : Nat, s.heap.size ≤ q → A q := fun q h => by rw [← hAe]; exact Or.inr h
  have hG := gA_of hAe
  have hS : va_S A s.heap s.heap [] := va_S.rf
  have hF : gF (dC, dI) SKc G ([(3, 14), (10, 0), (10, 1), (10, 2), (10, 3), (10, 4), (10, 5), (10, 6), (10, 7), (51, 0)] : List (Nat × Nat)) s.heap s.heap := gF.rf
  have hl := lv_entry ([.ref o0, .int p0, .int p1, .int p2, .int p3, .int p4, .int p5, .int p6]) (n := 8) (Nat.le_of_ble_eq_true rfl)
  rw [lg_entry_eq]
  generalize (lg_sl ([.ref o0, .int p0, .int p1, .int p2, .int p3, .int p4, .int p5, .int p6]) ++ List.replicate (8 - (lg_sl ([.ref o0, .int p0, .int p1, .int p2, .int p3, .int p4, .int p5, .int p6])).length) Slot.unset).toArray = ls at hl ⊢
  have hl : lv_has ls 8 [(0, .ref o0), (1, .int p0), (2, .int p1), (3, .int p2), (4, .int p3), (5, .int p4), (6, .int p5), (7, .int p6)] := hl
  have hG0 := hG
  have hZ : gZ ([10] : List Nat) s.heap.size G G := gZ.rf hT
  refine lv_iload_n hx hb dX11_settler_0 rfl (lv_at hl 1 rfl) ?_
  refine lv_iconst (v := 0) hx hb dX11_settler_1 (by decide) ?_
  refine lv_bipush (v := 99) hx hb dX11_settler_2 (by decide) ?_
  have hFc := gA_free hG hA hS
  refine va_calli (va_runS (As := [.int p0, .int 0, .int 99]) (rest := []) ⟨hx, hb, hml, hown, hts⟩ (c_within l dC dI kA adK adV G s.heap nC nS p0 0 99 hT (by omega) (by omega)) (va_cwS 3 hts (goodIn_app (goodIn_r _ [2, 3, 4] rfl (by decide +kernel)) (goodIn_ca (goodIn_r _ [1] rfl (by decide +kernel)) (bs2_in _ _))) rfl rfl rfl (by decide +kernel) ⟨(Nat.le_of_ble_eq_true rfl), (Nat.le_of_ble_eq_true rfl)⟩) ⟨fun a U g mk q => by obtain ⟨q0, q1, qK, qE⟩ := q; exact ⟨q0, q1, va_K.moved (u := U) (U := U.calling g mk a) (Vm.Alike.refl U.vm) qK, EVC.blind g mk a qE⟩, fun U hU hW => ⟨rfl, hU, va_K.moved hW.alike hK, hE.call hS hFc hU hW⟩⟩ rfl rfl hl.1 rfl (lv_room (Nat.le_of_ble_eq_true rfl)) dX11_settler_4 ⟨(Nat.le_of_ble_eq_true rfl), (Nat.le_of_ble_eq_true rfl)⟩) hS (fun q _ h => hFc q h) hFc (fun r1 u t H locs ht hvm hw2 hB _ _ hS => ?_)
  obtain ⟨hT, hF1⟩ := hB
  rw [ht] at hT hF1
  have hF := hF.more (hF1.sub hZ.1) (by decide)
  try dsimp only at hw2
  obtain ⟨h3, hi4, hi5⟩ := hw2
  refine lv_if_eq (tgt := 57) hx hb dX11_settler_7 (by decide) (fun c6 => ?_) (fun c6 => ?_)
  · have t7 : r1.toInt = 0 := ti_eq c6 rfl (by decide)
    have t8 : (0 : Int32).toInt = 0 := by decide
    have t9 : (99 : Int32).toInt = 99 := by decide
    have t10 : p0.toInt < (0 : Int32).toInt ∨ (99 : Int32).toInt < p0.toInt := hi5 c6
    refine lv_iconst (v := 0) hx hb dX11_settler_57 (by decide) ?_
    have hFc := gA_free hG hA hS
    refine vx_callN (vx_runS (As := [.int 0]) (rest := []) ⟨hx, hb, hml, hown, hts⟩ (c_needNumbers0 l hlt dC dI kA adK adV G H nC nS hT (by omega) (by omega)) (va_cwS 1 hts (goodIn_app (goodIn_r _ [8, 9, 4] rfl (by decide +kernel)) (goodIn_ca (goodIn_r _ [5, 6, 7] rfl (by decide +kernel)) (bs2_in _ _))) rfl rfl rfl (by decide +kernel) ⟨(Nat.le_of_ble_eq_true rfl), (Nat.le_of_ble_eq_true rfl)⟩) ⟨fun a U g mk q => by obtain ⟨q0, q1, qK, qE⟩ := q; exact ⟨q0, q1, va_K.moved (u := U) (U := U.calling g mk a) (Vm.Alike.refl U.vm) qK, EVC.blind g mk a qE⟩, fun U hU hW => ⟨rfl, hU, va_K.moved hW.alike hK, hE.call hS hFc hU hW⟩⟩ rfl rfl hl.1 rfl (lv_room (Nat.le_of_ble_eq_true rfl)) dX11_settler_58 ⟨(Nat.le_of_ble_eq_true rfl), (Nat.le_of_ble_eq_true rfl)⟩) hS hFc (fun q _ h => hFc q h) (fun E ce q9 u t H locs ht hvm _ hw12 _ _ hS hce hcv hcl => ?_)
    obtain ⟨hw12, hTx, hFx⟩ := hw12; rw [ht] at hTx hFx
    exact vx_out (fun x h => (hnt x h).elim) hlocks hce hcv hcl (fun t2 h2 hW => ⟨(), trivial, ⟨((fun h9 => (Or.inl h9)) hw12), (Or.inl ⟨hw12, (by first | omega | exact hxf.elim)⟩), by rw [h2]; exact hTx, by rw [h2]; exact hF.more hFx (by decide)⟩, hS.F h2⟩) hS.2.2 (by decide) (by decide)
  · have t13 : r1.toInt ≠ 0 := ti_ne c6 rfl (by decide)
    have t14 : (0 : Int32).toInt = 0 := by decide
    have t15 : (99 : Int32).toInt = 99 := by decide
    have t16 : (0 : Int32).toInt ≤ p0.toInt ∧ p0.toInt ≤ (99 : Int32).toInt := hi4 ((bit_of ⟨by omega, by omega⟩).resolve_left c6)
    refine lv_iload_n hx hb dX11_settler_10 rfl (lv_at hl 2 rfl) ?_
    refine lv_iconst (v := 0) hx hb dX11_settler_11 (by decide) ?_
    refine lv_bipush (v := 20) hx hb dX11_settler_12 (by decide) ?_
    have hFc := gA_free hG hA hS
    refine va_calli (va_runS (As := [.int p1, .int 0, .int 20]) (rest := []) ⟨hx, hb, hml, hown, hts⟩ (c_within l dC dI kA adK adV G H nC nS p1 0 20 hT (by omega) (by omega)) (va_cwS 3 hts (goodIn_app (goodIn_r _ [2, 3, 4] rfl (by decide +kernel)) (goodIn_ca (goodIn_r _ [1] rfl (by decide +kernel)) (bs2_in _ _))) rfl rfl rfl (by decide +kernel) ⟨(Nat.le_of_ble_eq_true rfl), (Nat.le_of_ble_eq_true rfl)⟩) ⟨fun a U g mk q => by obtain ⟨q0, q1, qK, qE⟩ := q; exact ⟨q0, q1, va_K.moved (u := U) (U := U.calling g mk a) (Vm.Alike.refl U.vm) qK, EVC.blind g mk a qE⟩, fun U hU hW => ⟨rfl, hU, va_K.moved hW.alike hK, hE.call hS hFc hU hW⟩⟩ rfl rfl hl.1 rfl (lv_room (Nat.le_of_ble_eq_true rfl)) dX11_settler_14 ⟨(Nat.le_of_ble_eq_true rfl), (Nat.le_of_ble_eq_true rfl)⟩) hS (fun q _ h => hFc q h) hFc (fun r17 u t H locs ht hvm hw18 hB _ _ hS => ?_)
    obtain ⟨hT, hF1⟩ := hB
    rw [ht] at hT hF1
    have hF := hF.more (hF1.sub hZ.1) (by decide)
    try dsimp only at hw18
    obtain ⟨h19, hi20, hi21⟩ := hw18
    refine lv_if_eq (tgt := 57) hx hb dX11_settler_17 (by decide) (fun c22 => ?_) (fun c22 => ?_)
    · have t23 : r17.toInt = 0 := ti_eq c22 rfl (by decide)
      have t24 : (0 : Int32).toInt = 0 := by decide
      have t25 : (20 : Int32).toInt = 20 := by decide
      have t26 : p1.toInt < (0 : Int32).toInt ∨ (20 : Int32).toInt < p1.toInt := hi21 c22
      refine lv_iconst (v := 0) hx hb dX11_settler_57 (by decide) ?_
      have hFc := gA_free hG hA hS
      refine vx_callN (vx_runS (As := [.int 0]) (rest := []) ⟨hx, hb, hml, hown, hts⟩ (c_needNumbers0 l hlt dC dI kA adK adV G H nC nS hT (by omega) (by omega)) (va_cwS 1 hts (goodIn_app (goodIn_r _ [8, 9, 4] rfl (by decide +kernel)) (goodIn_ca (goodIn_r _ [5, 6, 7] rfl (by decide +kernel)) (bs2_in _ _))) rfl rfl rfl (by decide +kernel) ⟨(Nat.le_of_ble_eq_true rfl), (Nat.le_of_ble_eq_true rfl)⟩) ⟨fun a U g mk q => by obtain ⟨q0, q1, qK, qE⟩ := q; exact ⟨q0, q1, va_K.moved (u := U) (U := U.calling g mk a) (Vm.Alike.refl U.vm) qK, EVC.blind g mk a qE⟩, fun U hU hW => ⟨rfl, hU, va_K.moved hW.alike hK, hE.call hS hFc hU hW⟩⟩ rfl rfl hl.1 rfl (lv_room (Nat.le_of_ble_eq_true rfl)) dX11_settler_58 ⟨(Nat.le_of_ble_eq_true rfl), (Nat.le_of_ble_eq_true rfl)⟩) hS hFc (fun q _ h => hFc q h) (fun E ce q9 u t H locs ht hvm _ hw28 _ _ hS hce hcv hcl => ?_)
      obtain ⟨hw28, hTx, hFx⟩ := hw28; rw [ht] at hTx hFx
      exact vx_out (fun x h => (hnt x h).elim) hlocks hce hcv hcl (fun t2 h2 hW => ⟨(), trivial, ⟨((fun h9 => (Or.inl h9)) hw28), (Or.inl ⟨hw28, (by first | omega | exact hxf.elim)⟩), by rw [h2]; exact hTx, by rw [h2]; exact hF.more hFx (by decide)⟩, hS.F h2⟩) hS.2.2 (by decide) (by decide)
    · have t29 : r17.toInt ≠ 0 := ti_ne c22 rfl (by decide)
      have t30 : (0 : Int32).toInt = 0 := by decide
      have t31 : (20 : Int32).toInt = 20 := by decide
      have t32 : (0 : Int32).toInt ≤ p1.toInt ∧ p1.toInt ≤ (20 : Int32).toInt := hi20 ((bit_of ⟨by omega, by omega⟩).resolve_left c22)
      refine lv_iload_n hx hb dX11_settler_20 rfl (lv_at hl 3 rfl) ?_
      refine lv_iconst (v := 0) hx hb dX11_settler_21 (by decide) ?_
      refine lv_ldc (v := 100000) hx hb hown (ht_at2 hts 9 rfl) dX11_settler_22 ?_
      have hFc := gA_free hG hA hS
      refine va_calli (va_runS (As := [.int p2, .int 0, .int 100000]) (rest := []) ⟨hx, hb, hml, hown, hts⟩ (c_within l dC dI kA adK adV G H nC nS p2 0 100000 hT (by omega) (by omega)) (va_cwS 3 hts (goodIn_app (goodIn_r _ [2, 3, 4] rfl (by decide +kernel)) (goodIn_ca (goodIn_r _ [1] rfl (by decide +kernel)) (bs2_in _ _))) rfl rfl rfl (by decide +kernel) ⟨(Nat.le_of_ble_eq_true rfl), (Nat.le_of_ble_eq_true rfl)⟩) ⟨fun a U g mk q => by obtain ⟨q0, q1, qK, qE⟩ := q; exact ⟨q0, q1, va_K.moved (u := U) (U := U.calling g mk a) (Vm.Alike.refl U.vm) qK, EVC.blind g mk a qE⟩, fun U hU hW => ⟨rfl, hU, va_K.moved hW.alike hK, hE.call hS hFc hU hW⟩⟩ rfl rfl hl.1 rfl (lv_room (Nat.le_of_ble_eq_true rfl)) dX11_settler_24 ⟨(Nat.le_of_ble_eq_true rfl), (Nat.le_of_ble_eq_true rfl)⟩) hS (fun q _ h => hFc q h) hFc (fun r33 u t H locs ht hvm hw34 hB _ _ hS => ?_)
      obtain ⟨hT, hF1⟩ := hB
      rw [ht] at hT hF1
      have hF := hF.more (hF1.sub hZ.1) (by decide)
      try dsimp only at hw34
      obtain ⟨h35, hi36, hi37⟩ := hw34
      refine lv_if_eq (tgt := 57) hx hb dX11_settler_27 (by decide) (fun c38 => ?_) (fun c38 => ?_)
      · have t39 : r33.toInt = 0 := ti_eq c38 rfl (by decide)
        have t40 : (0 : Int32).toInt = 0 := by decide
        have t41 : (100000 : Int32).toInt = 100000 := by decide
        have t42 : p2.toInt < (0 : Int32).toInt ∨ (100000 : Int32).toInt < p2.toInt := hi37 c38
        refine lv_iconst (v := 0) hx hb dX11_settler_57 (by decide) ?_
        have hFc := gA_free hG hA hS
        refine vx_callN (vx_runS (As := [.int 0]) (rest := []) ⟨hx, hb, hml, hown, hts⟩ (c_needNumbers0 l hlt dC dI kA adK adV G H nC nS hT (by omega) (by omega)) (va_cwS 1 hts (goodIn_app (goodIn_r _ [8, 9, 4] rfl (by decide +kernel)) (goodIn_ca (goodIn_r _ [5, 6, 7] rfl (by decide +kernel)) (bs2_in _ _))) rfl rfl rfl (by decide +kernel) ⟨(Nat.le_of_ble_eq_true rfl), (Nat.le_of_ble_eq_true rfl)⟩) ⟨fun a U g mk q => by obtain ⟨q0, q1, qK, qE⟩ := q; exact ⟨q0, q1, va_K.moved (u := U) (U := U.calling g mk a) (Vm.Alike.refl U.vm) qK, EVC.blind g mk a qE⟩, fun U hU hW => ⟨rfl, hU, va_K.moved hW.alike hK, hE.call hS hFc hU hW⟩⟩ rfl rfl hl.1 rfl (lv_room (Nat.le_of_ble_eq_true rfl)) dX11_settler_58 ⟨(Nat.le_of_ble_eq_true rfl), (Nat.le_of_ble_eq_true rfl)⟩) hS hFc (fun q _ h => hFc q h) (fun E ce q9 u t H locs ht hvm _ hw44 _ _ hS hce hcv hcl => ?_)
        obtain ⟨hw44, hTx, hFx⟩ := hw44; rw [ht] at hTx hFx
        exact vx_out (fun x h => (hnt x h).elim) hlocks hce hcv hcl (fun t2 h2 hW => ⟨(), trivial, ⟨((fun h9 => (Or.inl h9)) hw44), (Or.inl ⟨hw44, (by first | omega | exact hxf.elim)⟩), by rw [h2]; exact hTx, by rw [h2]; exact hF.more hFx (by decide)⟩, hS.F h2⟩) hS.2.2 (by decide) (by decide)
      · have t45 : r33.toInt ≠ 0 := ti_ne c38 rfl (by decide)
        have t46 : (0 : Int32).toInt = 0 := by decide
        have t47 : (100000 : Int32).toInt = 100000 := by decide
        have t48 : (0 : Int32).toInt ≤ p2.toInt ∧ p2.toInt ≤ (100000 : Int32).toInt := hi36 ((bit_of ⟨by omega, by omega⟩).resolve_left c38)
        refine lv_iload hx hb dX11_settler_30 (lv_at hl 4 rfl) ?_
        refine lv_iconst (v := 0) hx hb dX11_settler_32 (by decide) ?_
        refine lv_bipush (v := 100) hx hb dX11_settler_33 (by decide) ?_
        have hFc := gA_free hG hA hS
        refine va_calli (va_runS (As := [.int p3, .int 0, .int 100]) (rest := []) ⟨hx, hb, hml, hown, hts⟩ (c_within l dC dI kA adK adV G H nC nS p3 0 100 hT (by omega) (by omega)) (va_cwS 3 hts (goodIn_app (goodIn_r _ [2, 3, 4] rfl (by decide +kernel)) (goodIn_ca (goodIn_r _ [1] rfl (by decide +kernel)) (bs2_in _ _))) rfl rfl rfl (by decide +kernel) ⟨(Nat.le_of_ble_eq_true rfl), (Nat.le_of_ble_eq_true rfl)⟩) ⟨fun a U g mk q => by obtain ⟨q0, q1, qK, qE⟩ := q; exact ⟨q0, q1, va_K.moved (u := U) (U := U.calling g mk a) (Vm.Alike.refl U.vm) qK, EVC.blind g mk a qE⟩, fun U hU hW => ⟨rfl, hU, va_K.moved hW.alike hK, hE.call hS hFc hU hW⟩⟩ rfl rfl hl.1 rfl (lv_room (Nat.le_of_ble_eq_true rfl)) dX11_settler_35 ⟨(Nat.le_of_ble_eq_true rfl), (Nat.le_of_ble_eq_true rfl)⟩) hS (fun q _ h => hFc q h) hFc (fun r49 u t H locs ht hvm hw50 hB _ _ hS => ?_)
        obtain ⟨hT, hF1⟩ := hB
        rw [ht] at hT hF1
        have hF := hF.more (hF1.sub hZ.1) (by decide)
        try dsimp only at hw50
        obtain ⟨h51, hi52, hi53⟩ := hw50
        refine lv_if_eq (tgt := 57) hx hb dX11_settler_38 (by decide) (fun c54 => ?_) (fun c54 => ?_)
        · have t55 : r49.toInt = 0 := ti_eq c54 rfl (by decide)
          have t56 : (0 : Int32).toInt = 0 := by decide
          have t57 : (100 : Int32).toInt = 100 := by decide
          have t58 : p3.toInt < (0 : Int32).toInt ∨ (100 : Int32).toInt < p3.toInt := hi53 c54
          refine lv_iconst (v := 0) hx hb dX11_settler_57 (by decide) ?_
          have hFc := gA_free hG hA hS
          refine vx_callN (vx_runS (As := [.int 0]) (rest := []) ⟨hx, hb, hml, hown, hts⟩ (c_needNumbers0 l hlt dC dI kA adK adV G H nC nS hT (by omega) (by omega)) (va_cwS 1 hts (goodIn_app (goodIn_r _ [8, 9, 4] rfl (by decide +kernel)) (goodIn_ca (goodIn_r _ [5, 6, 7] rfl (by decide +kernel)) (bs2_in _ _))) rfl rfl rfl (by decide +kernel) ⟨(Nat.le_of_ble_eq_true rfl), (Nat.le_of_ble_eq_true rfl)⟩) ⟨fun a U g mk q => by obtain ⟨q0, q1, qK, qE⟩ := q; exact ⟨q0, q1, va_K.moved (u := U) (U := U.calling g mk a) (Vm.Alike.refl U.vm) qK, EVC.blind g mk a qE⟩, fun U hU hW => ⟨rfl, hU, va_K.moved hW.alike hK, hE.call hS hFc hU hW⟩⟩ rfl rfl hl.1 rfl (lv_room (Nat.le_of_ble_eq_true rfl)) dX11_settler_58 ⟨(Nat.le_of_ble_eq_true rfl), (Nat.le_of_ble_eq_true rfl)⟩) hS hFc (fun q _ h => hFc q h) (fun E ce q9 u t H locs ht hvm _ hw60 _ _ hS hce hcv hcl => ?_)
          obtain ⟨hw60, hTx, hFx⟩ := hw60; rw [ht] at hTx hFx
          exact vx_out (fun x h => (hnt x h).elim) hlocks hce hcv hcl (fun t2 h2 hW => ⟨(), trivial, ⟨((fun h9 => (Or.inl h9)) hw60), (Or.inl ⟨hw60, (by first | omega | exact hxf.elim)⟩), by rw [h2]; exact hTx, by rw [h2]; exact hF.more hFx (by decide)⟩, hS.F h2⟩) hS.2.2 (by decide) (by decide)
        · have t61 : r49.toInt ≠ 0 := ti_ne c54 rfl (by decide)
          have t62 : (0 : Int32).toInt = 0 := by decide
          have t63 : (100 : Int32).toInt = 100 := by decide
          have t64 : (0 : Int32).toInt ≤ p3.toInt ∧ p3.toInt ≤ (100 : Int32).toInt := hi52 ((bit_of ⟨by omega, by omega⟩).resolve_left c54)
          refine lv_iload hx hb dX11_settler_41 (lv_at hl 7 rfl) ?_
          refine lv_iconst (v := 0) hx hb dX11_settler_43 (by decide) ?_
          refine lv_ldcw (v := 999999) hx hb hown (ht_at2 hts 10 rfl) dX11_settler_44 ?_
          have hFc := gA_free hG hA hS
          refine va_calli (va_runS (As := [.int p6, .int 0, .int 999999]) (rest := []) ⟨hx, hb, hml, hown, hts⟩ (c_within l dC dI kA adK adV G H nC nS p6 0 999999 hT (by omega) (by omega)) (va_cwS 3 hts (goodIn_app (goodIn_r _ [2, 3, 4] rfl (by decide +kernel)) (goodIn_ca (goodIn_r _ [1] rfl (by decide +kernel)) (bs2_in _ _))) rfl rfl rfl (by decide +kernel) ⟨(Nat.le_of_ble_eq_true rfl), (Nat.le_of_ble_eq_true rfl)⟩) ⟨fun a U g mk q => by obtain ⟨q0, q1, qK, qE⟩ := q; exact ⟨q0, q1, va_K.moved (u := U) (U := U.calling g mk a) (Vm.Alike.refl U.vm) qK, EVC.blind g mk a qE⟩, fun U hU hW => ⟨rfl, hU, va_K.moved hW.alike hK, hE.call hS hFc hU hW⟩⟩ rfl rfl hl.1 rfl (lv_room (Nat.le_of_ble_eq_true rfl)) dX11_settler_47 ⟨(Nat.le_of_ble_eq_true rfl), (Nat.le_of_ble_eq_true rfl)⟩) hS (fun q _ h => hFc q h) hFc (fun r65 u t H locs ht hvm hw66 hB _ _ hS => ?_)
          obtain ⟨hT, hF1⟩ := hB
          rw [ht] at hT hF1
          have hF := hF.more (hF1.sub hZ.1) (by decide)
          try dsimp only at hw66
          obtain ⟨h67, hi68, hi69⟩ := hw66
          refine lv_if_eq (tgt := 57) hx hb dX11_settler_50 (by decide) (fun c70 => ?_) (fun c70 => ?_)
          · have t71 : r65.toInt = 0 := ti_eq c70 rfl (by decide)
            have t72 : (0 : Int32).toInt = 0 := by decide
            have t73 : (999999 : Int32).toInt = 999999 := by decide
            have t74 : p6.toInt < (0 : Int32).toInt ∨ (999999 : Int32).toInt < p6.toInt := hi69 c70
            refine lv_iconst (v := 0) hx hb dX11_settler_57 (by decide) ?_
            have hFc := gA_free hG hA hS
            refine vx_callN (vx_runS (As := [.int 0]) (rest := []) ⟨hx, hb, hml, hown, hts⟩ (c_needNumbers0 l hlt dC dI kA adK adV G H nC nS hT (by omega) (by omega)) (va_cwS 1 hts (goodIn_app (goodIn_r _ [8, 9, 4] rfl (by decide +kernel)) (goodIn_ca (goodIn_r _ [5, 6, 7] rfl (by decide +kernel)) (bs2_in _ _))) rfl rfl rfl (by decide +kernel) ⟨(Nat.le_of_ble_eq_true rfl), (Nat.le_of_ble_eq_true rfl)⟩) ⟨fun a U g mk q => by obtain ⟨q0, q1, qK, qE⟩ := q; exact ⟨q0, q1, va_K.moved (u := U) (U := U.calling g mk a) (Vm.Alike.refl U.vm) qK, EVC.blind g mk a qE⟩, fun U hU hW => ⟨rfl, hU, va_K.moved hW.alike hK, hE.call hS hFc hU hW⟩⟩ rfl rfl hl.1 rfl (lv_room (Nat.le_of_ble_eq_true rfl)) dX11_settler_58 ⟨(Nat.le_of_ble_eq_true rfl), (Nat.le_of_ble_eq_true rfl)⟩) hS hFc (fun q _ h => hFc q h) (fun E ce q9 u t H locs ht hvm _ hw76 _ _ hS hce hcv hcl => ?_)
            obtain ⟨hw76, hTx, hFx⟩ := hw76; rw [ht] at hTx hFx
            exact vx_out (fun x h => (hnt x h).elim) hlocks hce hcv hcl (fun t2 h2 hW => ⟨(), trivial, ⟨((fun h9 => (Or.inl h9)) hw76), (Or.inl ⟨hw76, (by first | omega | exact hxf.elim)⟩), by rw [h2]; exact hTx, by rw [h2]; exact hF.more hFx (by decide)⟩, hS.F h2⟩) hS.2.2 (by decide) (by decide)
          · have t77 : r65.toInt ≠ 0 := ti_ne c70 rfl (by decide)
            have t78 : (0 : Int32).toInt = 0 := by decide
            have t79 : (999999 : Int32).toInt = 999999 := by decide
            have t80 : (0 : Int32).toInt ≤ p6.toInt ∧ p6.toInt ≤ (999999 : Int32).toInt := hi68 ((bit_of ⟨by omega, by omega⟩).resolve_left c70)
            refine lv_iconst (v := 1) hx hb dX11_settler_53 (by decide) ?_
            refine lv_goto (tgt := 58) hx hb dX11_settler_54 (by decide) ?_
            have hFc := gA_free hG hA hS
            refine vx_callv (vx_runS (As := [.int 1]) (rest := []) ⟨hx, hb, hml, hown, hts⟩ (c_needNumbers1X l hlt dC dI kA adK adV G H nC nS hT (by omega) (by omega)) (va_cwS 1 hts (goodIn_app (goodIn_r _ [8, 9, 4] rfl (by decide +kernel)) (goodIn_ca (goodIn_r _ [5] rfl (by decide +kernel)) (bs2_in _ _))) rfl rfl rfl (by decide +kernel) ⟨(Nat.le_of_ble_eq_true rfl), (Nat.le_of_ble_eq_true rfl)⟩) ⟨fun a U g mk q => by obtain ⟨q0, q1, qK, qE⟩ := q; exact ⟨q0, q1, va_K.moved (u := U) (U := U.calling g mk a) (Vm.Alike.refl U.vm) qK, EVC.blind g mk a qE⟩, fun U hU hW => ⟨rfl, hU, va_K.moved hW.alike hK, hE.call hS hFc hU hW⟩⟩ rfl rfl hl.1 rfl (lv_room (Nat.le_of_ble_eq_true rfl)) dX11_settler_58 ⟨(Nat.le_of_ble_eq_true rfl), (Nat.le_of_ble_eq_true rfl)⟩) hS (fun q _ h => hFc q h) hFc (fun q _ h => hFc q h) (fun E ce q9 u t H locs ht hvm _ hw82 _ _ hS hce hcv hcl => ?_) (fun u t H locs ht hvm hw82 hB _ _ hS => ?_)
            · obtain ⟨hw82, hxf, hTx, hFx⟩ := hw82; rw [ht] at hTx hFx
              exact vx_out (fun x h => (hnt x h).elim) hlocks hce hcv hcl (fun t2 h2 hW => ⟨(), trivial, ⟨((fun h9 => (Or.inl h9)) hw82), (Or.inl ⟨hw82, (by first | omega | exact hxf.elim)⟩), by rw [h2]; exact hTx, by rw [h2]; exact hF.more hFx (by decide)⟩, hS.F h2⟩) hS.2.2 (by decide) (by decide)
            · obtain ⟨hT, hF1⟩ := hB
              rw [ht] at hT hF1
              have hF := hF.more (hF1.sub hZ.1) (by decide)
              try dsimp only at hw82
              refine lv_aload_n hx hb dX11_settler_61 rfl (lv_at hl 0 rfl) ?_
              refine tw_get hx hb hts bF2_X11 hown hK hT hr_o0 shc_14 rfl 3 (by decide) (ht_at2 hts 11 rfl) (fun _ h9 => h9) dX11_settler_62 (fun v9 m83 h9 => ?_)
              obtain ⟨b84, rfl, hg85⟩ := h9 _ rfl
              refine tw_getN hx hb hts bF2_X0 hown hK hT hg85 shc_3 rfl 14 (by decide) (hE.nw 30 rfl) (fun _ h9 => h9) dX11_settler_65 (fun v9 m86 h9 => ?_)
              obtain ⟨x87, rfl, gx87, kx87⟩ := h9 _ rfl
              refine lv_bipush (v := 60) hx hb dX11_settler_68 (by decide) ?_
              refine lv_icmp_ne (tgt := 84) hx hb dX11_settler_70 (by decide) (fun c88 => ?_) (fun c88 => ?_)
              · have t89 : x87.toInt ≠ 60 := ti_ne c88 rfl (by decide)
                refine lv_aload_n hx hb dX11_settler_84 rfl (lv_at hl 0 rfl) ?_
                refine tw_getM (v := .ref b84) hx hb hts bF2_X11 hown hK hT hr_o0 shc_14 rfl 3 (by decide) (ht_at2 hts 11 rfl) (fun _ h9 => h9) m83 dX11_settler_85 ?_
                have hz9 := hS.1
                refine tw_new hx hb hts bF2_X7 tyX7 tyX7_ok hown (ht_at2 hts 12 rfl) (ht_at2 hts 13 rfl) (ht_at2 hts 14 rfl) hK mon_c hT hS hG hA (shc_10) rfl nd_10 (Nat.le_of_ble_eq_true rfl) (Nat.le_of_ble_eq_true rfl) dX11_settler_88 (fun q90 G1 H hq9 eG hz1 hz2 hT hx9 hG hm9 hS => ?_)
                have hn_q90 : s.heap.size ≤ q90 := Nat.le_trans hz9 (Nat.le_of_eq hz2)
                have hF := hF.same (fun a t h => (hx9 _ _ (hZ.1 a t h)).2)
                have hZ := hZ.new hn_q90 eG hx9 (by decide)
                have hu_o := hZ.uniq hu_o0 (by decide)
                have hu_a := hZ.uniq hu_a0 (by decide)
                have m91 := (el_kept (hx9 _ _ hr_o0).2).trans m83
                have m92 := (el_kept (hx9 _ _ hg85).2).trans m86
                have hg93 := (hx9 _ _ hr_o0).1
                have hg94 := (hx9 _ _ hg85).1
                have hg95 : G1 q90 = some 10 := by rw [eG]; exact gU_at
                refine lv_dup hx hb dX11_settler_91 rfl ?_
                refine lv_iload_n hx hb dX11_settler_92 rfl (lv_at hl 1 rfl) ?_
                refine lv_iload_n hx hb dX11_settler_93 rfl (lv_at hl 2 rfl) ?_
                refine lv_iload_n hx hb dX11_settler_94 rfl (lv_at hl 3 rfl) ?_
                refine lv_iload hx hb dX11_settler_95 (lv_at hl 4 rfl) ?_
                refine lv_iload hx hb dX11_settler_97 (lv_at hl 5 rfl) ?_
                refine lv_iload hx hb dX11_settler_99 (lv_at hl 6 rfl) ?_
                refine lv_iload hx hb dX11_settler_101 (lv_at hl 7 rfl) ?_
                have hFc := gA_free hG hA hS
                refine va_callv (va_runI (As := [.int p0, .int p1, .int p2, .int p3, .int p4, .int p5, .int p6]) (rest := [.ref q90, .ref b84]) ⟨hx, hb, hml, hown, hts⟩ (c_X7_init l dC dI kA adK adV G1 H nC nS q90 p0 p1 p2 p3 p4 p5 p6 hT hg95 (by have q8 := ti_all p4; omega) (by have q8 := ti_all p5; omega) (by omega) (by omega)) (cwI 7 hts (goodIn_ca (goodIn_r _ [16, 17, 18, 19, 20, 21, 22, 23, 24, 25, 26, 27] rfl (by decide +kernel)) (bs2_in _ _)) rfl rfl rfl (ht_at2 hts 14 rfl) (ht_at2 hts 27 rfl) (ht_at2 hts 28 rfl) rfl (by decide +kernel) ⟨(Nat.le_of_ble_eq_true rfl), (Nat.le_of_ble_eq_true rfl)⟩) ⟨fun a U g mk q => by obtain ⟨q0, q1, qK, qE⟩ := q; exact ⟨q0, q1, va_K.moved (u := U) (U := U.calling g mk a) (Vm.Alike.refl U.vm) qK, EVC.blind g mk a qE⟩, fun U hU hW => ⟨rfl, hU, va_K.moved hW.alike hK, hE.call hS hFc hU hW⟩⟩ rfl rfl hl.1 rfl (lv_room (Nat.le_of_ble_eq_true rfl)) dX11_settler_103 ⟨(Nat.le_of_ble_eq_true rfl), (Nat.le_of_ble_eq_true rfl)⟩) hS (fun q _ h => hFc q h) hFc (fun u t H locs ht hvm hw97 hB _ _ hS => ?_)
                obtain ⟨hT, hF1⟩ := hB
                rw [ht] at hT hF1
                have m98 := (hF1.fld hg93 skc_14 (k := 3) (by decide) (by decide)).trans m91
                have m99 := (hF1.fld hg94 skc_3 (k := 14) (by decide) (by decide)).trans m92
                have hF := hF.more (hF1.sub hZ.1) (by decide)
                try dsimp only at hw97
                have hFc := gA_free hG hA hS
                refine va_calli (va_runV (As := [.ref q90]) (rest := []) ⟨hx, hb, hml, hown, hts⟩ (c_settle l dC dI kA adK adV G1 H nC nS b84 q90 wa hT hg95 hg94 (fun b h => (hu_o b h).trans (hu_o b84 hg94).symm) hu_a (by omega) (by omega) (by omega)) (cwV 1 hts (goodIn_app (goodIn_r _ [33, 34, 35, 36] rfl (by decide +kernel)) (goodIn_ca (goodIn_r _ [30, 31, 32] rfl (by decide +kernel)) (bs2_in _ _))) rfl rfl rfl (by decide +kernel) ⟨(Nat.le_of_ble_eq_true rfl), (Nat.le_of_ble_eq_true rfl)⟩) ⟨fun a U g mk q => by obtain ⟨q0, q1, qK, qE⟩ := q; exact ⟨q0, q1, va_K.moved (u := U) (U := U.calling g mk a) (Vm.Alike.refl U.vm) qK, EVC.blind g mk a qE⟩, gH_recv hK hT hg94 shc_3 rfl, fun U hU hW => ⟨rfl, hU, va_K.moved hW.alike hK, hE.call hS hFc hU hW⟩⟩ rfl rfl hl.1 rfl (lv_room (Nat.le_of_ble_eq_true rfl)) dX11_settler_106 ⟨(Nat.le_of_ble_eq_true rfl), (Nat.le_of_ble_eq_true rfl)⟩) hS (fun q _ h => hFc q h) hFc (fun r100 u t H locs ht hvm hw101 hB _ _ hS => ?_)
                obtain ⟨hT, hF1⟩ := hB
                rw [ht] at hT hF1
                have m102 := (hF1.fld hg93 skc_14 (k := 3) (by decide) (by decide)).trans m98
                have hF := hF.more (hF1.sub hZ.1) (by decide)
                try dsimp only at hw101
                obtain ⟨h104, hf105⟩ := hw101
                exact vx_ret (W.iret (v := r100) hx hb hr (fun t ht hW => ⟨⟨r100, (G1, nC, (nS + 1)), rfl, (by exact ⟨(by have q8 := ti_all r100; omega), (by omega)⟩), by (try dsimp only); rw [ht]; exact ⟨hT, hF, hZ, (by omega), (by omega)⟩⟩, hS.F ht⟩) hS.2.2 dX11_settler_109)
              · have t106 : x87.toInt = 60 := ti_eq c88 rfl (by decide)
                obtain ⟨sa107, hsa107⟩ := hE.str 8 rfl
                exact vx_throwSW (names := ["java/lang/RuntimeException", "java/lang/Exception"]) hx hb hlt hown (by decide +kernel) (by decide +kernel) (ht_at2 hts 36 rfl) (ht_at2 hts 37 rfl) hsa107 (bX2_at4 hts hE) bX_ok4_345 hE.1.1.2.2.1 hE.1.1.2.2.2 hS (by rw [hml]; exact hl.1) dX11_settler_73 dX11_settler_76 dX11_settler_77 dX11_settler_80 dX11_settler_83 (fun x h => (hnt x h).elim) (by decide) (Nat.le_of_ble_eq_true rfl) (Nat.le_of_ble_eq_true rfl) (Nat.le_of_ble_eq_true rfl) hlocks (fun t hW hz hq => ⟨(), trivial, ⟨(Or.inr rfl), (Or.inr (⟨rfl, (by first | omega | exact hxf.elim)⟩)), hT.ext hq, hF.ext hT hq⟩, Nat.le_trans hS.1 hz, fun q h1 h2 => (hq q (Nat.lt_of_lt_of_le h1 hS.1)).trans (hS.2.1 q h1 h2)⟩) hS.2.2 (by decide) (by decide)
def w_l_settlerO : List Cond := .codeWith yL_settler cL_settler 10 (some .int) [(0, 20, 23, 15), (0, 20, 27, 45)] :: (HAppend.hAppend (α := List Cond) (β := List Cond) (γ := List Cond) [.code yX11_settler cX11_settler 8 (some .int), .code yX11_within cX11_within 3 (some .boolean), .methodLink RX11 58 yX11_within, .static yX11_within, .initialized RX11, .code yX11_needNumbers cX11_needNumbers 1 none, .classLink RX11 547 "java/lang/IllegalArgumentException", .initialized "java/lang/IllegalArgumentException", .methodLink RX11 62 yX11_needNumbers, .static yX11_needNumbers, .constant RX11 96 100000, .constant RX11 341 999999, .fieldLink RX11 30 "SeaLand" "board" "LSeaLand$Board;", .classLink RX11 350 RX7, .instantiable RX7 12, .initialized RX7, .code yX7_init cX7_init 8 none, .methodLink RX7 3 objectInit, .instanceMethod objectInit, .code objectInit ⟨#[0xb1]⟩ 1 none, .fieldLink RX7 9 "SeaLand$Settler" "farm" "I", .fieldLink RX7 15 "SeaLand$Settler" "age" "I", .fieldLink RX7 18 "SeaLand$Settler" "sons" "I", .fieldLink RX7 21 "SeaLand$Settler" "coin" "I", .fieldLink RX7 24 "SeaLand$Settler" "cattle" "I", .fieldLink RX7 27 "SeaLand$Settler" "kin" "Z", .fieldLink RX7 31 "SeaLand$Settler" "board" "Z", .fieldLink RX7 34 "SeaLand$Settler" "drawn" "I", .methodLink RX11 352 yX7_init, .instanceMethod yX7_init, .code yX0_settle cX0_settle 2 (some .int), .fieldLink RX0 11 "SeaLand$Board" "settlers" "[LSeaLand$Settler;", .fieldLink RX0 75 "SeaLand$Board" "settled" "I", .methodLink RX11 355 yX0_settle, .instanceMethod yX0_settle, .selects RX0 yX0_settle yX0_settle, .initialized RX0, .classLink RX11 345 "java/lang/UnsupportedOperationException", .initialized "java/lang/UnsupportedOperationException", .methodLink RL 110 yX11_settler, .instanceMethod yX11_settler, .selects RX11 yX11_settler yX11_settler, .classLink RL 15 "java/lang/IllegalArgumentException", .classLink RL 45 "java/lang/UnsupportedOperationException"] bs2)
set_option maxHeartbeats 4000000 in
set_option maxRecDepth 100000 in
theorem l_settlerO (l : Launch) (hlt : l.stackTraces = false) (dC : Nat → ClassId) (dI : Nat → Nat → Nat) (kA : Nat → ClassId) (adK adV : Nat → Nat) (G : gT) (H0 : Heap) (nC nS : Int) (o0 : Nat) (p1 : Int32) (p2 : Int32) (p3 : Int32) (p4 : Int32) (p5 : Int32) (p6 : Int32) (p7 : Int32) (ou : Nat) (wa : Nat) (bo : Nat) (hT : gH (dC, dI) kA (SHc nC nS) G H0) (hr_o0 : G o0 = some 14) (hq5 : 0 ≤ p5.toInt ∧ p5.toInt ≤ 1) (hq6 : 0 ≤ p6.toInt ∧ p6.toInt ≤ 1) (hr_ou : G ou = some 98) (hu_o0 : ∀ b, G b = some 3 → b = bo) (hu_a0 : ∀ b, G b = some 51 → b = wa) (hgC : 0 ≤ nC ∧ nC ≤ 40) (hgS : 0 ≤ nS ∧ nS ≤ 60) : Met l yL_settler w_l_settlerO ({ frames := 8, cells := 1, slots := 12, locals := 147 }) (va_Pc [.ref o0, .int p1, .int p2, .int p3, .int p4, .int p5, .int p6, .int p7, .ref ou] (fun U => U.heap = H0 ∧ va_K (dC, dI) vwCl (tyl kA) U ∧ EVC adK adV (gA G H0.size) U U.heap ∧ NC U ∧ AO U)) (va_Qi (fun (r : Int32) (u : gT × Int × Int × Int32 × Int32) => match u with | (G1, n1, n2, c1, a1) => (0 ≤ r.toInt ∧ r.toInt ≤ 2) ∧ ((c1.toInt = 0 ∧ r.toInt = 0 ∧ (0 ≤ p1.toInt ∧ p1.toInt ≤ 99 ∧ 0 ≤ p2.toInt ∧ p2.toInt ≤ 20 ∧ 0 ≤ p3.toInt ∧ p3.toInt ≤ 100000 ∧ 0 ≤ p4.toInt ∧ p4.toInt ≤ 100 ∧ 0 ≤ p7.toInt ∧ p7.toInt ≤ 999999) ∧ nS ≤ 59 ∧ a1.toInt = nS ∧ n2 = nS + 1) ∨ (c1.toInt = 1 ∧ r.toInt = 1 ∧ ¬ (0 ≤ p1.toInt ∧ p1.toInt ≤ 99 ∧ 0 ≤ p2.toInt ∧ p2.toInt ≤ 20 ∧ 0 ≤ p3.toInt ∧ p3.toInt ≤ 100000 ∧ 0 ≤ p4.toInt ∧ p4.toInt ≤ 100 ∧ 0 ≤ p7.toInt ∧ p7.toInt ≤ 999999) ∧ n2 = nS) ∨ (c1.toInt = 2 ∧ r.toInt = 2 ∧ (0 ≤ p1.toInt ∧ p1.toInt ≤ 99 ∧ 0 ≤ p2.toInt ∧ p2.toInt ≤ 20 ∧ 0 ≤ p3.toInt ∧ p3.toInt ≤ 100000 ∧ 0 ≤ p4.toInt ∧ p4.toInt ≤ 100 ∧ 0 ≤ p7.toInt ∧ p7.toInt ≤ 999999) ∧ nS = 60 ∧ n2 = nS))) (fun (u : gT × Int × Int × Int32 × Int32) (t : State) => match u with | (G1, n1, n2, c1, a1) => gH (dC, dI) kA (SHc n1 n2) G1 t.heap ∧ gF (dC, dI) SKc G ([(3, 14), (10, 0), (10, 1), (10, 2), (10, 3), (10, 4), (10, 5), (10, 6), (10, 7), (51, 0), (98, 0)] : List (Nat × Nat)) H0 t.heap ∧ gZ ([10] : List Nat) H0.size G G1 ∧ (0 ≤ n1 ∧ n1 ≤ 40) ∧ (0 ≤ n2 ∧ n2 ≤ 60) ∧ (c1 = 0 → el t.heap ou 0 = some (.long a1.toInt64))) (gA G H0.size)) 1 12 (gA G H0.size) := by
  refine va_MetW (cc := cL_settler) (maxL := 10) (ret := (some .int)) (by decide) rfl ?_
  intro p e s m args below meth c s₁ B hml hv
  obtain ⟨rfl, hH0, hK, hE, hN, hAO⟩ := hv
  have hx := B.exec
  have hb := B.bytes
  have hr := B.returns
  have hts := atoms_spec (ws := w_l_settlerO) B.pre
  have hown : s.vm.findClass RL = some m.cls := findClass_of_methodNamed B.named
  have hlocks := B.notSynchronized
  have htab := vx_table (x := yL_settler) B (hts _ List.mem_cons_self)
  subst hH0
  generalize hAe : gA G s.heap.size = A at hE ⊢
  have hA : ∀ q : Nat, s.heap.size ≤ q → A q := fun q h => by rw [← hAe]; exact Or.inr h
  have hG := gA_of hAe
  have hS : va_S A s.heap s.heap [] := va_S.rf
  have hF : gF (dC, dI) SKc G ([(3, 14), (10, 0), (10, 1), (10, 2), (10, 3), (10, 4), (10, 5), (10, 6), (10, 7), (51, 0), (98, 0)] : List (Nat × Nat)) s.heap s.heap := gF.rf
  have hl := lv_entry ([.ref o0, .int p1, .int p2, .int p3, .int p4, .int p5, .int p6, .int p7, .ref ou]) (n := 10) (Nat.le_of_ble_eq_true rfl)
  rw [lg_entry_eq]
  generalize (lg_sl ([.ref o0, .int p1, .int p2, .int p3, .int p4, .int p5, .int p6, .int p7, .ref ou]) ++ List.replicate (10 - (lg_sl ([.ref o0, .int p1, .int p2, .int p3, .int p4, .int p5, .int p6, .int p7, .ref ou])).length) Slot.unset).toArray = ls at hl ⊢
  have hl : lv_has ls 10 [(0, .ref o0), (1, .int p1), (2, .int p2), (3, .int p3), (4, .int p4), (5, .int p5), (6, .int p6), (7, .int p7), (8, .ref ou)] := hl
  have hG0 := hG
  have hZ : gZ ([10] : List Nat) s.heap.size G G := gZ.rf hT
  refine lv_aload hx hb dL_settler_0 (lv_at hl 8 rfl) ?_
  refine lv_iconst (v := 0) hx hb dL_settler_2 (by decide) ?_
  refine lv_aload_n hx hb dL_settler_3 rfl (lv_at hl 0 rfl) ?_
  refine lv_iload_n hx hb dL_settler_4 rfl (lv_at hl 1 rfl) ?_
  refine lv_iload_n hx hb dL_settler_5 rfl (lv_at hl 2 rfl) ?_
  refine lv_iload_n hx hb dL_settler_6 rfl (lv_at hl 3 rfl) ?_
  refine lv_iload hx hb dL_settler_7 (lv_at hl 4 rfl) ?_
  refine lv_iload hx hb dL_settler_9 (lv_at hl 5 rfl) ?_
  refine lv_iload hx hb dL_settler_11 (lv_at hl 6 rfl) ?_
  refine lv_iload hx hb dL_settler_13 (lv_at hl 7 rfl) ?_
  have hFc := gA_free hG hA hS
  refine vx_calli (vx_runV (As := [.int p1, .int p2, .int p3, .int p4, .int p5, .int p6, .int p7]) (rest := [.int 0, .ref ou]) ⟨hx, hb, hml, hown, hts⟩ (c_settlerE l hlt dC dI kA adK adV G s.heap nC nS o0 p1 p2 p3 p4 p5 p6 p7 wa bo hT hr_o0 (by have q8 := ti_all p5; omega) (by have q8 := ti_all p6; omega) hu_o0 hu_a0 (by omega) (by omega)) (cwV 7 hts (goodIn_app (goodIn_r _ [40, 41, 42, 5] rfl (by decide +kernel)) (goodIn_ca (goodIn_r _ [1, 2, 3, 4, 5, 6, 7, 8, 9, 10, 11, 12, 13, 14, 15, 16, 17, 18, 19, 20, 21, 22, 23, 24, 25, 26, 27, 28, 29, 30, 31, 32, 33, 34, 35, 36, 37, 38, 39] rfl (by decide +kernel)) (bs2_in _ _))) rfl rfl rfl (by decide +kernel) ⟨(Nat.le_of_ble_eq_true rfl), (Nat.le_of_ble_eq_true rfl)⟩) ⟨fun a U g mk q => by obtain ⟨q0, q1, qK, qE⟩ := q; exact ⟨q0, q1, va_K.moved (u := U) (U := U.calling g mk a) (Vm.Alike.refl U.vm) qK, EVC.blind g mk a qE⟩, gH_recv hK hT hr_o0 shc_14 rfl, fun U hU hW => ⟨rfl, hU, va_K.moved hW.alike hK, hE.call hS hFc hU hW⟩⟩ rfl rfl hl.1 rfl (lv_room (Nat.le_of_ble_eq_true rfl)) dL_settler_15 ⟨(Nat.le_of_ble_eq_true rfl), (Nat.le_of_ble_eq_true rfl)⟩) hS (fun q _ h => hFc q h) hFc (fun q _ h => hFc q h) (fun E ce q9 u t H locs ht hvm _ hw2 _ _ hS hce hcv hcl => ?_) (fun r1 u t H locs ht hvm hw2 hB _ _ hS => ?_)
  · obtain ⟨hw2, hxf, hTx, hFx⟩ := hw2; rw [ht] at hTx hFx
    have hT := hTx; have hF := hF.more (hFx.sub hZ.1) (by decide)
    rcases hw2 with rfl | rfl
    · have hxf := (hxf.resolve_right (fun h => absurd h.1 (by decide))).2
      refine vx_catch (E := "java/lang/IllegalArgumentException") hown [] ⟨0, 20, 23, 15⟩ [⟨0, 20, 27, 45⟩] (by rw [htab]; rfl) (fun z h => absurd h List.not_mem_nil) (by decide) (by decide) (ht_at2 hts 42 rfl) (va_Nw.use rfl (hE.1.1.2.1.2.1 _ (List.mem_of_getElem? (i := 1) rfl))) hce hcv hcl ?_
      refine lv_astore (lv' := [(9, .ref q9), (0, .ref o0), (1, .int p1), (2, .int p2), (3, .int p3), (4, .int p4), (5, .int p5), (6, .int p6), (7, .int p7), (8, .ref ou)]) hx hb dL_settler_23 hl (by decide) rfl (fun ls hl => ?_)
      refine lv_iconst (v := 1) hx hb dL_settler_25 (by decide) ?_
      exact W.iret (v := 1) hx hb hr (fun t ht hW => ⟨⟨1, (G, nC, nS, (1 : Int32), (0 : Int32)), rfl, (by exact ⟨(rg_t (a := 1) (by decide) (by omega) (by omega)), (by have : (1 : Int32).toInt = 1 := (by decide); omega)⟩), by (try dsimp only); rw [ht]; exact ⟨hT, hF, hZ, (by omega), (by omega), (fun h => absurd h (by decide))⟩⟩, hS.F ht⟩) hS.2.2 dL_settler_26
    · have hxf := (hxf.resolve_left (fun h => absurd h.1 (by decide))).2
      refine vx_catch (E := "java/lang/UnsupportedOperationException") hown [⟨0, 20, 23, 15⟩] ⟨0, 20, 27, 45⟩ [] (by rw [htab]; rfl) (fun z h => by
          simp only [List.mem_cons, List.not_mem_nil, or_false] at h
          rcases h with rfl
          · exact Or.inr ⟨by decide, "java/lang/IllegalArgumentException", (ht_at2 hts 42 rfl), hN ("java/lang/UnsupportedOperationException", "java/lang/IllegalArgumentException") (by decide +kernel)⟩) (by decide) (by decide) (ht_at2 hts 43 rfl) (va_Nw.use rfl (hE.2 _ (List.mem_of_getElem? (i := 0) rfl))) hce hcv hcl ?_
      refine lv_astore (lv' := [(9, .ref q9), (0, .ref o0), (1, .int p1), (2, .int p2), (3, .int p3), (4, .int p4), (5, .int p5), (6, .int p6), (7, .int p7), (8, .ref ou)]) hx hb dL_settler_27 hl (by decide) rfl (fun ls hl => ?_)
      refine lv_iconst (v := 2) hx hb dL_settler_29 (by decide) ?_
      exact W.iret (v := 2) hx hb hr (fun t ht hW => ⟨⟨2, (G, nC, nS, (2 : Int32), (0 : Int32)), rfl, (by exact ⟨(rg_t (a := 2) (by decide) (by omega) (by omega)), (by have : (2 : Int32).toInt = 2 := (by decide); omega)⟩), by (try dsimp only); rw [ht]; exact ⟨hT, hF, hZ, (by omega), (by omega), (fun h => absurd h (by decide))⟩⟩, hS.F ht⟩) hS.2.2 dL_settler_30
  · have hf9 := hw2.2; have hw2 := hw2.1
    obtain ⟨G1, n1, n2⟩ := u; obtain ⟨hT, hF1, hZ1, hn1, hn2⟩ := hB; rw [ht] at hT hF1
    have hF := hF.more hF1 (by decide)
    have hZ := hZ1
    have hG := hZ.A hG0 hA
    have hg3 := hZ.1 _ _ hr_o0
    have hg4 := hZ.1 _ _ hr_ou
    have t5 : 0 ≤ r1.toInt ∧ r1.toInt ≤ 59 := hw2
    refine lv_i2l (v := r1.toInt64) hx hb dL_settler_18 rfl ?_
    refine tw_last (i := 0)  hx hb hK hT hG hS hg4 shc_98 rfl (by unfold vp_in; decide) ⟨_, rfl⟩ dL_settler_19 (fun H locs hT oq m6 oi hS => ?_)
    have hF := gF.astX hZ.1 hF hg4 skc_98 oq (by decide)
    refine lv_goto (tgt := 31) hx hb dL_settler_20 (by decide) ?_
    refine lv_iconst (v := 0) hx hb dL_settler_31 (by decide) ?_
    exact W.iret (v := 0) hx hb hr (fun t ht hW => ⟨⟨0, (G1, n1, n2, (0 : Int32), r1), rfl, (by exact ⟨(rg_t (a := 0) (by decide) (by omega) (by omega)), (by have : (0 : Int32).toInt = 0 := (by decide); omega)⟩), by (try dsimp only); rw [ht]; exact ⟨hT, hF, hZ, (by omega), (by omega), (fun _ => m6)⟩⟩, hS.F ht⟩) hS.2.2 dL_settler_32

