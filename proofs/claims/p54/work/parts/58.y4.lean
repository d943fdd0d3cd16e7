def w_c_settler : List Cond := .code yX11_settler cX11_settler 8 (some .int) :: (HAppend.hAppend (α := List Cond) (β := List Cond) (γ := List Cond) [.code yX11_within cX11_within 3 (some .boolean), .methodLink RX11 58 yX11_within, .static yX11_within, .initialized RX11, .code yX11_needNumbers cX11_needNumbers 1 none, .classLink RX11 547 "java/lang/IllegalArgumentException", .initialized "java/lang/IllegalArgumentException", .methodLink RX11 62 yX11_needNumbers, .static yX11_needNumbers, .constant RX11 96 100000, .constant RX11 341 999999, .fieldLink RX11 30 "SeaLand" "board" "LSeaLand$Board;", .classLink RX11 350 RX7, .instantiable RX7 12, .initialized RX7, .code yX7_init cX7_init 8 none, .methodLink RX7 3 objectInit, .instanceMethod objectInit, .code objectInit ⟨#[0xb1]⟩ 1 none, .fieldLink RX7 9 "SeaLand$Settler" "farm" "I", .fieldLink RX7 15 "SeaLand$Settler" "age" "I", .fieldLink RX7 18 "SeaLand$Settler" "sons" "I", .fieldLink RX7 21 "SeaLand$Settler" "coin" "I", .fieldLink RX7 24 "SeaLand$Settler" "cattle" "I", .fieldLink RX7 27 "SeaLand$Settler" "kin" "Z", .fieldLink RX7 31 "SeaLand$Settler" "board" "Z", .fieldLink RX7 34 "SeaLand$Settler" "drawn" "I", .methodLink RX11 352 yX7_init, .instanceMethod yX7_init, .code yX0_settle cX0_settle 2 (some .int), .fieldLink RX0 11 "SeaLand$Board" "settlers" "[LSeaLand$Settler;", .fieldLink RX0 75 "SeaLand$Board" "settled" "I", .methodLink RX11 355 yX0_settle, .instanceMethod yX0_settle, .selects RX0 yX0_settle yX0_settle, .initialized RX0, .classLink RX11 345 "java/lang/UnsupportedOperationException", .initialized "java/lang/UnsupportedOperationException"] bs2)
set_option maxHeartbeats 4000000 in
set_option maxRecDepth 100000 in
theorem c_settler (l : Launch) (hlt : l.stackTraces = false) (dC : Nat → ClassId) (dI : Nat → Nat → Nat) (kA : Nat → ClassId) (adK adV : Nat → Nat) (G : gT) (H0 : Heap) (nC nS : Int) (o0 : Nat) (p0 : Int32) (p1 : Int32) (p2 : Int32) (p3 : Int32) (p4 : Int32) (p5 : Int32) (p6 : Int32) (wa : Nat) (bo : Nat) (hT : gH (dC, dI) kA (SHc nC nS) G H0) (hr_o0 : G o0 = some 14) (hq4 : 0 ≤ p4.toInt ∧ p4.toInt ≤ 1) (hq5 : 0 ≤ p5.toInt ∧ p5.toInt ≤ 1) (hu_o0 : ∀ b, G b = some 3 → b = bo) (hu_a0 : ∀ b, G b = some 51 → b = wa) (hgC : 0 ≤ nC ∧ nC ≤ 40) (hgS : 0 ≤ nS ∧ nS ≤ 60) : vx_Met l yX11_settler w_c_settler ({ frames := 7, cells := 1, slots := 12, locals := 120 }) (va_Pc [.ref o0, .int p0, .int p1, .int p2, .int p3, .int p4, .int p5, .int p6] (fun U => U.heap = H0 ∧ va_K (dC, dI) vwCl (tyl kA) U ∧ EVC adK adV (gA G H0.size) U U.heap)) (va_Qi (fun (r : Int32) (u : gT × Int × Int) => (0 ≤ r.toInt ∧ r.toInt ≤ 59)) (fun (u : gT × Int × Int) (t : State) => match u with | (G1, n1, n2) => gH (dC, dI) kA (SHc n1 n2) G1 t.heap ∧ gF (dC, dI) SKc G ([(3, 14), (10, 0), (10, 1), (10, 2), (10, 3), (10, 4), (10, 5), (10, 6), (10, 7), (51, 0)] : List (Nat × Nat)) H0 t.heap ∧ gZ ([10] : List Nat) H0.size G G1 ∧ (0 ≤ n1 ∧ n1 ≤ 40) ∧ (0 ≤ n2 ∧ n2 ≤ 60)) (gA G H0.size)) (vx_X (fun _ : Unit => True) (fun E _ t => (E = "java/lang/IllegalArgumentException" ∨ E = "java/lang/UnsupportedOperationException") ∧ gH (dC, dI) kA (SHc nC nS) G t.heap ∧ gF (dC, dI) SKc G ([(3, 14), (10, 0), (10, 1), (10, 2), (10, 3), (10, 4), (10, 5), (10, 6), (10, 7), (51, 0)] : List (Nat × Nat)) H0 t.heap) (gA G H0.size)) 1 12 (gA G H0.size) := by
  refine vx_ofW (cc := cX11_settler) (maxL := 8) (ret := (some .int)) (by decide) rfl ?_
  intro p e s m args below meth c s₁ B hml hnt hv
  obtain ⟨rfl, hH0, hK, hE⟩ := hv
  have hx := B.exec
  have hb := B.bytes
  have hr := B.returns
  have hts := atoms_spec (ws := w_c_settler) B.pre
  have hown : s.vm.findClass RX11 = some m.cls := findClass_of_methodNamed B.named
  have hlocks := B.notSynchronized
  subst hH0
  generalize hAe : gA G s.heap.size = A at hE ⊢
  have hA : ∀ q : Nat, s.heap.size ≤ q → A q := fun q h => by rw [← hAe]; exact Or.inr h
  have hG := gA_of hAe
  have hS : va_S A s.heap s.heap [] := va_S.rf
  have hF : gF (dC, dI) SKc G ([(3, 14), (10, 0), (10, 1), (10, 2), (10, 3), (10, 4), (10, 5), (10, 6), (10, 7), (51, 0)] : List (Nat × Nat)) s.heap s.heap := gF.rf
  have hl := lv_entry ([.ref o0, .int p0, .int p1, .int p2, .int p3, .int p4, .int p5, .int p6]) (n := 8) (Nat.le_of_ble_eq_true rfl)
  rw [lg_entry_eq]
  generalize (lg_sl ([.ref o0, .int p0, .int p1, .int p2, .int p3, .int p4, .int p5, .int p6]) ++ List.replicate (8 - (lg_sl ([.ref o0, .int p0, .int p1, .int p2, .int p3, .int p4, .int p5, .int p6])).length) Slot.unset).toArray = ls at hl ⊢
  have hl : lv_has ls 8 [(0, .ref o0), (1, .int p0), (2, .int p1), (3, .int p2), (4, .int p3), (5, .int p4), (6, .int p5), (7, .int p6)] := hl
  have hG0 := hG
  have hZ : gZ ([10] : List Nat) s.heap.size G G := gZ.rf hT
  refine lv_iload_n hx hb dX11_settler_0 rfl (lv_at hl 1 rfl) ?_
  refine lv_iconst (v := 0) hx hb dX11_settler_1 (by decide) ?_
  refine lv_bipush (v := 99) hx hb dX11_settler_2 (by decide) ?_
  have hFc := gA_free hG hA hS
  refine va_calli (va_runS (As := [.int p0, .int 0, .int 99]) (rest := []) ⟨hx, hb, hml, hown, hts⟩ (c_within l dC dI kA adK adV G s.heap nC nS p0 0 99 hT (by omega) (by omega)) (va_cwS 3 hts (goodIn_app (goodIn_r _ [2, 3, 4] rfl (by decide +kernel)) (goodIn_ca (goodIn_r _ [1] rfl (by decide +kernel)) (bs2_in _ _))) rfl rfl rfl (by decide +kernel) ⟨(Nat.le_of_ble_eq_true rfl), (Nat.le_of_ble_eq_true rfl)⟩) ⟨fun a U g mk q => by obtain ⟨q0, q1, qK, qE⟩ := q; exact ⟨q0, q1, va_K.moved (u := U) (U := U.calling g mk a) (Vm.Alike.refl U.vm) qK, EVC.blind g mk a qE⟩, fun U hU hW => ⟨rfl, hU, va_K.moved hW.alike hK, hE.call hS hFc hU hW⟩⟩ rfl rfl hl.1 rfl (lv_room (Nat.le_of_ble_eq_true rfl)) dX11_settler_4 ⟨(Nat.le_of_ble_eq_true rfl), (Nat.le_of_ble_eq_true rfl)⟩) hS (fun q _ h => hFc q h) hFc (fun r1 u t H locs ht hvm hw2 hB _ _ hS => ?_)
  obtain ⟨hT, hF1⟩ := hB
  rw [ht] at hT hF1
  have hF := hF.more (hF1.sub hZ.1) (by decide)
  try dsimp only at hw2
  obtain ⟨h3, hi4, hi5⟩ := hw2
  refine lv_if_eq (tgt := 57) hx hb dX11_settler_7 (by decide) (fun c6 => ?_) (fun c6 => ?_)
  · have t7 : r1.toInt = 0 := ti_eq c6 rfl (by decide)
    have t8 : (0 : Int32).toInt = 0 := by decide
    have t9 : (99 : Int32).toInt = 99 := by decide
    have t10 : p0.toInt < (0 : Int32).toInt ∨ (99 : Int32).toInt < p0.toInt := hi5 c6
    refine lv_iconst (v := 0) hx hb dX11_settler_57 (by decide) ?_
    have hFc := gA_free hG hA hS
    refine vx_callN (vx_runS (As := [.int 0]) (rest := []) ⟨hx, hb, hml, hown, hts⟩ (c_needNumbers0 l hlt dC dI kA adK adV G H nC nS hT (by omega) (by omega)) (va_cwS 1 hts (goodIn_app (goodIn_r _ [8, 9, 4] rfl (by decide +kernel)) (goodIn_ca (goodIn_r _ [5, 6, 7] rfl (by decide +kernel)) (bs2_in _ _))) rfl rfl rfl (by decide +kernel) ⟨(Nat.le_of_ble_eq_true rfl), (Nat.le_of_ble_eq_true rfl)⟩) ⟨fun a U g mk q => by obtain ⟨q0, q1, qK, qE⟩ := q; exact ⟨q0, q1, va_K.moved (u := U) (U := U.calling g mk a) (Vm.Alike.refl U.vm) qK, EVC.blind g mk a qE⟩, fun U hU hW => ⟨rfl, hU, va_K.moved hW.alike hK, hE.call hS hFc hU hW⟩⟩ rfl rfl hl.1 rfl (lv_room (Nat.le_of_ble_eq_true rfl)) dX11_settler_58 ⟨(Nat.le_of_ble_eq_true rfl), (Nat.le_of_ble_eq_true rfl)⟩) hS hFc (fun q _ h => hFc q h) (fun E ce q9 u t H locs ht hvm _ hw12 _ _ hS hce hcv hcl => ?_)
    obtain ⟨hw12, hTx, hFx⟩ := hw12; rw [ht] at hTx hFx
    exact vx_out (fun x h => (hnt x h).elim) hlocks hce hcv hcl (fun t2 h2 hW => ⟨(), trivial, ⟨((fun h9 => (Or.inl h9)) hw12), by rw [h2]; exact hTx, by rw [h2]; exact hF.more hFx (by decide)⟩, hS.F h2⟩) hS.2.2 (by decide) (by decide)
  · have t13 : r1.toInt ≠ 0 := ti_ne c6 rfl (by decide)
    have t14 : (0 : Int32).toInt = 0 := by decide
    have t15 : (99 : Int32).toInt = 99 := by decide
    have t16 : (0 : Int32).toInt ≤ p0.toInt ∧ p0.toInt ≤ (99 : Int32).toInt := hi4 ((bit_of ⟨by omega, by omega⟩).resolve_left c6)
    refine lv_iload_n hx hb dX11_settler_10 rfl (lv_at hl 2 rfl) ?_
    refine lv_iconst (v := 0) hx hb dX11_settler_11 (by decide) ?_
    refine lv_bipush (v := 20) hx hb dX11_settler_12 (by decide) ?_
    have hFc := gA_free hG hA hS
    refine va_calli (va_runS (As := [.int p1, .int 0, .int 20]) (rest := []) ⟨hx, hb, hml, hown, hts⟩ (c_within l dC dI kA adK adV G H nC nS p1 0 20 hT (by omega) (by omega)) (va_cwS 3 hts (goodIn_app (goodIn_r _ [2, 3, 4] rfl (by decide +kernel)) (goodIn_ca (goodIn_r _ [1] rfl (by decide +kernel)) (bs2_in _ _))) rfl rfl rfl (by decide +kernel) ⟨(Nat.le_of_ble_eq_true rfl), (Nat.le_of_ble_eq_true rfl)⟩) ⟨fun a U g mk q => by obtain ⟨q0, q1, qK, qE⟩ := q; exact ⟨q0, q1, va_K.moved (u := U) (U := U.calling g mk a) (Vm.Alike.refl U.vm) qK, EVC.blind g mk a qE⟩, fun U hU hW => ⟨rfl, hU, va_K.moved hW.alike hK, hE.call hS hFc hU hW⟩⟩ rfl rfl hl.1 rfl (lv_room (Nat.le_of_ble_eq_true rfl)) dX11_settler_14 ⟨(Nat.le_of_ble_eq_true rfl), (Nat.le_of_ble_eq_true rfl)⟩) hS (fun q _ h => hFc q h) hFc (fun r17 u t H locs ht hvm hw18 hB _ _ hS => ?_)
    obtain ⟨hT, hF1⟩ := hB
    rw [ht] at hT hF1
    have hF := hF.more (hF1.sub hZ.1) (by decide)
    try dsimp only at hw18
    obtain ⟨h19, hi20, hi21⟩ := hw18
    refine lv_if_eq (tgt := 57) hx hb dX11_settler_17 (by decide) (fun c22 => ?_) (fun c22 => ?_)
    · have t23 : r17.toInt = 0 := ti_eq c22 rfl (by decide)
      have t24 : (0 : Int32).toInt = 0 := by decide
      have t25 : (20 : Int32).toInt = 20 := by decide
      have t26 : p1.toInt < (0 : Int32).toInt ∨ (20 : Int32).toInt < p1.toInt := hi21 c22
      refine lv_iconst (v := 0) hx hb dX11_settler_57 (by decide) ?_
      have hFc := gA_free hG hA hS
      refine vx_callN (vx_runS (As := [.int 0]) (rest := []) ⟨hx, hb, hml, hown, hts⟩ (c_needNumbers0 l hlt dC dI kA adK adV G H nC nS hT (by omega) (by omega)) (va_cwS 1 hts (goodIn_app (goodIn_r _ [8, 9, 4] rfl (by decide +kernel)) (goodIn_ca (goodIn_r _ [5, 6, 7] rfl (by decide +kernel)) (bs2_in _ _))) rfl rfl rfl (by decide +kernel) ⟨(Nat.le_of_ble_eq_true rfl), (Nat.le_of_ble_eq_true rfl)⟩) ⟨fun a U g mk q => by obtain ⟨q0, q1, qK, qE⟩ := q; exact ⟨q0, q1, va_K.moved (u := U) (U := U.calling g mk a) (Vm.Alike.refl U.vm) qK, EVC.blind g mk a qE⟩, fun U hU hW => ⟨rfl, hU, va_K.moved hW.alike hK, hE.call hS hFc hU hW⟩⟩ rfl rfl hl.1 rfl (lv_room (Nat.le_of_ble_eq_true rfl)) dX11_settler_58 ⟨(Nat.le_of_ble_eq_true rfl), (Nat.le_of_ble_eq_true rfl)⟩) hS hFc (fun q _ h => hFc q h) (fun E ce q9 u t H locs ht hvm _ hw28 _ _ hS hce hcv hcl => ?_)
      obtain ⟨hw28, hTx, hFx⟩ := hw28; rw [ht] at hTx hFx
      exact vx_out (fun x h => (hnt x h).elim) hlocks hce hcv hcl (fun t2 h2 hW => ⟨(), trivial, ⟨((fun h9 => (Or.inl h9)) hw28), by rw [h2]; exact hTx, by rw [h2]; exact hF.more hFx (by decide)⟩, hS.F h2⟩) hS.2.2 (by decide) (by decide)
    · have t29 : r17.toInt ≠ 0 := ti_ne c22 rfl (by decide)
      have t30 : (0 : Int32).toInt = 0 := by decide
      have t31 : (20 : Int32).toInt = 20 := by decide
      have t32 : (0 : Int32).toInt ≤ p1.toInt ∧ p1.toInt ≤ (20 : Int32).toInt := hi20 ((bit_of ⟨by omega, by omega⟩).resolve_left c22)
      refine lv_iload_n hx hb dX11_settler_20 rfl (lv_at hl 3 rfl) ?_
      refine lv_iconst (v := 0) hx hb dX11_settler_21 (by decide) ?_
      refine lv_ldc (v := 100000) hx hb hown (ht_at2 hts 9 rfl) dX11_settler_22 ?_
      have hFc := gA_free hG hA hS
      refine va_calli (va_runS (As := [.int p2, .int 0, .int 100000]) (rest := []) ⟨hx, hb, hml, hown, hts⟩ (c_within l dC dI kA adK adV G H nC nS p2 0 100000 hT (by omega) (by omega)) (va_cwS 3 hts (goodIn_app (goodIn_r _ [2, 3, 4] rfl (by decide +kernel)) (goodIn_ca (goodIn_r _ [1] rfl (by decide +kernel)) (bs2_in _ _))) rfl rfl rfl (by decide +kernel) ⟨(Nat.le_of_ble_eq_true rfl), (Nat.le_of_ble_eq_true rfl)⟩) ⟨fun a U g mk q => by obtain ⟨q0, q1, qK, qE⟩ := q; exact ⟨q0, q1, va_K.moved (u := U) (U := U.calling g mk a) (Vm.Alike.refl U.vm) qK, EVC.blind g mk a qE⟩, fun U hU hW => ⟨rfl, hU, va_K.moved hW.alike hK, hE.call hS hFc hU hW⟩⟩ rfl rfl hl.1 rfl (lv_room (Nat.le_of_ble_eq_true rfl)) dX11_settler_24 ⟨(Nat.le_of_ble_eq_true rfl), (Nat.le_of_ble_eq_true rfl)⟩) hS (fun q _ h => hFc q h) hFc (fun r33 u t H locs ht hvm hw34 hB _ _ hS => ?_)
      obtain ⟨hT, hF1⟩ := hB
      rw [ht] at hT hF1
      have hF := hF.more (hF1.sub hZ.1) (by decide)
      try dsimp only at hw34
      obtain ⟨h35, hi36, hi37⟩ := hw34
      refine lv_if_eq (tgt := 57) hx hb dX11_settler_27 (by decide) (fun c38 => ?_) (fun c38 => ?_)
      · have t39 : r33.toInt = 0 := ti_eq c38 rfl (by decide)
        have t40 : (0 : Int32).toInt = 0 := by decide
        have t41 : (100000 : Int32).toInt = 100000 := by decide
        have t42 : p2.toInt < (0 : Int32).toInt ∨ (100000 : Int32).toInt < p2.toInt := hi37 c38
        refine lv_iconst (v := 0) hx hb dX11_settler_57 (by decide) ?_
        have hFc := gA_free hG hA hS
        refine vx_callN (vx_runS (As := [.int 0]) (rest := []) ⟨hx, hb, hml, hown, hts⟩ (c_needNumbers0 l hlt dC dI kA adK adV G H nC nS hT (by omega) (by omega)) (va_cwS 1 hts (goodIn_app (goodIn_r _ [8, 9, 4] rfl (by decide +kernel)) (goodIn_ca (goodIn_r _ [5, 6, 7] rfl (by decide +kernel)) (bs2_in _ _))) rfl rfl rfl (by decide +kernel) ⟨(Nat.le_of_ble_eq_true rfl), (Nat.le_of_ble_eq_true rfl)⟩) ⟨fun a U g mk q => by obtain ⟨q0, q1, qK, qE⟩ := q; exact ⟨q0, q1, va_K.moved (u := U) (U := U.calling g mk a) (Vm.Alike.refl U.vm) qK, EVC.blind g mk a qE⟩, fun U hU hW => ⟨rfl, hU, va_K.moved hW.alike hK, hE.call hS hFc hU hW⟩⟩ rfl rfl hl.1 rfl (lv_room (Nat.le_of_ble_eq_true rfl)) dX11_settler_58 ⟨(Nat.le_of_ble_eq_true rfl), (Nat.le_of_ble_eq_true rfl)⟩) hS hFc (fun q _ h => hFc q h) (fun E ce q9 u t H locs ht hvm _ hw44 _ _ hS hce hcv hcl => ?_)
        obtain ⟨hw44, hTx, hFx⟩ := hw44; rw [ht] at hTx hFx
        exact vx_out (fun x h => (hnt x h).elim) hlocks hce hcv hcl (fun t2 h2 hW => ⟨(), trivial, ⟨((fun h9 => (Or.inl h9)) hw44), by rw [h2]; exact hTx, by rw [h2]; exact hF.more hFx (by decide)⟩, hS.F h2⟩) hS.2.2 (by decide) (by decide)
      · have t45 : r33.toInt ≠ 0 := ti_ne c38 rfl (by decide)
        have t46 : (0 : Int32).toInt = 0 := by decide
        have t47 : (100000 : Int32).toInt = 100000 := by decide
        have t48 : (0 : Int32).toInt ≤ p2.toInt ∧ p2.toInt ≤ (100000 : Int32).toInt := hi36 ((bit_of ⟨by omega, by omega⟩).resolve_left c38)
        refine lv_iload hx hb dX11_settler_30 (lv_at hl 4 rfl) ?_
        refine lv_iconst (v := 0) hx hb dX11_settler_32 (by decide) ?_
        refine lv_bipush (v := 100) hx hb dX11_settler_33 (by decide) ?_
        have hFc := gA_free hG hA hS
        refine va_calli (va_runS (As := [.int p3, .int 0, .int 100]) (rest := []) ⟨hx, hb, hml, hown, hts⟩ (c_within l dC dI kA adK adV G H nC nS p3 0 100 hT (by omega) (by omega)) (va_cwS 3 hts (goodIn_app (goodIn_r _ [2, 3, 4] rfl (by decide +kernel)) (goodIn_ca (goodIn_r _ [1] rfl (by decide +kernel)) (bs2_in _ _))) rfl rfl rfl (by decide +kernel) ⟨(Nat.le_of_ble_eq_true rfl), (Nat.le_of_ble_eq_true rfl)⟩) ⟨fun a U g mk q => by obtain ⟨q0, q1, qK, qE⟩ := q; exact ⟨q0, q1, va_K.moved (u := U) (U := U.calling g mk a) (Vm.Alike.refl U.vm) qK, EVC.blind g mk a qE⟩, fun U hU hW => ⟨rfl, hU, va_K.moved hW.alike hK, hE.call hS hFc hU hW⟩⟩ rfl rfl hl.1 rfl (lv_room (Nat.le_of_ble_eq_true rfl)) dX11_settler_35 ⟨(Nat.le_of_ble_eq_true rfl), (Nat.le_of_ble_eq_true rfl)⟩) hS (fun q _ h => hFc q h) hFc (fun r49 u t H locs ht hvm hw50 hB _ _ hS => ?_)
        obtain ⟨hT, hF1⟩ := hB
        rw [ht] at hT hF1
        have hF := hF.more (hF1.sub hZ.1) (by decide)
        try dsimp only at hw50
        obtain ⟨h51, hi52, hi53⟩ := hw50
        refine lv_if_eq (tgt := 57) hx hb dX11_settler_38 (by decide) (fun c54 => ?_) (fun c54 => ?_)
        · have t55 : r49.toInt = 0 := ti_eq c54 rfl (by decide)
          have t56 : (0 : Int32).toInt = 0 := by decide
          have t57 : (100 : Int32).toInt = 100 := by decide
          have t58 : p3.toInt < (0 : Int32).toInt ∨ (100 : Int32).toInt < p3.toInt := hi53 c54
          refine lv_iconst (v := 0) hx hb dX11_settler_57 (by decide) ?_
          have hFc := gA_free hG hA hS
          refine vx_callN (vx_runS (As := [.int 0]) (rest := []) ⟨hx, hb, hml, hown, hts⟩ (c_needNumbers0 l hlt dC dI kA adK adV G H nC nS hT (by omega) (by omega)) (va_cwS 1 hts (goodIn_app (goodIn_r _ [8, 9, 4] rfl (by decide +kernel)) (goodIn_ca (goodIn_r _ [5, 6, 7] rfl (by decide +kernel)) (bs2_in _ _))) rfl rfl rfl (by decide +kernel) ⟨(Nat.le_of_ble_eq_true rfl), (Nat.le_of_ble_eq_true rfl)⟩) ⟨fun a U g mk q => by obtain ⟨q0, q1, qK, qE⟩ := q; exact ⟨q0, q1, va_K.moved (u := U) (U := U.calling g mk a) (Vm.Alike.refl U.vm) qK, EVC.blind g mk a qE⟩, fun U hU hW => ⟨rfl, hU, va_K.moved hW.alike hK, hE.call hS hFc hU hW⟩⟩ rfl rfl hl.1 rfl (lv_room (Nat.le_of_ble_eq_true rfl)) dX11_settler_58 ⟨(Nat.le_of_ble_eq_true rfl), (Nat.le_of_ble_eq_true rfl)⟩) hS hFc (fun q _ h => hFc q h) (fun E ce q9 u t H locs ht hvm _ hw60 _ _ hS hce hcv hcl => ?_)
          obtain ⟨hw60, hTx, hFx⟩ := hw60; rw [ht] at hTx hFx
          exact vx_out (fun x h => (hnt x h).elim) hlocks hce hcv hcl (fun t2 h2 hW => ⟨(), trivial, ⟨((fun h9 => (Or.inl h9)) hw60), by rw [h2]; exact hTx, by rw [h2]; exact hF.more hFx (by decide)⟩, hS.F h2⟩) hS.2.2 (by decide) (by decide)
        · have t61 : r49.toInt ≠ 0 := ti_ne c54 rfl (by decide)
          have t62 : (0 : Int32).toInt = 0 := by decide
          have t63 : (100 : Int32).toInt = 100 := by decide
          have t64 : (0 : Int32).toInt ≤ p3.toInt ∧ p3.toInt ≤ (100 : Int32).toInt := hi52 ((bit_of ⟨by omega, by omega⟩).resolve_left c54)
          refine lv_iload hx hb dX11_settler_41 (lv_at hl 7 rfl) ?_
          refine lv_iconst (v := 0) hx hb dX11_settler_43 (by decide) ?_
          refine lv_ldcw (v := 999999) hx hb hown (ht_at2 hts 10 rfl) dX11_settler_44 ?_
          have hFc := gA_free hG hA hS
          refine va_calli (va_runS (As := [.int p6, .int 0, .int 999999]) (rest := []) ⟨hx, hb, hml, hown, hts⟩ (c_within l dC dI kA adK adV G H nC nS p6 0 999999 hT (by omega) (by omega)) (va_cwS 3 hts (goodIn_app (goodIn_r _ [2, 3, 4] rfl (by decide +kernel)) (goodIn_ca (goodIn_r _ [1] rfl (by decide +kernel)) (bs2_in _ _))) rfl rfl rfl (by decide +kernel) ⟨(Nat.le_of_ble_eq_true rfl), (Nat.le_of_ble_eq_true rfl)⟩) ⟨fun a U g mk q => by obtain ⟨q0, q1, qK, qE⟩ := q; exact ⟨q0, q1, va_K.moved (u := U) (U := U.calling g mk a) (Vm.Alike.refl U.vm) qK, EVC.blind g mk a qE⟩, fun U hU hW => ⟨rfl, hU, va_K.moved hW.alike hK, hE.call hS hFc hU hW⟩⟩ rfl rfl hl.1 rfl (lv_room (Nat.le_of_ble_eq_true rfl)) dX11_settler_47 ⟨(Nat.le_of_ble_eq_true rfl), (Nat.le_of_ble_eq_true rfl)⟩) hS (fun q _ h => hFc q h) hFc (fun r65 u t H locs ht hvm hw66 hB _ _ hS => ?_)
          obtain ⟨hT, hF1⟩ := hB
          rw [ht] at hT hF1
          have hF := hF.more (hF1.sub hZ.1) (by decide)
          try dsimp only at hw66
          obtain ⟨h67, hi68, hi69⟩ := hw66
          refine lv_if_eq (tgt := 57) hx hb dX11_settler_50 (by decide) (fun c70 => ?_) (fun c70 => ?_)
          · have t71 : r65.toInt = 0 := ti_eq c70 rfl (by decide)
            have t72 : (0 : Int32).toInt = 0 := by decide
            have t73 : (999999 : Int32).toInt = 999999 := by decide
            have t74 : p6.toInt < (0 : Int32).toInt ∨ (999999 : Int32).toInt < p6.toInt := hi69 c70
            refine lv_iconst (v := 0) hx hb dX11_settler_57 (by decide) ?_
            have hFc := gA_free hG hA hS
            refine vx_callN (vx_runS (As := [.int 0]) (rest := []) ⟨hx, hb, hml, hown, hts⟩ (c_needNumbers0 l hlt dC dI kA adK adV G H nC nS hT (by omega) (by omega)) (va_cwS 1 hts (goodIn_app (goodIn_r _ [8, 9, 4] rfl (by decide +kernel)) (goodIn_ca (goodIn_r _ [5, 6, 7] rfl (by decide +kernel)) (bs2_in _ _))) rfl rfl rfl (by decide +kernel) ⟨(Nat.le_of_ble_eq_true rfl), (Nat.le_of_ble_eq_true rfl)⟩) ⟨fun a U g mk q => by obtain ⟨q0, q1, qK, qE⟩ := q; exact ⟨q0, q1, va_K.moved (u := U) (U := U.calling g mk a) (Vm.Alike.refl U.vm) qK, EVC.blind g mk a qE⟩, fun U hU hW => ⟨rfl, hU, va_K.moved hW.alike hK, hE.call hS hFc hU hW⟩⟩ rfl rfl hl.1 rfl (lv_room (Nat.le_of_ble_eq_true rfl)) dX11_settler_58 ⟨(Nat.le_of_ble_eq_true rfl), (Nat.le_of_ble_eq_true rfl)⟩) hS hFc (fun q _ h => hFc q h) (fun E ce q9 u t H locs ht hvm _ hw76 _ _ hS hce hcv hcl => ?_)
            obtain ⟨hw76, hTx, hFx⟩ := hw76; rw [ht] at hTx hFx
            exact vx_out (fun x h => (hnt x h).elim) hlocks hce hcv hcl (fun t2 h2 hW => ⟨(), trivial, ⟨((fun h9 => (Or.inl h9)) hw76), by rw [h2]; exact hTx, by rw [h2]; exact hF.more hFx (by decide)⟩, hS.F h2⟩) hS.2.2 (by decide) (by decide)
          · have t77 : r65.toInt ≠ 0 := ti_ne c70 rfl (by decide)
            have t78 : (0 : Int32).toInt = 0 := by decide
            have t79 : (999999 : Int32).toInt = 999999 := by decide
            have t80 : (0 : Int32).toInt ≤ p6.toInt ∧ p6.toInt ≤ (999999 : Int32).toInt := hi68 ((bit_of ⟨by omega, by omega⟩).resolve_left c70)
            refine lv_iconst (v := 1) hx hb dX11_settler_53 (by decide) ?_
            refine lv_goto (tgt := 58) hx hb dX11_settler_54 (by decide) ?_
            have hFc := gA_free hG hA hS
            refine vx_callv (vx_runS (As := [.int 1]) (rest := []) ⟨hx, hb, hml, hown, hts⟩ (c_needNumbers1 l hlt dC dI kA adK adV G H nC nS hT (by omega) (by omega)) (va_cwS 1 hts (goodIn_app (goodIn_r _ [8, 9, 4] rfl (by decide +kernel)) (goodIn_ca (goodIn_r _ [5] rfl (by decide +kernel)) (bs2_in _ _))) rfl rfl rfl (by decide +kernel) ⟨(Nat.le_of_ble_eq_true rfl), (Nat.le_of_ble_eq_true rfl)⟩) ⟨fun a U g mk q => by obtain ⟨q0, q1, qK, qE⟩ := q; exact ⟨q0, q1, va_K.moved (u := U) (U := U.calling g mk a) (Vm.Alike.refl U.vm) qK, EVC.blind g mk a qE⟩, fun U hU hW => ⟨rfl, hU, va_K.moved hW.alike hK, hE.call hS hFc hU hW⟩⟩ rfl rfl hl.1 rfl (lv_room (Nat.le_of_ble_eq_true rfl)) dX11_settler_58 ⟨(Nat.le_of_ble_eq_true rfl), (Nat.le_of_ble_eq_true rfl)⟩) hS (fun q _ h => hFc q h) hFc (fun q _ h => hFc q h) (fun E ce q9 u t H locs ht hvm _ hw82 _ _ hS hce hcv hcl => ?_) (fun u t H locs ht hvm hw82 hB _ _ hS => ?_)
            · obtain ⟨hw82, hTx, hFx⟩ := hw82; rw [ht] at hTx hFx
              exact vx_out (fun x h => (hnt x h).elim) hlocks hce hcv hcl (fun t2 h2 hW => ⟨(), trivial, ⟨((fun h9 => (Or.inl h9)) hw82), by rw [h2]; exact hTx, by rw [h2]; exact hF.more hFx (by decide)⟩, hS.F h2⟩) hS.2.2 (by decide) (by decide)
            · obtain ⟨hT, hF1⟩ := hB
              rw [ht] at hT hF1
              have hF := hF.more (hF1.sub hZ.1) (by decide)
              try dsimp only at hw82
              refine lv_aload_n hx hb dX11_settler_61 rfl (lv_at hl 0 rfl) ?_
              refine tw_get hx hb hts bF2_X11 hown hK hT hr_o0 shc_14 rfl 3 (by decide) (ht_at2 hts 11 rfl) (fun _ h9 => h9) dX11_settler_62 (fun v9 m83 h9 => ?_)
              obtain ⟨b84, rfl, hg85⟩ := h9 _ rfl
              refine tw_getN hx hb hts bF2_X0 hown hK hT hg85 shc_3 rfl 14 (by decide) (hE.nw 30 rfl) (fun _ h9 => h9) dX11_settler_65 (fun v9 m86 h9 => ?_)
              obtain ⟨x87, rfl, gx87, kx87⟩ := h9 _ rfl
              refine lv_bipush (v := 60) hx hb dX11_settler_68 (by decide) ?_
              refine lv_icmp_ne (tgt := 84) hx hb dX11_settler_70 (by decide) (fun c88 => ?_) (fun c88 => ?_)
              · have t89 : x87.toInt ≠ 60 := ti_ne c88 rfl (by decide)
                refine lv_aload_n hx hb dX11_settler_84 rfl (lv_at hl 0 rfl) ?_
                refine tw_getM (v := .ref b84) hx hb hts bF2_X11 hown hK hT hr_o0 shc_14 rfl 3 (by decide) (ht_at2 hts 11 rfl) (fun _ h9 => h9) m83 dX11_settler_85 ?_
                have hz9 := hS.1
                refine tw_new hx hb hts bF2_X7 tyX7 tyX7_ok hown (ht_at2 hts 12 rfl) (ht_at2 hts 13 rfl) (ht_at2 hts 14 rfl) hK mon_c hT hS hG hA (shc_10) rfl nd_10 (Nat.le_of_ble_eq_true rfl) (Nat.le_of_ble_eq_true rfl) dX11_settler_88 (fun q90 G1 H hq9 eG hz1 hz2 hT hx9 hG hm9 hS => ?_)
                have hn_q90 : s.heap.size ≤ q90 := Nat.le_trans hz9 (Nat.le_of_eq hz2)
                have hF := hF.same (fun a t h => (hx9 _ _ (hZ.1 a t h)).2)
                have hZ := hZ.new hn_q90 eG hx9 (by decide)
                have hu_o := hZ.uniq hu_o0 (by decide)
                have hu_a := hZ.uniq hu_a0 (by decide)
                have hg93 := (hx9 _ _ hr_o0).1
                have hg94 := (hx9 _ _ hg85).1
                have hg95 : G1 q90 = some 10 := by rw [eG]; exact gU_at
                refine lv_dup hx hb dX11_settler_91 rfl ?_
                refine lv_iload_n hx hb dX11_settler_92 rfl (lv_at hl 1 rfl) ?_
                refine lv_iload_n hx hb dX11_settler_93 rfl (lv_at hl 2 rfl) ?_
                refine lv_iload_n hx hb dX11_settler_94 rfl (lv_at hl 3 rfl) ?_
                refine lv_iload hx hb dX11_settler_95 (lv_at hl 4 rfl) ?_
                refine lv_iload hx hb dX11_settler_97 (lv_at hl 5 rfl) ?_
                refine lv_iload hx hb dX11_settler_99 (lv_at hl 6 rfl) ?_
                refine lv_iload hx hb dX11_settler_101 (lv_at hl 7 rfl) ?_
                have hFc := gA_free hG hA hS
                refine va_callv (va_runI (As := [.int p0, .int p1, .int p2, .int p3, .int p4, .int p5, .int p6]) (rest := [.ref q90, .ref b84]) ⟨hx, hb, hml, hown, hts⟩ (c_X7_init l dC dI kA adK adV G1 H nC nS q90 p0 p1 p2 p3 p4 p5 p6 hT hg95 (by have q8 := ti_all p4; omega) (by have q8 := ti_all p5; omega) (by omega) (by omega)) (cwI 7 hts (goodIn_ca (goodIn_r _ [16, 17, 18, 19, 20, 21, 22, 23, 24, 25, 26, 27] rfl (by decide +kernel)) (bs2_in _ _)) rfl rfl rfl (ht_at2 hts 14 rfl) (ht_at2 hts 27 rfl) (ht_at2 hts 28 rfl) rfl (by decide +kernel) ⟨(Nat.le_of_ble_eq_true rfl), (Nat.le_of_ble_eq_true rfl)⟩) ⟨fun a U g mk q => by obtain ⟨q0, q1, qK, qE⟩ := q; exact ⟨q0, q1, va_K.moved (u := U) (U := U.calling g mk a) (Vm.Alike.refl U.vm) qK, EVC.blind g mk a qE⟩, fun U hU hW => ⟨rfl, hU, va_K.moved hW.alike hK, hE.call hS hFc hU hW⟩⟩ rfl rfl hl.1 rfl (lv_room (Nat.le_of_ble_eq_true rfl)) dX11_settler_103 ⟨(Nat.le_of_ble_eq_true rfl), (Nat.le_of_ble_eq_true rfl)⟩) hS (fun q _ h => hFc q h) hFc (fun u t H locs ht hvm hw97 hB _ _ hS => ?_)
                obtain ⟨hT, hF1⟩ := hB
                rw [ht] at hT hF1
                have hF := hF.more (hF1.sub hZ.1) (by decide)
                try dsimp only at hw97
                have hFc := gA_free hG hA hS
                refine va_calli (va_runV (As := [.ref q90]) (rest := []) ⟨hx, hb, hml, hown, hts⟩ (c_settle l dC dI kA adK adV G1 H nC nS b84 q90 wa hT hg95 hg94 (fun b h => (hu_o b h).trans (hu_o b84 hg94).symm) hu_a (by omega) (by omega) (by omega)) (cwV 1 hts (goodIn_app (goodIn_r _ [33, 34, 35, 36] rfl (by decide +kernel)) (goodIn_ca (goodIn_r _ [30, 31, 32] rfl (by decide +kernel)) (bs2_in _ _))) rfl rfl rfl (by decide +kernel) ⟨(Nat.le_of_ble_eq_true rfl), (Nat.le_of_ble_eq_true rfl)⟩) ⟨fun a U g mk q => by obtain ⟨q0, q1, qK, qE⟩ := q; exact ⟨q0, q1, va_K.moved (u := U) (U := U.calling g mk a) (Vm.Alike.refl U.vm) qK, EVC.blind g mk a qE⟩, gH_rc hK hT hg94 shc_3 rfl, fun U hU hW => ⟨rfl, hU, va_K.moved hW.alike hK, hE.call hS hFc hU hW⟩⟩ rfl rfl hl.1 rfl (lv_room (Nat.le_of_ble_eq_true rfl)) dX11_settler_106 ⟨(Nat.le_of_ble_eq_true rfl), (Nat.le_of_ble_eq_true rfl)⟩) hS (fun q _ h => hFc q h) hFc (fun r100 u t H locs ht hvm hw101 hB _ _ hS => ?_)
                obtain ⟨hT, hF1⟩ := hB
                rw [ht] at hT hF1
                have hF := hF.more (hF1.sub hZ.1) (by decide)
                try dsimp only at hw101
                have h104 := hw101
                exact vx_ret (W.iret (v := r100) hx hb hr (fun t ht hW => ⟨⟨r100, (G1, nC, (nS + 1)), rfl, (by exact (by have q8 := ti_all r100; omega)), by (try dsimp only); rw [ht]; exact ⟨hT, hF, hZ, (by omega), (by omega)⟩⟩, hS.F ht⟩) hS.2.2 dX11_settler_109)
              · have t105 : x87.toInt = 60 := ti_eq c88 rfl (by decide)
                obtain ⟨sa106, hsa106⟩ := hE.str 8 rfl
                exact vx_throwSW (names := ["java/lang/RuntimeException", "java/lang/Exception"]) hx hb hlt hown (by decide +kernel) (by decide +kernel) (ht_at2 hts 36 rfl) (ht_at2 hts 37 rfl) hsa106 (bX2_at4 hts hE) bX_ok4_345 hE.1.1.2.2.1 hE.1.1.2.2.2 hS (by rw [hml]; exact hl.1) dX11_settler_73 dX11_settler_76 dX11_settler_77 dX11_settler_80 dX11_settler_83 (fun x h => (hnt x h).elim) (by decide) (Nat.le_of_ble_eq_true rfl) (Nat.le_of_ble_eq_true rfl) (Nat.le_of_ble_eq_true rfl) hlocks (fun t hW hz hq => ⟨(), trivial, ⟨(Or.inr rfl), hT.ext hq, hF.ext hT hq⟩, Nat.le_trans hS.1 hz, fun q h1 h2 => (hq q (Nat.lt_of_lt_of_le h1 hS.1)).trans (hS.2.1 q h1 h2)⟩) hS.2.2 (by decide) (by decide)
def w_c_contract : List Cond := .code yX11_contract cX11_contract 6 (some .int) :: (HAppend.hAppend (α := List Cond) (β := List Cond) (γ := List Cond) [.code yX11_workOf cX11_workOf 2 (some (.object "SeaLand$Work")), .fieldLink RX11 16 "SeaLand" "lake" "LSeaLand$Lake;", .code yX11_within cX11_within 3 (some .boolean), .methodLink RX11 58 yX11_within, .static yX11_within, .initialized RX11, .classLink RX11 557 "java/lang/IndexOutOfBoundsException", .initialized "java/lang/IndexOutOfBoundsException", .methodLink RX11 167 yX11_workOf, .instanceMethod yX11_workOf, .selects RX11 yX11_workOf yX11_workOf, .code yX11_needNumbers cX11_needNumbers 1 none, .classLink RX11 547 "java/lang/IllegalArgumentException", .initialized "java/lang/IllegalArgumentException", .methodLink RX11 62 yX11_needNumbers, .static yX11_needNumbers, .code yX10_isBank cX10_isBank 1 (some .boolean), .fieldLink RX10 18 "SeaLand$Work" "kind" "I", .methodLink RX11 171 yX10_isBank, .instanceMethod yX10_isBank, .selects RX10 yX10_isBank yX10_isBank, .initialized RX10, .code yX11_needKind cX11_needKind 1 none, .classLink RX11 552 "java/lang/ClassCastException", .initialized "java/lang/ClassCastException", .methodLink RX11 177 yX11_needKind, .static yX11_needKind, .fieldLink RX11 414 "SeaLand" "contracted" "I", .fieldLink RX11 36 "SeaLand" "contracts" "[LSeaLand$Contract;", .classLink RX11 34 RX1, .instantiable RX1 8, .initialized RX1, .code yX1_init cX1_init 5 none, .methodLink RX1 1 objectInit, .instanceMethod objectInit, .code objectInit ⟨#[0xb1]⟩ 1 none, .constant RX1 9 2147483647, .fieldLink RX1 10 "SeaLand$Contract" "most" "I", .fieldLink RX1 16 "SeaLand$Contract" "work" "I", .fieldLink RX1 19 "SeaLand$Contract" "clay" "I", .fieldLink RX1 22 "SeaLand$Contract" "price" "I", .fieldLink RX1 25 "SeaLand$Contract" "bound" "I", .methodLink RX11 417 yX1_init, .instanceMethod yX1_init] bs2)
set_option maxHeartbeats 4000000 in
set_option maxRecDepth 100000 in
theorem c_contract (l : Launch) (hlt : l.stackTraces = false) (dC : Nat → ClassId) (dI : Nat → Nat → Nat) (kA : Nat → ClassId) (adK adV : Nat → Nat) (G : gT) (H0 : Heap) (nC nS : Int) (o0 : Nat) (p0 : Int32) (p1 : Int32) (p2 : Int32) (p3 : Int32) (wa : Nat) (hT : gH (dC, dI) kA (SHc nC nS) G H0) (hr_o0 : G o0 = some 14) (hu_o0 : ∀ b, G b = some 14 → b = o0) (hu_a0 : ∀ b, G b = some 17 → b = wa) (hgC : 0 ≤ nC ∧ nC ≤ 40) (hgS : 0 ≤ nS ∧ nS ≤ 60) : vx_Met l yX11_contract w_c_contract ({ frames := 7, cells := 2, slots := 14, locals := 121 }) (va_Pc [.ref o0, .int p0, .int p1, .int p2, .int p3] (fun U => U.heap = H0 ∧ va_K (dC, dI) vwCl (tyl kA) U ∧ EVC adK adV (gA G H0.size) U U.heap)) (va_Qi (fun (r : Int32) (u : gT × Int × Int) => (-1 ≤ r.toInt ∧ r.toInt ≤ 39)) (fun (u : gT × Int × Int) (t : State) => match u with | (G1, n1, n2) => gH (dC, dI) kA (SHc n1 n2) G1 t.heap ∧ gF (dC, dI) SKc G ([(4, 0), (4, 1), (4, 2), (4, 3), (4, 6), (14, 8), (17, 0)] : List (Nat × Nat)) H0 t.heap ∧ gZ ([4] : List Nat) H0.size G G1 ∧ (0 ≤ n1 ∧ n1 ≤ 40) ∧ (0 ≤ n2 ∧ n2 ≤ 60)) (gA G H0.size)) (vx_X (fun _ : Unit => True) (fun E _ t => (E = "java/lang/ClassCastException" ∨ E = "java/lang/IllegalArgumentException" ∨ E = "java/lang/IndexOutOfBoundsException") ∧ gH (dC, dI) kA (SHc nC nS) G t.heap ∧ gF (dC, dI) SKc G ([(4, 0), (4, 1), (4, 2), (4, 3), (4, 6), (14, 8), (17, 0)] : List (Nat × Nat)) H0 t.heap) (gA G H0.size)) 2 14 (gA G H0.size) := by
  refine vx_ofW (cc := cX11_contract) (maxL := 6) (ret := (some .int)) (by decide) rfl ?_
  intro p e s m args below meth c s₁ B hml hnt hv
  obtain ⟨rfl, hH0, hK, hE⟩ := hv
  have hx := B.exec
  have hb := B.bytes
  have hr := B.returns
  have hts := atoms_spec (ws := w_c_contract) B.pre
  have hown : s.vm.findClass RX11 = some m.cls := findClass_of_methodNamed B.named
  have hlocks := B.notSynchronized
  subst hH0
  generalize hAe : gA G s.heap.size = A at hE ⊢
  have hA : ∀ q : Nat, s.heap.size ≤ q → A q := fun q h => by rw [← hAe]; exact Or.inr h
  have hG := gA_of hAe
  have hS : va_S A s.heap s.heap [] := va_S.rf
  have hF : gF (dC, dI) SKc G ([(4, 0), (4, 1), (4, 2), (4, 3), (4, 6), (14, 8), (17, 0)] : List (Nat × Nat)) s.heap s.heap := gF.rf
  have hl := lv_entry ([.ref o0, .int p0, .int p1, .int p2, .int p3]) (n := 6) (Nat.le_of_ble_eq_true rfl)
  rw [lg_entry_eq]
  generalize (lg_sl ([.ref o0, .int p0, .int p1, .int p2, .int p3]) ++ List.replicate (6 - (lg_sl ([.ref o0, .int p0, .int p1, .int p2, .int p3])).length) Slot.unset).toArray = ls at hl ⊢
  have hl : lv_has ls 6 [(0, .ref o0), (1, .int p0), (2, .int p1), (3, .int p2), (4, .int p3)] := hl
  have hG0 := hG
  have hZ : gZ ([4] : List Nat) s.heap.size G G := gZ.rf hT
  refine lv_aload_n hx hb dX11_contract_0 rfl (lv_at hl 0 rfl) ?_
  refine lv_iload_n hx hb dX11_contract_1 rfl (lv_at hl 1 rfl) ?_
  have hFc := gA_free hG hA hS
  refine vx_callr (vx_runV (As := [.int p0]) (rest := []) ⟨hx, hb, hml, hown, hts⟩ (c_workOfI l hlt dC dI kA adK adV G s.heap nC nS o0 p0 hT hr_o0 (by omega) (by omega)) (cwV 1 hts (goodIn_app (goodIn_r _ [9, 10, 11, 6] rfl (by decide +kernel)) (goodIn_ca (goodIn_r _ [1, 2, 3, 4, 5, 6, 7, 8] rfl (by decide +kernel)) (bs2_in _ _))) rfl rfl rfl (by decide +kernel) ⟨(Nat.le_of_ble_eq_true rfl), (Nat.le_of_ble_eq_true rfl)⟩) ⟨fun a U g mk q => by obtain ⟨q0, q1, qK, qE⟩ := q; exact ⟨q0, q1, va_K.moved (u := U) (U := U.calling g mk a) (Vm.Alike.refl U.vm) qK, EVC.blind g mk a qE⟩, gH_rc hK hT hr_o0 shc_14 rfl, fun U hU hW => ⟨rfl, hU, va_K.moved hW.alike hK, hE.call hS hFc hU hW⟩⟩ rfl rfl hl.1 rfl (lv_room (Nat.le_of_ble_eq_true rfl)) dX11_contract_2 ⟨(Nat.le_of_ble_eq_true rfl), (Nat.le_of_ble_eq_true rfl)⟩) hS (fun q _ h => hFc q h) hFc (fun q _ h => hFc q h) (fun E ce q9 u t H locs ht hvm _ hw2 _ _ hS hce hcv hcl => ?_) (fun u r1 t H locs ht hvm hw2 hB _ _ hS => ?_)
  · obtain ⟨hw2, hTx, hFx⟩ := hw2; rw [ht] at hTx hFx
    exact vx_out (fun x h => (hnt x h).elim) hlocks hce hcv hcl (fun t2 h2 hW => ⟨(), trivial, ⟨((fun h9 => (Or.inr (Or.inr h9))) hw2), by rw [h2]; exact hTx, by rw [h2]; exact hF.more hFx (by decide)⟩, hS.F h2⟩) hS.2.2 (by decide) (by decide)
  · obtain ⟨hr9, hT, hF1⟩ := hB
    rw [ht] at hT hF1
    have hF := hF.more (hF1.sub hZ.1) (by decide)
    have hg3 := hr9
    try dsimp only at hw2
    have hf4 := hw2
    refine lv_astore (lv' := [(5, .ref r1), (0, .ref o0), (1, .int p0), (2, .int p1), (3, .int p2), (4, .int p3)]) hx hb dX11_contract_5 hl (by decide) rfl (fun ls hl => ?_)
    refine lv_iload_n hx hb dX11_contract_7 rfl (lv_at hl 3 rfl) ?_
    refine lv_iconst (v := 0) hx hb dX11_contract_8 (by decide) ?_
    refine lv_bipush (v := 9) hx hb dX11_contract_9 (by decide) ?_
    have hFc := gA_free hG hA hS
    refine va_calli (va_runS (As := [.int p1, .int 0, .int 9]) (rest := []) ⟨hx, hb, hml, hown, hts⟩ (c_within l dC dI kA adK adV G H nC nS p1 0 9 hT (by omega) (by omega)) (va_cwS 3 hts (goodIn_app (goodIn_r _ [4, 5, 6] rfl (by decide +kernel)) (goodIn_ca (goodIn_r _ [3] rfl (by decide +kernel)) (bs2_in _ _))) rfl rfl rfl (by decide +kernel) ⟨(Nat.le_of_ble_eq_true rfl), (Nat.le_of_ble_eq_true rfl)⟩) ⟨fun a U g mk q => by obtain ⟨q0, q1, qK, qE⟩ := q; exact ⟨q0, q1, va_K.moved (u := U) (U := U.calling g mk a) (Vm.Alike.refl U.vm) qK, EVC.blind g mk a qE⟩, fun U hU hW => ⟨rfl, hU, va_K.moved hW.alike hK, hE.call hS hFc hU hW⟩⟩ rfl rfl hl.1 rfl (lv_room (Nat.le_of_ble_eq_true rfl)) dX11_contract_11 ⟨(Nat.le_of_ble_eq_true rfl), (Nat.le_of_ble_eq_true rfl)⟩) hS (fun q _ h => hFc q h) hFc (fun r5 u t H locs ht hvm hw6 hB _ _ hS => ?_)
    obtain ⟨hT, hF1⟩ := hB
    rw [ht] at hT hF1
    have hF := hF.more (hF1.sub hZ.1) (by decide)
    try dsimp only at hw6
    obtain ⟨h7, hi8, hi9⟩ := hw6
    refine lv_if_eq (tgt := 44) hx hb dX11_contract_14 (by decide) (fun c10 => ?_) (fun c10 => ?_)
    · have t11 : r5.toInt = 0 := ti_eq c10 rfl (by decide)
      have t12 : (0 : Int32).toInt = 0 := by decide
      have t13 : (9 : Int32).toInt = 9 := by decide
      have t14 : p1.toInt < (0 : Int32).toInt ∨ (9 : Int32).toInt < p1.toInt := hi9 c10
      refine lv_iconst (v := 0) hx hb dX11_contract_44 (by decide) ?_
      have hFc := gA_free hG hA hS
      refine vx_callN (vx_runS (As := [.int 0]) (rest := []) ⟨hx, hb, hml, hown, hts⟩ (c_needNumbers0 l hlt dC dI kA adK adV G H nC nS hT (by omega) (by omega)) (va_cwS 1 hts (goodIn_app (goodIn_r _ [15, 16, 6] rfl (by decide +kernel)) (goodIn_ca (goodIn_r _ [12, 13, 14] rfl (by decide +kernel)) (bs2_in _ _))) rfl rfl rfl (by decide +kernel) ⟨(Nat.le_of_ble_eq_true rfl), (Nat.le_of_ble_eq_true rfl)⟩) ⟨fun a U g mk q => by obtain ⟨q0, q1, qK, qE⟩ := q; exact ⟨q0, q1, va_K.moved (u := U) (U := U.calling g mk a) (Vm.Alike.refl U.vm) qK, EVC.blind g mk a qE⟩, fun U hU hW => ⟨rfl, hU, va_K.moved hW.alike hK, hE.call hS hFc hU hW⟩⟩ rfl rfl hl.1 rfl (lv_room (Nat.le_of_ble_eq_true rfl)) dX11_contract_45 ⟨(Nat.le_of_ble_eq_true rfl), (Nat.le_of_ble_eq_true rfl)⟩) hS hFc (fun q _ h => hFc q h) (fun E ce q9 u t H locs ht hvm _ hw16 _ _ hS hce hcv hcl => ?_)
      obtain ⟨hw16, hTx, hFx⟩ := hw16; rw [ht] at hTx hFx
      exact vx_out (fun x h => (hnt x h).elim) hlocks hce hcv hcl (fun t2 h2 hW => ⟨(), trivial, ⟨((fun h9 => (Or.inr (Or.inl h9))) hw16), by rw [h2]; exact hTx, by rw [h2]; exact hF.more hFx (by decide)⟩, hS.F h2⟩) hS.2.2 (by decide) (by decide)
    · have t17 : r5.toInt ≠ 0 := ti_ne c10 rfl (by decide)
      have t18 : (0 : Int32).toInt = 0 := by decide
      have t19 : (9 : Int32).toInt = 9 := by decide
      have t20 : (0 : Int32).toInt ≤ p1.toInt ∧ p1.toInt ≤ (9 : Int32).toInt := hi8 ((bit_of ⟨by omega, by omega⟩).resolve_left c10)
      refine lv_iload_n hx hb dX11_contract_17 rfl (lv_at hl 4 rfl) ?_
      refine lv_iconst (v := 1) hx hb dX11_contract_18 (by decide) ?_
      refine lv_sipush (v := 1000) hx hb dX11_contract_19 (by decide) ?_
      have hFc := gA_free hG hA hS
      refine va_calli (va_runS (As := [.int p2, .int 1, .int 1000]) (rest := []) ⟨hx, hb, hml, hown, hts⟩ (c_within l dC dI kA adK adV G H nC nS p2 1 1000 hT (by omega) (by omega)) (va_cwS 3 hts (goodIn_app (goodIn_r _ [4, 5, 6] rfl (by decide +kernel)) (goodIn_ca (goodIn_r _ [3] rfl (by decide +kernel)) (bs2_in _ _))) rfl rfl rfl (by decide +kernel) ⟨(Nat.le_of_ble_eq_true rfl), (Nat.le_of_ble_eq_true rfl)⟩) ⟨fun a U g mk q => by obtain ⟨q0, q1, qK, qE⟩ := q; exact ⟨q0, q1, va_K.moved (u := U) (U := U.calling g mk a) (Vm.Alike.refl U.vm) qK, EVC.blind g mk a qE⟩, fun U hU hW => ⟨rfl, hU, va_K.moved hW.alike hK, hE.call hS hFc hU hW⟩⟩ rfl rfl hl.1 rfl (lv_room (Nat.le_of_ble_eq_true rfl)) dX11_contract_22 ⟨(Nat.le_of_ble_eq_true rfl), (Nat.le_of_ble_eq_true rfl)⟩) hS (fun q _ h => hFc q h) hFc (fun r21 u t H locs ht hvm hw22 hB _ _ hS => ?_)
      obtain ⟨hT, hF1⟩ := hB
      rw [ht] at hT hF1
      have hF := hF.more (hF1.sub hZ.1) (by decide)
      try dsimp only at hw22
      obtain ⟨h23, hi24, hi25⟩ := hw22
      refine lv_if_eq (tgt := 44) hx hb dX11_contract_25 (by decide) (fun c26 => ?_) (fun c26 => ?_)
      · have t27 : r21.toInt = 0 := ti_eq c26 rfl (by decide)
        have t28 : (1 : Int32).toInt = 1 := by decide
        have t29 : (1000 : Int32).toInt = 1000 := by decide
        have t30 : p2.toInt < (1 : Int32).toInt ∨ (1000 : Int32).toInt < p2.toInt := hi25 c26
        refine lv_iconst (v := 0) hx hb dX11_contract_44 (by decide) ?_
        have hFc := gA_free hG hA hS
        refine vx_callN (vx_runS (As := [.int 0]) (rest := []) ⟨hx, hb, hml, hown, hts⟩ (c_needNumbers0 l hlt dC dI kA adK adV G H nC nS hT (by omega) (by omega)) (va_cwS 1 hts (goodIn_app (goodIn_r _ [15, 16, 6] rfl (by decide +kernel)) (goodIn_ca (goodIn_r _ [12, 13, 14] rfl (by decide +kernel)) (bs2_in _ _))) rfl rfl rfl (by decide +kernel) ⟨(Nat.le_of_ble_eq_true rfl), (Nat.le_of_ble_eq_true rfl)⟩) ⟨fun a U g mk q => by obtain ⟨q0, q1, qK, qE⟩ := q; exact ⟨q0, q1, va_K.moved (u := U) (U := U.calling g mk a) (Vm.Alike.refl U.vm) qK, EVC.blind g mk a qE⟩, fun U hU hW => ⟨rfl, hU, va_K.moved hW.alike hK, hE.call hS hFc hU hW⟩⟩ rfl rfl hl.1 rfl (lv_room (Nat.le_of_ble_eq_true rfl)) dX11_contract_45 ⟨(Nat.le_of_ble_eq_true rfl), (Nat.le_of_ble_eq_true rfl)⟩) hS hFc (fun q _ h => hFc q h) (fun E ce q9 u t H locs ht hvm _ hw32 _ _ hS hce hcv hcl => ?_)
        obtain ⟨hw32, hTx, hFx⟩ := hw32; rw [ht] at hTx hFx
        exact vx_out (fun x h => (hnt x h).elim) hlocks hce hcv hcl (fun t2 h2 hW => ⟨(), trivial, ⟨((fun h9 => (Or.inr (Or.inl h9))) hw32), by rw [h2]; exact hTx, by rw [h2]; exact hF.more hFx (by decide)⟩, hS.F h2⟩) hS.2.2 (by decide) (by decide)
      · have t33 : r21.toInt ≠ 0 := ti_ne c26 rfl (by decide)
        have t34 : (1 : Int32).toInt = 1 := by decide
        have t35 : (1000 : Int32).toInt = 1000 := by decide
        have t36 : (1 : Int32).toInt ≤ p2.toInt ∧ p2.toInt ≤ (1000 : Int32).toInt := hi24 ((bit_of ⟨by omega, by omega⟩).resolve_left c26)
        refine lv_iload hx hb dX11_contract_28 (lv_at hl 5 rfl) ?_
        refine lv_iconst (v := 0) hx hb dX11_contract_30 (by decide) ?_
        refine lv_sipush (v := 200) hx hb dX11_contract_31 (by decide) ?_
        have hFc := gA_free hG hA hS
        refine va_calli (va_runS (As := [.int p3, .int 0, .int 200]) (rest := []) ⟨hx, hb, hml, hown, hts⟩ (c_within l dC dI kA adK adV G H nC nS p3 0 200 hT (by omega) (by omega)) (va_cwS 3 hts (goodIn_app (goodIn_r _ [4, 5, 6] rfl (by decide +kernel)) (goodIn_ca (goodIn_r _ [3] rfl (by decide +kernel)) (bs2_in _ _))) rfl rfl rfl (by decide +kernel) ⟨(Nat.le_of_ble_eq_true rfl), (Nat.le_of_ble_eq_true rfl)⟩) ⟨fun a U g mk q => by obtain ⟨q0, q1, qK, qE⟩ := q; exact ⟨q0, q1, va_K.moved (u := U) (U := U.calling g mk a) (Vm.Alike.refl U.vm) qK, EVC.blind g mk a qE⟩, fun U hU hW => ⟨rfl, hU, va_K.moved hW.alike hK, hE.call hS hFc hU hW⟩⟩ rfl rfl hl.1 rfl (lv_room (Nat.le_of_ble_eq_true rfl)) dX11_contract_34 ⟨(Nat.le_of_ble_eq_true rfl), (Nat.le_of_ble_eq_true rfl)⟩) hS (fun q _ h => hFc q h) hFc (fun r37 u t H locs ht hvm hw38 hB _ _ hS => ?_)
        obtain ⟨hT, hF1⟩ := hB
        rw [ht] at hT hF1
        have hF := hF.more (hF1.sub hZ.1) (by decide)
        try dsimp only at hw38
        obtain ⟨h39, hi40, hi41⟩ := hw38
        refine lv_if_eq (tgt := 44) hx hb dX11_contract_37 (by decide) (fun c42 => ?_) (fun c42 => ?_)
        · have t43 : r37.toInt = 0 := ti_eq c42 rfl (by decide)
          have t44 : (0 : Int32).toInt = 0 := by decide
          have t45 : (200 : Int32).toInt = 200 := by decide
          have t46 : p3.toInt < (0 : Int32).toInt ∨ (200 : Int32).toInt < p3.toInt := hi41 c42
          refine lv_iconst (v := 0) hx hb dX11_contract_44 (by decide) ?_
          have hFc := gA_free hG hA hS
          refine vx_callN (vx_runS (As := [.int 0]) (rest := []) ⟨hx, hb, hml, hown, hts⟩ (c_needNumbers0 l hlt dC dI kA adK adV G H nC nS hT (by omega) (by omega)) (va_cwS 1 hts (goodIn_app (goodIn_r _ [15, 16, 6] rfl (by decide +kernel)) (goodIn_ca (goodIn_r _ [12, 13, 14] rfl (by decide +kernel)) (bs2_in _ _))) rfl rfl rfl (by decide +kernel) ⟨(Nat.le_of_ble_eq_true rfl), (Nat.le_of_ble_eq_true rfl)⟩) ⟨fun a U g mk q => by obtain ⟨q0, q1, qK, qE⟩ := q; exact ⟨q0, q1, va_K.moved (u := U) (U := U.calling g mk a) (Vm.Alike.refl U.vm) qK, EVC.blind g mk a qE⟩, fun U hU hW => ⟨rfl, hU, va_K.moved hW.alike hK, hE.call hS hFc hU hW⟩⟩ rfl rfl hl.1 rfl (lv_room (Nat.le_of_ble_eq_true rfl)) dX11_contract_45 ⟨(Nat.le_of_ble_eq_true rfl), (Nat.le_of_ble_eq_true rfl)⟩) hS hFc (fun q _ h => hFc q h) (fun E ce q9 u t H locs ht hvm _ hw48 _ _ hS hce hcv hcl => ?_)
          obtain ⟨hw48, hTx, hFx⟩ := hw48; rw [ht] at hTx hFx
          exact vx_out (fun x h => (hnt x h).elim) hlocks hce hcv hcl (fun t2 h2 hW => ⟨(), trivial, ⟨((fun h9 => (Or.inr (Or.inl h9))) hw48), by rw [h2]; exact hTx, by rw [h2]; exact hF.more hFx (by decide)⟩, hS.F h2⟩) hS.2.2 (by decide) (by decide)
        · have t49 : r37.toInt ≠ 0 := ti_ne c42 rfl (by decide)
          have t50 : (0 : Int32).toInt = 0 := by decide
          have t51 : (200 : Int32).toInt = 200 := by decide
          have t52 : (0 : Int32).toInt ≤ p3.toInt ∧ p3.toInt ≤ (200 : Int32).toInt := hi40 ((bit_of ⟨by omega, by omega⟩).resolve_left c42)
          refine lv_iconst (v := 1) hx hb dX11_contract_40 (by decide) ?_
          refine lv_goto (tgt := 45) hx hb dX11_contract_41 (by decide) ?_
          have hFc := gA_free hG hA hS
          refine vx_callv (vx_runS (As := [.int 1]) (rest := []) ⟨hx, hb, hml, hown, hts⟩ (c_needNumbers1 l hlt dC dI kA adK adV G H nC nS hT (by omega) (by omega)) (va_cwS 1 hts (goodIn_app (goodIn_r _ [15, 16, 6] rfl (by decide +kernel)) (goodIn_ca (goodIn_r _ [12] rfl (by decide +kernel)) (bs2_in _ _))) rfl rfl rfl (by decide +kernel) ⟨(Nat.le_of_ble_eq_true rfl), (Nat.le_of_ble_eq_true rfl)⟩) ⟨fun a U g mk q => by obtain ⟨q0, q1, qK, qE⟩ := q; exact ⟨q0, q1, va_K.moved (u := U) (U := U.calling g mk a) (Vm.Alike.refl U.vm) qK, EVC.blind g mk a qE⟩, fun U hU hW => ⟨rfl, hU, va_K.moved hW.alike hK, hE.call hS hFc hU hW⟩⟩ rfl rfl hl.1 rfl (lv_room (Nat.le_of_ble_eq_true rfl)) dX11_contract_45 ⟨(Nat.le_of_ble_eq_true rfl), (Nat.le_of_ble_eq_true rfl)⟩) hS (fun q _ h => hFc q h) hFc (fun q _ h => hFc q h) (fun E ce q9 u t H locs ht hvm _ hw54 _ _ hS hce hcv hcl => ?_) (fun u t H locs ht hvm hw54 hB _ _ hS => ?_)
          · obtain ⟨hw54, hTx, hFx⟩ := hw54; rw [ht] at hTx hFx
            exact vx_out (fun x h => (hnt x h).elim) hlocks hce hcv hcl (fun t2 h2 hW => ⟨(), trivial, ⟨((fun h9 => (Or.inr (Or.inl h9))) hw54), by rw [h2]; exact hTx, by rw [h2]; exact hF.more hFx (by decide)⟩, hS.F h2⟩) hS.2.2 (by decide) (by decide)
          · obtain ⟨hT, hF1⟩ := hB
            rw [ht] at hT hF1
            have hF := hF.more (hF1.sub hZ.1) (by decide)
            try dsimp only at hw54
            refine lv_aload hx hb dX11_contract_48 (lv_at hl 0 rfl) ?_
            have hFc := gA_free hG hA hS
            refine va_calli (va_runV (As := []) (rest := []) ⟨hx, hb, hml, hown, hts⟩ (c_isBank l dC dI kA adK adV G H nC nS r1 hT hg3 (by omega) (by omega)) (cwV 0 hts (goodIn_app (goodIn_r _ [19, 20, 21, 22] rfl (by decide +kernel)) (goodIn_ca (goodIn_r _ [17, 18] rfl (by decide +kernel)) (bs2_in _ _))) rfl rfl rfl (by decide +kernel) ⟨(Nat.le_of_ble_eq_true rfl), (Nat.le_of_ble_eq_true rfl)⟩) ⟨fun a U g mk q => by obtain ⟨q0, q1, qK, qE⟩ := q; exact ⟨q0, q1, va_K.moved (u := U) (U := U.calling g mk a) (Vm.Alike.refl U.vm) qK, EVC.blind g mk a qE⟩, gH_rc hK hT hg3 shc_13 rfl, fun U hU hW => ⟨rfl, hU, va_K.moved hW.alike hK, hE.call hS hFc hU hW⟩⟩ rfl rfl hl.1 rfl (lv_room (Nat.le_of_ble_eq_true rfl)) dX11_contract_50 ⟨(Nat.le_of_ble_eq_true rfl), (Nat.le_of_ble_eq_true rfl)⟩) hS (fun q _ h => hFc q h) hFc (fun r55 u t H locs ht hvm hw56 hB _ _ hS => ?_)
            obtain ⟨hT, hF1⟩ := hB
            rw [ht] at hT hF1
            have hF := hF.more (hF1.sub hZ.1) (by decide)
            try dsimp only at hw56
            have h57 := hw56
            have hb58 : r55 = 0 ∨ r55 = 1 := bit_of ⟨by omega, by omega⟩
            rcases hb58 with rfl | rfl
            · have hFc := gA_free hG hA hS
              refine vx_callN (vx_runS (As := [.int 0]) (rest := []) ⟨hx, hb, hml, hown, hts⟩ (c_needKind0 l hlt dC dI kA adK adV G H nC nS hT (by omega) (by omega)) (va_cwS 1 hts (goodIn_app (goodIn_r _ [26, 27, 6] rfl (by decide +kernel)) (goodIn_ca (goodIn_r _ [23, 24, 25] rfl (by decide +kernel)) (bs2_in _ _))) rfl rfl rfl (by decide +kernel) ⟨(Nat.le_of_ble_eq_true rfl), (Nat.le_of_ble_eq_true rfl)⟩) ⟨fun a U g mk q => by obtain ⟨q0, q1, qK, qE⟩ := q; exact ⟨q0, q1, va_K.moved (u := U) (U := U.calling g mk a) (Vm.Alike.refl U.vm) qK, EVC.blind g mk a qE⟩, fun U hU hW => ⟨rfl, hU, va_K.moved hW.alike hK, hE.call hS hFc hU hW⟩⟩ rfl rfl hl.1 rfl (lv_room (Nat.le_of_ble_eq_true rfl)) dX11_contract_53 ⟨(Nat.le_of_ble_eq_true rfl), (Nat.le_of_ble_eq_true rfl)⟩) hS hFc (fun q _ h => hFc q h) (fun E ce q9 u t H locs ht hvm _ hw60 _ _ hS hce hcv hcl => ?_)
              obtain ⟨hw60, hTx, hFx⟩ := hw60; rw [ht] at hTx hFx
              exact vx_out (fun x h => (hnt x h).elim) hlocks hce hcv hcl (fun t2 h2 hW => ⟨(), trivial, ⟨((fun h9 => (Or.inl h9)) hw60), by rw [h2]; exact hTx, by rw [h2]; exact hF.more hFx (by decide)⟩, hS.F h2⟩) hS.2.2 (by decide) (by decide)
            · have hFc := gA_free hG hA hS
              refine vx_callv (vx_runS (As := [.int 1]) (rest := []) ⟨hx, hb, hml, hown, hts⟩ (c_needKind1 l hlt dC dI kA adK adV G H nC nS hT (by omega) (by omega)) (va_cwS 1 hts (goodIn_app (goodIn_r _ [26, 27, 6] rfl (by decide +kernel)) (goodIn_ca (goodIn_r _ [23] rfl (by decide +kernel)) (bs2_in _ _))) rfl rfl rfl (by decide +kernel) ⟨(Nat.le_of_ble_eq_true rfl), (Nat.le_of_ble_eq_true rfl)⟩) ⟨fun a U g mk q => by obtain ⟨q0, q1, qK, qE⟩ := q; exact ⟨q0, q1, va_K.moved (u := U) (U := U.calling g mk a) (Vm.Alike.refl U.vm) qK, EVC.blind g mk a qE⟩, fun U hU hW => ⟨rfl, hU, va_K.moved hW.alike hK, hE.call hS hFc hU hW⟩⟩ rfl rfl hl.1 rfl (lv_room (Nat.le_of_ble_eq_true rfl)) dX11_contract_53 ⟨(Nat.le_of_ble_eq_true rfl), (Nat.le_of_ble_eq_true rfl)⟩) hS (fun q _ h => hFc q h) hFc (fun q _ h => hFc q h) (fun E ce q9 u t H locs ht hvm _ hw62 _ _ hS hce hcv hcl => ?_) (fun u t H locs ht hvm hw62 hB _ _ hS => ?_)
              · obtain ⟨hw62, hTx, hFx⟩ := hw62; rw [ht] at hTx hFx
                exact vx_out (fun x h => (hnt x h).elim) hlocks hce hcv hcl (fun t2 h2 hW => ⟨(), trivial, ⟨((fun h9 => (Or.inl h9)) hw62), by rw [h2]; exact hTx, by rw [h2]; exact hF.more hFx (by decide)⟩, hS.F h2⟩) hS.2.2 (by decide) (by decide)
              · obtain ⟨hT, hF1⟩ := hB
                rw [ht] at hT hF1
                have hF := hF.more (hF1.sub hZ.1) (by decide)
                try dsimp only at hw62
                refine lv_aload_n hx hb dX11_contract_56 rfl (lv_at hl 1 rfl) ?_
                refine tw_get hx hb hts bF2_X11 hown hK hT hr_o0 shc_14 rfl 8 (by decide) (ht_at2 hts 27 rfl) (fun _ h9 => h9) dX11_contract_57 (fun v9 m63 h9 => ?_)
                obtain ⟨x64, rfl, gx64, kx64⟩ := h9 _ rfl
                refine lv_bipush (v := 40) hx hb dX11_contract_60 (by decide) ?_
                refine lv_icmp_ne (tgt := 67) hx hb dX11_contract_62 (by decide) (fun c65 => ?_) (fun c65 => ?_)
                · have t66 : x64.toInt ≠ 40 := ti_ne c65 rfl (by decide)
                  refine lv_aload_n hx hb dX11_contract_67 rfl (lv_at hl 1 rfl) ?_
                  refine tw_get hx hb hts bF2_X11 hown hK hT hr_o0 shc_14 rfl 4 (by decide) (ht_at2 hts 28 rfl) (fun _ h9 => h9) dX11_contract_68 (fun v9 m67 h9 => ?_)
                  obtain ⟨b68, rfl, hg69⟩ := h9 _ rfl
                  refine lv_aload_n hx hb dX11_contract_71 rfl (lv_at hl 1 rfl) ?_
                  refine tw_getM (v := .int x64) hx hb hts bF2_X11 hown hK hT hr_o0 shc_14 rfl 8 (by decide) (ht_at2 hts 27 rfl) (fun _ h9 => h9) m63 dX11_contract_72 ?_
                  have hz9 := hS.1
                  refine tw_new hx hb hts bF2_X1 tyX1 tyX1_ok hown (ht_at2 hts 29 rfl) (ht_at2 hts 30 rfl) (ht_at2 hts 31 rfl) hK mon_c hT hS hG hA (shc_4) rfl nd_4 (Nat.le_of_ble_eq_true rfl) (Nat.le_of_ble_eq_true rfl) dX11_contract_75 (fun q70 G1 H hq9 eG hz1 hz2 hT hx9 hG hm9 hS => ?_)
                  have hn_q70 : s.heap.size ≤ q70 := Nat.le_trans hz9 (Nat.le_of_eq hz2)
                  have hF := hF.same (fun a t h => (hx9 _ _ (hZ.1 a t h)).2)
                  have hZ := hZ.new hn_q70 eG hx9 (by decide)
                  have hu_o := hZ.uniq hu_o0 (by decide)
                  have hu_a := hZ.uniq hu_a0 (by decide)
                  have m71 := (el_kept (hx9 _ _ hr_o0).2).trans m63
                  have hg73 := (hx9 _ _ hr_o0).1
                  have hg74 := (hx9 _ _ hg3).1
                  have hg75 := (hx9 _ _ hg69).1
                  have hg76 : G1 q70 = some 4 := by rw [eG]; exact gU_at
                  refine lv_dup hx hb dX11_contract_78 rfl ?_
                  refine lv_iload_n hx hb dX11_contract_79 rfl (lv_at hl 2 rfl) ?_
                  refine lv_iload_n hx hb dX11_contract_80 rfl (lv_at hl 3 rfl) ?_
                  refine lv_iload_n hx hb dX11_contract_81 rfl (lv_at hl 4 rfl) ?_
                  refine lv_iload hx hb dX11_contract_82 (lv_at hl 5 rfl) ?_
                  have hFc := gA_free hG hA hS
                  refine va_callv (va_runI (As := [.int p0, .int p1, .int p2, .int p3]) (rest := [.ref q70, .int x64, .ref b68]) ⟨hx, hb, hml, hown, hts⟩ (c_X1_init l dC dI kA adK adV G1 H nC nS q70 p0 p1 p2 p3 hT hg76 (by have q8 := ti_all p0; omega) (by omega) (by omega)) (cwI 4 hts (goodIn_ca (goodIn_r _ [33, 34, 35, 36, 37, 38, 39, 40, 41, 42] rfl (by decide +kernel)) (bs2_in _ _)) rfl rfl rfl (ht_at2 hts 31 rfl) (ht_at2 hts 42 rfl) (ht_at2 hts 43 rfl) rfl (by decide +kernel) ⟨(Nat.le_of_ble_eq_true rfl), (Nat.le_of_ble_eq_true rfl)⟩) ⟨fun a U g mk q => by obtain ⟨q0, q1, qK, qE⟩ := q; exact ⟨q0, q1, va_K.moved (u := U) (U := U.calling g mk a) (Vm.Alike.refl U.vm) qK, EVC.blind g mk a qE⟩, fun U hU hW => ⟨rfl, hU, va_K.moved hW.alike hK, hE.call hS hFc hU hW⟩⟩ rfl rfl hl.1 rfl (lv_room (Nat.le_of_ble_eq_true rfl)) dX11_contract_84 ⟨(Nat.le_of_ble_eq_true rfl), (Nat.le_of_ble_eq_true rfl)⟩) hS (fun q _ h => hFc q h) hFc (fun u t H locs ht hvm hw78 hB _ _ hS => ?_)
                  obtain ⟨hT, hF1⟩ := hB
                  rw [ht] at hT hF1
                  have m79 := (hF1.fld hg73 skc_14 (k := 8) (by decide) (by decide)).trans m71
                  have hF := hF.more (hF1.sub hZ.1) (by decide)
                  try dsimp only at hw78
                  refine tw_aast (C := RX1) (i := x64) hx hb hK hT hG hS hg75 shc_17 rfl hg76 shc_4 rfl (vin_t (a := x64.toInt) rfl (by omega) (by omega)) ⟨fun _ => ⟨_, rfl, hg76⟩, ⟨some _, rfl, fun _ h => by cases h; exact hg76⟩⟩ dX11_contract_87 (fun H locs hT oq m81 oi hS => ?_)
                  have hF := gF.astX hZ.1 hF hg75 skc_17 oq (by decide)
                  have m82 := (el_kept (oq _ (gne hg73 hg75 (by decide)))).trans m79
                  refine lv_aload_n hx hb dX11_contract_88 rfl (lv_at hl 1 rfl) ?_
                  refine lv_dup hx hb dX11_contract_89 rfl ?_
                  refine tw_getM (v := .int x64) hx hb hts bF2_X11 hown hK hT hg73 shc_14 rfl 8 (by decide) (ht_at2 hts 27 rfl) (fun _ h9 => h9) m82 dX11_contract_90 ?_
                  refine lv_iconst (v := 1) hx hb dX11_contract_93 (by decide) ?_
                  refine lv_iadd hx hb dX11_contract_94 ?_
                  refine lv_topi (fun x84 ex84 => ?_)
                  have t85 : x84.toInt = x64.toInt + 1 := ti_add ex84 rfl (by decide) (by omega) (by omega)
                  have ho9 : ∀ b u, u ≠ 14 → G1 b = some u → gC (dC, dI) kA ((SHc (nC + 1) nS) u) G1 b H := fun b u h1 h2 => by
                    by_cases e9 : u = 17
                    · subst e9; have e8 := hu_a b h2; subst e8; have h8 := hT _ _ h2; rw [shc_17] at h8 ⊢
                      exact gC.gnb1 h8 (k0 := x64.toNatClampNeg) (by have q9 := tn_of (show x64.toInt = x64.toInt from rfl) (by omega); omega) (by rw [← hu_a b68 hg75]; exact m81) hg76
                    · rw [← shc_oC (nC := nC) h1 e9]; exact hT b u h2
                  refine tw_put2 (Sg1 := (SHc (nC + 1) nS)) (v := .int x84) (ty := .int) hx hb hts bF2_X11 tyX11 tyX11_ok nmX11 hown hK hT hG hS hg73 shc_14 shc_14 rfl 8 (by decide) (ht_at2 hts 27 rfl) (fun _ h9 => h9) rfl (by decide +kernel) rfl rfl (gl_at rfl ⟨_, rfl, by omega, by omega⟩) (fun j v _ hn h9 => gl_set (i := 8) (k := gI (nC + 1) (nC + 1)) hn h9) hu_o ho9 dX11_contract_95 (fun H locs hT oq m86 oj hS => ?_)
                  have hF := gF.putX hZ.1 hF hg73 skc_14 oq oj (by decide)
                  refine lv_aload_n hx hb dX11_contract_98 rfl (lv_at hl 1 rfl) ?_
                  refine tw_getM (v := .int x84) hx hb hts bF2_X11 hown hK hT hg73 shc_14 rfl 8 (by decide) (ht_at2 hts 27 rfl) (fun _ h9 => h9) m86 dX11_contract_99 ?_
                  refine lv_iconst (v := 1) hx hb dX11_contract_102 (by decide) ?_
                  refine lv_isub hx hb dX11_contract_103 ?_
                  refine lv_topi (fun x89 ex89 => ?_)
                  have t90 : x89.toInt = x84.toInt - 1 := ti_sub ex89 rfl (by decide) (by omega) (by omega)
                  exact vx_ret (W.iret (v := x89) hx hb hr (fun t ht hW => ⟨⟨x89, (G1, (nC + 1), nS), rfl, (by exact (by have q8 := ti_all x89; omega)), by (try dsimp only); rw [ht]; exact ⟨hT, hF, hZ, (by omega), (by omega)⟩⟩, hS.F ht⟩) hS.2.2 dX11_contract_104)
                · have t91 : x64.toInt = 40 := ti_eq c65 rfl (by decide)
                  refine lv_iconst (v := (-1)) hx hb dX11_contract_65 (by decide) ?_
                  refine W.widen (k := 2) (n := 14) (by decide) (by decide) ?_
                  exact vx_ret (W.iret (v := (-1)) hx hb hr (fun t ht hW => ⟨⟨(-1), (G, nC, nS), rfl, (by exact (rg_t (a := (-1)) (by decide) (by first | decide | omega) (by first | decide | omega))), by (try dsimp only); rw [ht]; exact ⟨hT, hF, hZ, (by omega), (by omega)⟩⟩, hS.F ht⟩) hS.2.2 dX11_contract_66)
def w_c_keep : List Cond := .code yX11_keep cX11_keep 1 (some .boolean) :: (HAppend.hAppend (α := List Cond) (β := List Cond) (γ := List Cond) [.fieldLink RX11 16 "SeaLand" "lake" "LSeaLand$Lake;", .fieldLink RX11 505 "SeaLand" "image" "LSeaLand$Lake;", .classLink RX11 13 RX3, .instantiable RX3 5, .initialized RX3, .code yX3_init cX3_init 2 none, .methodLink RX3 3 objectInit, .instanceMethod objectInit, .code objectInit ⟨#[0xb1]⟩ 1 none, .classLink RX3 9 RX8, .instantiable RX8 7, .initialized RX8, .code yX8_init cX8_init 1 none, .methodLink RX8 3 objectInit, .arrayClass .int, .fieldLink RX8 9 "SeaLand$Sky" "tides" "[I", .fieldLink RX8 15 "SeaLand$Sky" "stormFrom" "[I", .fieldLink RX8 18 "SeaLand$Sky" "stormTo" "[I", .fieldLink RX8 21 "SeaLand$Sky" "stormMore" "[I", .classLink RX8 24 RX9, .instantiable RX9 3, .initialized RX9, .code yX9_init cX9_init 1 none, .methodLink RX9 3 objectInit, .fieldLink RX9 9 "SeaLand$Tellings" "hours" "[I", .fieldLink RX9 15 "SeaLand$Tellings" "numbers" "[I", .instanceMethod yX9_init, .fieldLink RX8 27 "SeaLand$Sky" "wind" "LSeaLand$Tellings;", .fieldLink RX8 31 "SeaLand$Sky" "rain" "LSeaLand$Tellings;", .instanceMethod yX8_init, .fieldLink RX3 12 "SeaLand$Lake" "sky" "LSeaLand$Sky;", .classLink RX3 18 RX2, .instantiable RX2 15, .initialized RX2, .code yX2_init cX2_init 1 none, .methodLink RX2 3 objectInit, .arrayClass .boolean, .fieldLink RX2 9 "SeaLand$Ground" "isLand" "[Z", .fieldLink RX2 15 "SeaLand$Ground" "height" "[I", .fieldLink RX2 19 "SeaLand$Ground" "soil" "[I", .fieldLink RX2 22 "SeaLand$Ground" "ditch" "[I", .fieldLink RX2 25 "SeaLand$Ground" "water" "[I", .fieldLink RX2 28 "SeaLand$Ground" "salt" "[I", .fieldLink RX2 31 "SeaLand$Ground" "dry" "[I", .fieldLink RX2 34 "SeaLand$Ground" "wet" "[I", .fieldLink RX2 37 "SeaLand$Ground" "ditchTo" "[I", .fieldLink RX2 40 "SeaLand$Ground" "ditchWater" "[I", .fieldLink RX2 43 "SeaLand$Ground" "ditchSalt" "[I", .instanceMethod yX2_init, .fieldLink RX3 21 "SeaLand$Lake" "ground" "LSeaLand$Ground;", .classLink RX3 25 RX10, .fieldLink RX3 27 "SeaLand$Lake" "works" "[LSeaLand$Work;", .instantiable RX10 12, .initialized RX10, .code yX10_init cX10_init 1 none, .methodLink RX10 3 objectInit, .fieldLink RX10 9 "SeaLand$Work" "thick" "[I", .fieldLink RX10 15 "SeaLand$Work" "clay" "[I", .instanceMethod yX10_init, .methodLink RX11 15 yX3_init, .instanceMethod yX3_init, .code yX3_copyFrom cX3_copyFrom 3 none, .code yX8_copyFrom cX8_copyFrom 2 none, .methodLink RX8 63 arraycopyName, .native arraycopyName, .static arraycopyName, .initialized "java/lang/System", .code yX9_copyFrom cX9_copyFrom 2 none, .methodLink RX9 23 arraycopyName, .fieldLink RX9 18 "SeaLand$Tellings" "told" "I", .methodLink RX8 69 yX9_copyFrom, .instanceMethod yX9_copyFrom, .selects RX9 yX9_copyFrom yX9_copyFrom, .fieldLink RX8 34 "SeaLand$Sky" "storms" "I", .methodLink RX3 175 yX8_copyFrom, .instanceMethod yX8_copyFrom, .selects RX8 yX8_copyFrom yX8_copyFrom, .code yX2_copyFrom cX2_copyFrom 2 none, .methodLink RX2 95 arraycopyName, .fieldLink RX2 54 "SeaLand$Ground" "rained" "I", .fieldLink RX2 57 "SeaLand$Ground" "cameIn" "I", .fieldLink RX2 64 "SeaLand$Ground" "wentOut" "I", .fieldLink RX2 50 "SeaLand$Ground" "toldMore" "I", .methodLink RX3 179 yX2_copyFrom, .instanceMethod yX2_copyFrom, .selects RX2 yX2_copyFrom yX2_copyFrom, .fieldLink RX3 47 "SeaLand$Lake" "built" "I", .fieldLink RX3 32 "SeaLand$Lake" "hour" "I", .code yX10_copyFrom cX10_copyFrom 2 none, .methodLink RX10 60 arraycopyName, .fieldLink RX10 18 "SeaLand$Work" "kind" "I", .fieldLink RX10 22 "SeaLand$Work" "square" "I", .fieldLink RX10 25 "SeaLand$Work" "to" "I", .fieldLink RX10 28 "SeaLand$Work" "size" "I", .fieldLink RX10 31 "SeaLand$Work" "width" "I", .fieldLink RX10 34 "SeaLand$Work" "layers" "I", .fieldLink RX10 37 "SeaLand$Work" "coal" "I", .fieldLink RX10 40 "SeaLand$Work" "on" "Z", .fieldLink RX10 44 "SeaLand$Work" "latest" "I", .fieldLink RX10 47 "SeaLand$Work" "total" "I", .methodLink RX3 182 yX10_copyFrom, .instanceMethod yX10_copyFrom, .selects RX10 yX10_copyFrom yX10_copyFrom, .methodLink RX11 508 yX3_copyFrom, .instanceMethod yX3_copyFrom, .selects RX3 yX3_copyFrom yX3_copyFrom] bs2)
set_option maxHeartbeats 4000000 in
set_option maxRecDepth 100000 in
theorem c_keep (l : Launch) (dC : Nat → ClassId) (dI : Nat → Nat → Nat) (kA : Nat → ClassId) (adK adV : Nat → Nat) (G : gT) (H0 : Heap) (nC nS : Int) (o0 : Nat)  (hT : gH (dC, dI) kA (SHc nC nS) G H0) (hr_o0 : G o0 = some 14) (hgC : 0 ≤ nC ∧ nC ≤ 40) (hgS : 0 ≤ nS ∧ nS ≤ 60) : Met l yX11_keep w_c_keep ({ frames := 5, cells := 115, slots := 2151, locals := 124 }) (va_Pc [.ref o0] (fun U => U.heap = H0 ∧ va_K (dC, dI) vwCl (tyl kA) U ∧ EVC adK adV (gA G H0.size) U U.heap ∧ AO U)) (va_Qi (fun (r : Int32) (u : gT × Int × Int) => (0 ≤ r.toInt ∧ r.toInt ≤ 1)) (fun (u : gT × Int × Int) (t : State) => match u with | (G1, n1, n2) => gH (dC, dI) kA (SHc n1 n2) G1 t.heap ∧ gF (dC, dI) SKc G ([(14, 6), (71, 0), (72, 0), (73, 0), (74, 0), (75, 0), (76, 0), (77, 0), (78, 0), (79, 0), (80, 0), (81, 0), (82, 0), (83, 0), (84, 0), (88, 0), (89, 0), (90, 3), (90, 4), (91, 6), (92, 2), (93, 11), (93, 12), (93, 13), (93, 14), (94, 2), (94, 3), (94, 4), (94, 5), (94, 6), (94, 7), (94, 8), (94, 9), (94, 10), (94, 11)] : List (Nat × Nat)) H0 t.heap ∧ gZ ([70, 71, 72, 73, 74, 75, 76, 77, 78, 79, 80, 81, 82, 83, 84, 85, 86, 87, 88, 89, 90, 91, 92, 93, 94, 120, 121, 122, 123, 124, 125] : List Nat) H0.size G G1 ∧ (0 ≤ n1 ∧ n1 ≤ 40) ∧ (0 ≤ n2 ∧ n2 ≤ 60)) (gA G H0.size)) 115 2151 (gA G H0.size) := by
  refine Met.ofW (cc := cX11_keep) (maxL := 1) (ret := (some .boolean)) (by decide) rfl ?_
  intro p e s m args below meth c s₁ B hml hv
  obtain ⟨rfl, hH0, hK, hE, hAO⟩ := hv
  have hx := B.exec
  have hb := B.bytes
  have hr := B.returns
  have hts := atoms_spec (ws := w_c_keep) B.pre
  have hown : s.vm.findClass RX11 = some m.cls := findClass_of_methodNamed B.named
  have hlocks := B.notSynchronized
  subst hH0
  generalize hAe : gA G s.heap.size = A at hE ⊢
  have hA : ∀ q : Nat, s.heap.size ≤ q → A q := fun q h => by rw [← hAe]; exact Or.inr h
  have hG := gA_of hAe
  have hS : va_S A s.heap s.heap [] := va_S.rf
  have hF : gF (dC, dI) SKc G ([(14, 6), (71, 0), (72, 0), (73, 0), (74, 0), (75, 0), (76, 0), (77, 0), (78, 0), (79, 0), (80, 0), (81, 0), (82, 0), (83, 0), (84, 0), (88, 0), (89, 0), (90, 3), (90, 4), (91, 6), (92, 2), (93, 11), (93, 12), (93, 13), (93, 14), (94, 2), (94, 3), (94, 4), (94, 5), (94, 6), (94, 7), (94, 8), (94, 9), (94, 10), (94, 11)] : List (Nat × Nat)) s.heap s.heap := gF.rf
  have hl := lv_entry ([.ref o0]) (n := 1) (Nat.le_of_ble_eq_true rfl)
  rw [lg_entry_eq]
  generalize (lg_sl ([.ref o0]) ++ List.replicate (1 - (lg_sl ([.ref o0])).length) Slot.unset).toArray = ls at hl ⊢
  have hl : lv_has ls 1 [(0, .ref o0)] := hl
  have hG0 := hG
  have hZ : gZ ([70, 71, 72, 73, 74, 75, 76, 77, 78, 79, 80, 81, 82, 83, 84, 85, 86, 87, 88, 89, 90, 91, 92, 93, 94, 120, 121, 122, 123, 124, 125] : List Nat) s.heap.size G G := gZ.rf hT
  refine lv_aload_n hx hb dX11_keep_0 rfl (lv_at hl 0 rfl) ?_
  refine tw_get hx hb hts bF2_X11 hown hK hT hr_o0 shc_14 rfl 1 (by decide) (ht_at2 hts 0 rfl) (fun _ h9 => h9) dX11_keep_1 (fun v9 m1 h9 => ?_)
  obtain ⟨b2, rfl, hg3⟩ := h9 _ rfl
  refine tw_getN hx hb hts bF2_X3 hown hK hT hg3 shc_6 rfl 4 (by decide) (hE.nw 0 rfl) (fun _ h9 => h9) dX11_keep_4 (fun v9 m4 h9 => ?_)
  obtain ⟨x5, rfl, gx5, kx5⟩ := h9 _ rfl
  refine lv_if_ne (tgt := 12) hx hb dX11_keep_7 (by decide) (fun c6 => ?_) (fun c6 => ?_)
  · have t7 : x5.toInt ≠ 0 := ti_ne c6 rfl (by decide)
    refine lv_aload_n hx hb dX11_keep_12 rfl (lv_at hl 0 rfl) ?_
    refine tw_get hx hb hts bF2_X11 hown hK hT hr_o0 shc_14 rfl 6 (by decide) (ht_at2 hts 1 rfl) (fun _ h9 => h9) dX11_keep_13 (fun v9 m8 h9 => ?_)
    obtain ⟨r9, rfl, hn9⟩ := h9 _ rfl
    rcases r9 with _ | b9
    · refine W.eq (g2 := F0 m 16 ls [.null]) rfl ?_
      refine lv_ifnonnullN hx hb dX11_keep_16 ?_
      refine lv_aload_n hx hb dX11_keep_19 rfl (lv_at hl 0 rfl) ?_
      have hz9 := hS.1
      refine tw_new hx hb hts bF2_X3 tyX3 tyX3_ok hown (ht_at2 hts 2 rfl) (ht_at2 hts 3 rfl) (ht_at2 hts 4 rfl) hK mon_c hT hS hG hA (shc_120) rfl nd_120 (Nat.le_of_ble_eq_true rfl) (Nat.le_of_ble_eq_true rfl) dX11_keep_20 (fun q11 G1 H hq9 eG hz1 hz2 hT hx9 hG hm9 hS => ?_)
      have hn_q11 : s.heap.size ≤ q11 := Nat.le_trans hz9 (Nat.le_of_eq hz2)
      have hF := hF.same (fun a t h => (hx9 _ _ (hZ.1 a t h)).2)
      have hZ := hZ.new hn_q11 eG hx9 (by decide)
      have m12 := (el_kept (hx9 _ _ hr_o0).2).trans m1
      have hg15 := (hx9 _ _ hr_o0).1
      have hg16 := (hx9 _ _ hg3).1
      have hg17 : G1 q11 = some 120 := by rw [eG]; exact gU_at
      refine lv_dup hx hb dX11_keep_23 rfl ?_
      have hFc := gA_free hG hA hS
      have hz9 := hS.1
      refine va_callv (va_runI (As := []) (rest := [.ref q11, .ref o0]) ⟨hx, hb, hml, hown, hts⟩ (n_I3 l dC dI kA adK adV G1 H nC nS q11 hT hg17 (by omega) (by omega)) (cwI 0 hts (goodIn_ca (goodIn_r _ [6, 7, 8, 9, 10, 11, 12, 13, 14, 15, 16, 17, 18, 19, 20, 21, 22, 23, 24, 25, 26, 27, 28, 29, 30, 31, 32, 33, 34, 35, 36, 37, 38, 39, 40, 41, 42, 43, 44, 45, 46, 47, 48, 49, 50, 51, 52, 53, 54, 55, 56, 57, 58, 59] rfl (by decide +kernel)) (bs2_in _ _)) rfl rfl rfl (ht_at2 hts 4 rfl) (ht_at2 hts 59 rfl) (ht_at2 hts 60 rfl) rfl (by decide +kernel) ⟨(Nat.le_of_ble_eq_true rfl), (Nat.le_of_ble_eq_true rfl)⟩) ⟨fun a U g mk q => by obtain ⟨q0, q1, qK, qE, qA⟩ := q; exact ⟨q0, q1, va_K.moved (u := U) (U := U.calling g mk a) (Vm.Alike.refl U.vm) qK, EVC.blind g mk a qE, AO.blind g mk a qA⟩, fun U hU hW => ⟨rfl, hU, va_K.moved hW.alike hK, hE.call hS hFc hU hW, hAO.call hW⟩⟩ rfl rfl hl.1 rfl (lv_room (Nat.le_of_ble_eq_true rfl)) dX11_keep_24 ⟨(Nat.le_of_ble_eq_true rfl), (Nat.le_of_ble_eq_true rfl)⟩) hS (fun q _ h => hFc q h) hFc (fun G2 t H locs ht hvm _ hB _ _ hS => ?_)
      (try dsimp only at hB); rw [ht] at hB; obtain ⟨hT, hg18, hY1⟩ := hB
      have hF := hF.same (hZ.kept hn_q11 hY1)
      have hZ := hZ.call hn_q11 hY1 hz9 (by decide)
      have hG := hZ.A hG0 hA
      have m19 := (el_kept (hY1.1 _ _ (gne hg15 hg17 (by decide)) hg15).2).trans m12
      have hg22 := (hY1.1 _ _ (gne hg15 hg17 (by decide)) hg15).1
      have hg23 := (hY1.1 _ _ (gne hg16 hg17 (by decide)) hg16).1
      refine tw_put (v := .ref q11) (ty := (.object "SeaLand$Lake")) hx hb hts bF2_X11 tyX11 tyX11_ok nmX11 hown hK hT hG hS hg22 shc_14 rfl 6 (by decide) (ht_at2 hts 1 rfl) (fun _ h9 => h9) rfl (by decide +kernel) rfl rfl (gl_at rfl ⟨some _, rfl, fun _ h => by cases h; exact hg18⟩) dX11_keep_27 (fun H locs hT oq m24 oj hS => ?_)
      have hF := gF.putX hZ.1 hF hg22 skc_14 oq oj (by decide)
      have m25 := (oj 1 (by decide) (by decide)).trans m19
      refine lv_aload_n hx hb dX11_keep_30 rfl (lv_at hl 0 rfl) ?_
      refine tw_getM (v := .ref q11) hx hb hts bF2_X11 hown hK hT hg22 shc_14 rfl 6 (by decide) (ht_at2 hts 1 rfl) (fun _ h9 => h9) m24 dX11_keep_31 ?_
      refine lv_aload_n hx hb dX11_keep_34 rfl (lv_at hl 0 rfl) ?_
      refine tw_getM (v := .ref b2) hx hb hts bF2_X11 hown hK hT hg22 shc_14 rfl 1 (by decide) (ht_at2 hts 0 rfl) (fun _ h9 => h9) m25 dX11_keep_35 ?_
      have hFc := gA_free hG hA hS
      refine va_callv (va_runV (As := [.ref b2]) (rest := []) ⟨hx, hb, hml, hown, hts⟩ (c_copyL_i l dC dI kA adK adV G2 H nC nS q11 b2 hT hg18 hg23 (by omega) (by omega)) (cwV 1 hts (goodIn_app (goodIn_r _ [104, 105, 106, 5] rfl (by decide +kernel)) (goodIn_ca (goodIn_r _ [62, 31, 63, 16, 64, 65, 66, 67, 17, 18, 19, 28, 68, 25, 69, 26, 70, 71, 72, 73, 22, 29, 74, 75, 76, 77, 12, 50, 78, 38, 79, 39, 40, 41, 42, 43, 44, 45, 80, 81, 82, 83, 84, 85, 86, 34, 87, 88, 52, 89, 57, 90, 58, 91, 92, 93, 94, 95, 96, 97, 98, 99, 100, 101, 102, 103, 54] rfl (by decide +kernel)) (bs2_in _ _))) rfl rfl rfl (by decide +kernel) ⟨(Nat.le_of_ble_eq_true rfl), (Nat.le_of_ble_eq_true rfl)⟩) ⟨fun a U g mk q => by obtain ⟨q0, q1, qK, qE⟩ := q; exact ⟨q0, q1, va_K.moved (u := U) (U := U.calling g mk a) (Vm.Alike.refl U.vm) qK, EVC.blind g mk a qE⟩, gH_rc hK hT hg18 shc_90 rfl, fun U hU hW => ⟨rfl, hU, va_K.moved hW.alike hK, hE.call hS hFc hU hW⟩⟩ rfl rfl hl.1 rfl (lv_room (Nat.le_of_ble_eq_true rfl)) dX11_keep_38 ⟨(Nat.le_of_ble_eq_true rfl), (Nat.le_of_ble_eq_true rfl)⟩) hS (fun q _ h => hFc q h) hFc (fun u t H locs ht hvm hw28 hB _ _ hS => ?_)
      obtain ⟨hT, hF1⟩ := hB
      rw [ht] at hT hF1
      have hF := hF.more (hF1.sub hZ.1) (by decide)
      try dsimp only at hw28
      refine lv_iconst (v := 1) hx hb dX11_keep_41 (by decide) ?_
      exact W.zret (v := 1) hx hb hr (by decide) (fun t ht hW => ⟨⟨1, (G2, nC, nS), rfl, (by exact (rg_t (a := 1) (by decide) (by first | decide | omega) (by first | decide | omega))), by (try dsimp only); rw [ht]; exact ⟨hT, hF, hZ, (by omega), (by omega)⟩⟩, hS.F ht⟩) hS.2.2 dX11_keep_42
    · refine W.eq (g2 := F0 m 16 ls [.ref b9]) rfl ?_
      have hg10 := hn9 b9 rfl
      refine lv_ifnonnull (tgt := 30) hx hb dX11_keep_16 (by decide) ?_
      refine lv_aload_n hx hb dX11_keep_30 rfl (lv_at hl 0 rfl) ?_
      refine tw_getM (v := .ref b9) hx hb hts bF2_X11 hown hK hT hr_o0 shc_14 rfl 6 (by decide) (ht_at2 hts 1 rfl) (fun _ h9 => h9) m8 dX11_keep_31 ?_
      refine lv_aload_n hx hb dX11_keep_34 rfl (lv_at hl 0 rfl) ?_
      refine tw_getM (v := .ref b2) hx hb hts bF2_X11 hown hK hT hr_o0 shc_14 rfl 1 (by decide) (ht_at2 hts 0 rfl) (fun _ h9 => h9) m1 dX11_keep_35 ?_
      have hFc := gA_free hG hA hS
      refine va_callv (va_runV (As := [.ref b2]) (rest := []) ⟨hx, hb, hml, hown, hts⟩ (c_copyL_i l dC dI kA adK adV G s.heap nC nS b9 b2 hT hg10 hg3 (by omega) (by omega)) (cwV 1 hts (goodIn_app (goodIn_r _ [104, 105, 106, 5] rfl (by decide +kernel)) (goodIn_ca (goodIn_r _ [62, 31, 63, 16, 64, 65, 66, 67, 17, 18, 19, 28, 68, 25, 69, 26, 70, 71, 72, 73, 22, 29, 74, 75, 76, 77, 12, 50, 78, 38, 79, 39, 40, 41, 42, 43, 44, 45, 80, 81, 82, 83, 84, 85, 86, 34, 87, 88, 52, 89, 57, 90, 58, 91, 92, 93, 94, 95, 96, 97, 98, 99, 100, 101, 102, 103, 54] rfl (by decide +kernel)) (bs2_in _ _))) rfl rfl rfl (by decide +kernel) ⟨(Nat.le_of_ble_eq_true rfl), (Nat.le_of_ble_eq_true rfl)⟩) ⟨fun a U g mk q => by obtain ⟨q0, q1, qK, qE⟩ := q; exact ⟨q0, q1, va_K.moved (u := U) (U := U.calling g mk a) (Vm.Alike.refl U.vm) qK, EVC.blind g mk a qE⟩, gH_rc hK hT hg10 shc_90 rfl, fun U hU hW => ⟨rfl, hU, va_K.moved hW.alike hK, hE.call hS hFc hU hW⟩⟩ rfl rfl hl.1 rfl (lv_room (Nat.le_of_ble_eq_true rfl)) dX11_keep_38 ⟨(Nat.le_of_ble_eq_true rfl), (Nat.le_of_ble_eq_true rfl)⟩) hS (fun q _ h => hFc q h) hFc (fun u t H locs ht hvm hw33 hB _ _ hS => ?_)
      obtain ⟨hT, hF1⟩ := hB
      rw [ht] at hT hF1
      have hF := hF.more (hF1.sub hZ.1) (by decide)
      try dsimp only at hw33
      refine lv_iconst (v := 1) hx hb dX11_keep_41 (by decide) ?_
      refine W.widen (k := 115) (n := 2151) (by decide) (by decide) ?_
      exact W.zret (v := 1) hx hb hr (by decide) (fun t ht hW => ⟨⟨1, (G, nC, nS), rfl, (by exact (rg_t (a := 1) (by decide) (by first | decide | omega) (by first | decide | omega))), by (try dsimp only); rw [ht]; exact ⟨hT, hF, hZ, (by omega), (by omega)⟩⟩, hS.F ht⟩) hS.2.2 dX11_keep_42
  · have t37 : x5.toInt = 0 := ti_eq c6 rfl (by decide)
    refine lv_iconst (v := 0) hx hb dX11_keep_10 (by decide) ?_
    refine W.widen (k := 115) (n := 2151) (by decide) (by decide) ?_
    exact W.zret (v := 0) hx hb hr (by decide) (fun t ht hW => ⟨⟨0, (G, nC, nS), rfl, (by exact (rg_t (a := 0) (by decide) (by first | decide | omega) (by first | decide | omega))), by (try dsimp only); rw [ht]; exact ⟨hT, hF, hZ, (by omega), (by omega)⟩⟩, hS.F ht⟩) hS.2.2 dX11_keep_11
