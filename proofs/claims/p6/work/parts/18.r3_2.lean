def w_s_land : List Cond := .code yX12_land cX12_land 8 (some .int) :: ([.fieldLink RX12 194 "SeaLandModel" "thrown" "I", .code yX12_noSquare cX12_noSquare 1 (some .boolean), .code yX12_in cX12_in 3 (some .boolean), .methodLink RX12 197 yX12_in, .static yX12_in, .initialized RX12, .methodLink RX12 220 yX12_noSquare, .static yX12_noSquare, .code yX12_throwsIf cX12_throwsIf 3 (some .boolean), .methodLink RX12 224 yX12_throwsIf, .instanceMethod yX12_throwsIf, .selects RX12 yX12_throwsIf yX12_throwsIf, .code yX12_hour cX12_hour 1 (some .int), .fieldLink RX12 9 "SeaLandModel" "world" "[I", .methodLink RX12 228 yX12_hour, .instanceMethod yX12_hour, .selects RX12 yX12_hour yX12_hour, .fieldLink RX12 238 "SeaLandModel" "rows" "I", .code yX12_isIn cX12_isIn 5 (some .boolean), .methodLink RX12 207 Lib.Math.min.name, .static Lib.Math.min.name, .initialized "java/lang/Math", .code Lib.Math.min.name Lib.Math.min.code 2 (some .int), .methodLink RX12 211 Lib.Math.max.name, .static Lib.Math.max.name, .code Lib.Math.max.name Lib.Math.max.code 2 (some .int), .methodLink RX12 232 yX12_isIn, .static yX12_isIn, .code yX12_isLand cX12_isLand 2 (some .boolean), .methodLink RX12 235 yX12_isLand, .instanceMethod yX12_isLand, .selects RX12 yX12_isLand yX12_isLand] ++ bs)
set_option maxHeartbeats 4000000 in
set_option maxRecDepth 100000 in
theorem s_land (l : Launch) (dC : Nat → ClassId) (dI : Nat → Nat → Nat) (kA : Nat → ClassId) (G : gT) (H0 : Heap) (q : Nat → Nat) (wN wH wB wC : Int) (wL wK : Nat → Prop) (PI : Nat → Int → Prop) (o0 : Nat) (p0 : Int32) (p1 : Int32) (p2 : Int32) (p3 : Int32) (p4 : Int32) (hT : gH (dC, dI) kA (SHm q (wP wN wH wB wC wC wL wK) PI) G H0) (hr_o0 : G o0 = some 0) (hgn : 6500000 ≤ wN ∧ wN ≤ 400000000) (hgh : 0 ≤ wH ∧ wH ≤ 40000) (hgb : 0 ≤ wB ∧ wB ≤ 3850000) (hgc : 0 ≤ wC ∧ wC ≤ 30) : Met l yX12_land w_s_land ({ frames := 2, cells := 0, slots := 0, locals := 64 }) (va_Pc [.ref o0, .int p0, .int p1, .int p2, .int p3, .int p4] (fun U => U.heap = H0 ∧ va_K (dC, dI) vwCl (tyl kA) U ∧ EV (gA G H0.size) U U.heap)) (va_Qi (fun (r : Int32) (u : Unit) => True) (fun (_ : Unit) (t : State) => gH (dC, dI) kA (SHm q (wP wN wH wB wC wC wL wK) PI) G t.heap ∧ gF (dC, dI) SKm G ([(0, 0), (0, 9), (2, 0)] : List (Nat × Nat)) H0 t.heap) (gA G H0.size)) 0 0 (gA G H0.size) := by
  refine Met.ofW (cc := cX12_land) (maxL := 8) (ret := (some .int)) (by decide) rfl ?_
  intro p e s m args below meth c s₁ B hml hv
  obtain ⟨rfl, hH0, hK, hE⟩ := hv
  have hx := B.exec
  have hb := B.bytes
  have hr := B.returns
  have hts := atoms_spec (ws := w_s_land) B.pre
  have hown : s.vm.findClass RX12 = some m.cls := findClass_of_methodNamed B.named
  have hlocks := B.notSynchronized
  subst hH0
  generalize hAe : gA G s.heap.size = A at hE ⊢
  have hA : ∀ q : Nat, s.heap.size ≤ q → A q := fun q h => by rw [← hAe]; exact Or.inr h
  have hG := gA_of hAe
  have hS : va_S A s.heap s.heap [] := va_S.rf
  have hF : gF (dC, dI) SKm G ([(0, 0), (0, 9), (2, 0)] : List (Nat × Nat)) s.heap s.heap := gF.rf
  have hl := lv_entry ([.ref o0, .int p0, .int p1, .int p2, .int p3, .int p4]) (n := 8) (Nat.le_of_ble_eq_true rfl)
  rw [lg_entry_eq]
  generalize (lg_sl ([.ref o0, .int p0, .int p1, .int p2, .int p3, .int p4]) ++ List.replicate (8 - (lg_sl ([.ref o0, .int p0, .int p1, .int p2, .int p3, .int p4])).length) Slot.unset).toArray = ls at hl ⊢
  have hl : lv_has ls 8 [(0, .ref o0), (1, .int p0), (2, .int p1), (3, .int p2), (4, .int p3), (5, .int p4)] := hl
  refine lv_aload_n hx hb dX12_land_0 rfl (lv_at hl 0 rfl) ?_
  refine lv_iconst (v := 0) hx hb dX12_land_1 (by decide) ?_
  refine tw_put (v := .int 0) (ty := .int) hx hb hts bF_X12 tyX12 tyX12_ok nmX12 hown hK hT hG hS hr_o0 shm_0 rfl 0 (by decide) (ht_at hts 0 rfl) (fun _ h9 => h9) rfl (by decide +kernel) rfl rfl (gl_at rfl (gi_all _)) dX12_land_2 (fun H locs hT oq m1 oj hS => ?_)
  have hF := hF.put hr_o0 skm_0 oq oj (by decide)
  refine lv_aload_n hx hb dX12_land_5 rfl (lv_at hl 0 rfl) ?_
  refine lv_iload_n hx hb dX12_land_6 rfl (lv_at hl 1 rfl) ?_
  have hFc := gA_free hG hA hS
  refine va_calli (va_runS (As := [.int p0]) (rest := [.ref o0]) ⟨hx, hb, hml, hown, hts⟩ (s_noSquare l dC dI kA G H q wN wH wB wC wL wK PI p0 hT (by omega) (by omega) (by omega) (by omega)) (va_cwS 1 hts (goodIn_app (goodIn_r _ [7, 8, 6] (by decide +kernel) (by decide +kernel)) (goodIn_ca (goodIn_r _ [2, 3, 4, 5, 6] (by decide +kernel) (by decide +kernel)) (bs_in _ _))) rfl rfl rfl (by decide +kernel) ⟨(Nat.le_of_ble_eq_true rfl), (Nat.le_of_ble_eq_true rfl)⟩) ⟨fun a U g mk q => by obtain ⟨q0, q1, qK, qE⟩ := q; exact ⟨q0, q1, va_K.moved (u := U) (U := U.calling g mk a) (Vm.Alike.refl U.vm) qK, EV.blind g mk a qE⟩, fun U hU hW => ⟨rfl, hU, va_K.moved hW.alike hK, hE.call hS hFc hU hW⟩⟩ rfl rfl hl.1 rfl (lv_room (Nat.le_of_ble_eq_true rfl)) dX12_land_7 ⟨(Nat.le_of_ble_eq_true rfl), (Nat.le_of_ble_eq_true rfl)⟩) hS (fun q _ h => hFc q h) hFc (fun r2 u t H locs ht hvm hw3 hB _ _ hS => ?_)
  obtain ⟨hT, hF1⟩ := hB
  rw [ht] at hT hF1
  have m4 := (hF1.fld hr_o0 skm_0 (k := 0) (by decide) (by decide)).trans m1
  have hF := hF.more hF1 (by decide)
  try dsimp only at hw3
  obtain ⟨h5, hi6⟩ := hw3
  refine lv_if_ne (tgt := 20) hx hb dX12_land_10 (by decide) (fun c7 => ?_) (fun c7 => ?_)
  · have t8 : r2.toInt ≠ 0 := ti_ne c7 rfl (by decide)
    refine lv_iconst (v := 1) hx hb dX12_land_20 (by decide) ?_
    refine lv_goto (tgt := 25) hx hb dX12_land_21 (by decide) ?_
    refine lv_iconst (v := 1) hx hb dX12_land_25 (by decide) ?_
    have hFc := gA_free hG hA hS
    refine va_calli (va_runV (As := [.int 1, .int 1]) (rest := []) ⟨hx, hb, hml, hown, hts⟩ (s_throwsIf l dC dI kA G H q wN wH wB wC wL wK PI o0 1 1 hT hr_o0 (rg_t (a := 1) (by decide) (by omega) (by omega)) (by omega) (by omega) (by omega) (by omega)) (cwV 2 hts (goodIn_app (goodIn_r _ [10, 11, 12, 6] (by decide +kernel) (by decide +kernel)) (goodIn_ca (goodIn_r _ [9, 1] (by decide +kernel) (by decide +kernel)) (bs_in _ _))) rfl rfl rfl (by decide +kernel) ⟨(Nat.le_of_ble_eq_true rfl), (Nat.le_of_ble_eq_true rfl)⟩) ⟨fun a U g mk q => by obtain ⟨q0, q1, qK, qE⟩ := q; exact ⟨q0, q1, va_K.moved (u := U) (U := U.calling g mk a) (Vm.Alike.refl U.vm) qK, EV.blind g mk a qE⟩, gH_recv hK hT hr_o0 shm_0 rfl, fun U hU hW => ⟨rfl, hU, va_K.moved hW.alike hK, hE.call hS hFc hU hW⟩⟩ rfl rfl hl.1 rfl (lv_room (Nat.le_of_ble_eq_true rfl)) dX12_land_26 ⟨(Nat.le_of_ble_eq_true rfl), (Nat.le_of_ble_eq_true rfl)⟩) hS (fun q _ h => hFc q h) hFc (fun r9 u t H locs ht hvm hw10 hB _ _ hS => ?_)
    obtain ⟨hT, hF1⟩ := hB
    rw [ht] at hT hF1
    have hF := hF.more hF1 (by decide)
    try dsimp only at hw10
    obtain ⟨h12, hd13⟩ := hw10
    obtain rfl : (1 : Int32) = r9 := hd13.symm
    refine lv_if_ne (tgt := 99) hx hb dX12_land_29 (by decide) (fun c14 => ?_) (fun c14 => absurd c14 (by decide))
    refine lv_iconst (v := 0) hx hb dX12_land_99 (by decide) ?_
    exact W.iret (v := 0) hx hb hr (fun t ht hW => ⟨⟨0, (), rfl, (by exact trivial), by (try dsimp only); rw [ht]; exact ⟨hT, hF⟩⟩, hS.F ht⟩) hS.2.2 dX12_land_100
  · have t15 : r2.toInt = 0 := ti_eq c7 rfl (by decide)
    have t16 : 0 ≤ p0.toInt ∧ p0.toInt ≤ 95 := hi6 c7
    refine lv_iload_n hx hb dX12_land_13 rfl (lv_at hl 2 rfl) ?_
    have hFc := gA_free hG hA hS
    refine va_calli (va_runS (As := [.int p1]) (rest := [.ref o0]) ⟨hx, hb, hml, hown, hts⟩ (s_noSquare l dC dI kA G H q wN wH wB wC wL wK PI p1 hT (by omega) (by omega) (by omega) (by omega)) (va_cwS 1 hts (goodIn_app (goodIn_r _ [7, 8, 6] (by decide +kernel) (by decide +kernel)) (goodIn_ca (goodIn_r _ [2, 3, 4, 5, 6] (by decide +kernel) (by decide +kernel)) (bs_in _ _))) rfl rfl rfl (by decide +kernel) ⟨(Nat.le_of_ble_eq_true rfl), (Nat.le_of_ble_eq_true rfl)⟩) ⟨fun a U g mk q => by obtain ⟨q0, q1, qK, qE⟩ := q; exact ⟨q0, q1, va_K.moved (u := U) (U := U.calling g mk a) (Vm.Alike.refl U.vm) qK, EV.blind g mk a qE⟩, fun U hU hW => ⟨rfl, hU, va_K.moved hW.alike hK, hE.call hS hFc hU hW⟩⟩ rfl rfl hl.1 rfl (lv_room (Nat.le_of_ble_eq_true rfl)) dX12_land_14 ⟨(Nat.le_of_ble_eq_true rfl), (Nat.le_of_ble_eq_true rfl)⟩) hS (fun q _ h => hFc q h) hFc (fun r17 u t H locs ht hvm hw18 hB _ _ hS => ?_)
    obtain ⟨hT, hF1⟩ := hB
    rw [ht] at hT hF1
    have m19 := (hF1.fld hr_o0 skm_0 (k := 0) (by decide) (by decide)).trans m4
    have hF := hF.more hF1 (by decide)
    try dsimp only at hw18
    obtain ⟨h20, hi21⟩ := hw18
    refine lv_if_eq (tgt := 24) hx hb dX12_land_17 (by decide) (fun c22 => ?_) (fun c22 => ?_)
    · have t23 : r17.toInt = 0 := ti_eq c22 rfl (by decide)
      have t24 : 0 ≤ p1.toInt ∧ p1.toInt ≤ 95 := hi21 c22
      refine lv_iconst (v := 0) hx hb dX12_land_24 (by decide) ?_
      refine lv_iconst (v := 1) hx hb dX12_land_25 (by decide) ?_
      have hFc := gA_free hG hA hS
      refine va_calli (va_runV (As := [.int 0, .int 1]) (rest := []) ⟨hx, hb, hml, hown, hts⟩ (s_throwsIf l dC dI kA G H q wN wH wB wC wL wK PI o0 0 1 hT hr_o0 (rg_t (a := 0) (by decide) (by omega) (by omega)) (by omega) (by omega) (by omega) (by omega)) (cwV 2 hts (goodIn_app (goodIn_r _ [10, 11, 12, 6] (by decide +kernel) (by decide +kernel)) (goodIn_ca (goodIn_r _ [9, 1] (by decide +kernel) (by decide +kernel)) (bs_in _ _))) rfl rfl rfl (by decide +kernel) ⟨(Nat.le_of_ble_eq_true rfl), (Nat.le_of_ble_eq_true rfl)⟩) ⟨fun a U g mk q => by obtain ⟨q0, q1, qK, qE⟩ := q; exact ⟨q0, q1, va_K.moved (u := U) (U := U.calling g mk a) (Vm.Alike.refl U.vm) qK, EV.blind g mk a qE⟩, gH_recv hK hT hr_o0 shm_0 rfl, fun U hU hW => ⟨rfl, hU, va_K.moved hW.alike hK, hE.call hS hFc hU hW⟩⟩ rfl rfl hl.1 rfl (lv_room (Nat.le_of_ble_eq_true rfl)) dX12_land_26 ⟨(Nat.le_of_ble_eq_true rfl), (Nat.le_of_ble_eq_true rfl)⟩) hS (fun q _ h => hFc q h) hFc (fun r25 u t H locs ht hvm hw26 hB _ _ hS => ?_)
      obtain ⟨hT, hF1⟩ := hB
      rw [ht] at hT hF1
      have hF := hF.more hF1 (by decide)
      try dsimp only at hw26
      obtain ⟨h28, hd29⟩ := hw26
      obtain rfl : (0 : Int32) = r25 := hd29.symm
      refine lv_if_ne (tgt := 99) hx hb dX12_land_29 (by decide) (fun c30 => absurd c30 (by decide)) (fun c30 => ?_)
      refine lv_aload_n hx hb dX12_land_32 rfl (lv_at hl 0 rfl) ?_
      refine lv_iload_n hx hb dX12_land_33 rfl (lv_at hl 3 rfl) ?_
      refine lv_sipush (v := (-900)) hx hb dX12_land_34 (by decide) ?_
      refine lv_sipush (v := 300) hx hb dX12_land_37 (by decide) ?_
      have hFc := gA_free hG hA hS
      refine va_calli (va_runS (As := [.int p2, .int (-900), .int 300]) (rest := [.ref o0]) ⟨hx, hb, hml, hown, hts⟩ (s_in l dC dI kA G H q wN wH wB wC wL wK PI p2 (-900) 300 hT (by omega) (by omega) (by omega) (by omega)) (va_cwS 3 hts (goodIn_app (goodIn_r _ [4, 5, 6] (by decide +kernel) (by decide +kernel)) (goodIn_ca (goodIn_r _ [3] (by decide +kernel) (by decide +kernel)) (bs_in _ _))) rfl rfl rfl (by decide +kernel) ⟨(Nat.le_of_ble_eq_true rfl), (Nat.le_of_ble_eq_true rfl)⟩) ⟨fun a U g mk q => by obtain ⟨q0, q1, qK, qE⟩ := q; exact ⟨q0, q1, va_K.moved (u := U) (U := U.calling g mk a) (Vm.Alike.refl U.vm) qK, EV.blind g mk a qE⟩, fun U hU hW => ⟨rfl, hU, va_K.moved hW.alike hK, hE.call hS hFc hU hW⟩⟩ rfl rfl hl.1 rfl (lv_room (Nat.le_of_ble_eq_true rfl)) dX12_land_40 ⟨(Nat.le_of_ble_eq_true rfl), (Nat.le_of_ble_eq_true rfl)⟩) hS (fun q _ h => hFc q h) hFc (fun r31 u t H locs ht hvm hw32 hB _ _ hS => ?_)
      obtain ⟨hT, hF1⟩ := hB
      rw [ht] at hT hF1
      have hF := hF.more hF1 (by decide)
      try dsimp only at hw32
      obtain ⟨h33, hi34, hi35⟩ := hw32
      refine lv_if_eq (tgt := 67) hx hb dX12_land_43 (by decide) (fun c36 => ?_) (fun c36 => ?_)
      · have t37 : r31.toInt = 0 := ti_eq c36 rfl (by decide)
        have t38 : (-900 : Int32).toInt = (-900) := by decide
        have t39 : (300 : Int32).toInt = 300 := by decide
        have t40 : p2.toInt < (-900 : Int32).toInt ∨ (300 : Int32).toInt < p2.toInt := hi35 c36
        refine lv_iconst (v := 1) hx hb dX12_land_67 (by decide) ?_
        refine lv_goto (tgt := 72) hx hb dX12_land_68 (by decide) ?_
        refine lv_iconst (v := 2) hx hb dX12_land_72 (by decide) ?_
        have hFc := gA_free hG hA hS
        refine va_calli (va_runV (As := [.int 1, .int 2]) (rest := []) ⟨hx, hb, hml, hown, hts⟩ (s_throwsIf l dC dI kA G H q wN wH wB wC wL wK PI o0 1 2 hT hr_o0 (rg_t (a := 1) (by decide) (by omega) (by omega)) (by omega) (by omega) (by omega) (by omega)) (cwV 2 hts (goodIn_app (goodIn_r _ [10, 11, 12, 6] (by decide +kernel) (by decide +kernel)) (goodIn_ca (goodIn_r _ [9, 1] (by decide +kernel) (by decide +kernel)) (bs_in _ _))) rfl rfl rfl (by decide +kernel) ⟨(Nat.le_of_ble_eq_true rfl), (Nat.le_of_ble_eq_true rfl)⟩) ⟨fun a U g mk q => by obtain ⟨q0, q1, qK, qE⟩ := q; exact ⟨q0, q1, va_K.moved (u := U) (U := U.calling g mk a) (Vm.Alike.refl U.vm) qK, EV.blind g mk a qE⟩, gH_recv hK hT hr_o0 shm_0 rfl, fun U hU hW => ⟨rfl, hU, va_K.moved hW.alike hK, hE.call hS hFc hU hW⟩⟩ rfl rfl hl.1 rfl (lv_room (Nat.le_of_ble_eq_true rfl)) dX12_land_73 ⟨(Nat.le_of_ble_eq_true rfl), (Nat.le_of_ble_eq_true rfl)⟩) hS (fun q _ h => hFc q h) hFc (fun r41 u t H locs ht hvm hw42 hB _ _ hS => ?_)
        obtain ⟨hT, hF1⟩ := hB
        rw [ht] at hT hF1
        have hF := hF.more hF1 (by decide)
        try dsimp only at hw42
        obtain ⟨h43, hd44⟩ := hw42
        obtain rfl : (1 : Int32) = r41 := hd44.symm
        refine lv_if_ne (tgt := 99) hx hb dX12_land_76 (by decide) (fun c45 => ?_) (fun c45 => absurd c45 (by decide))
        refine lv_iconst (v := 0) hx hb dX12_land_99 (by decide) ?_
        exact W.iret (v := 0) hx hb hr (fun t ht hW => ⟨⟨0, (), rfl, (by exact trivial), by (try dsimp only); rw [ht]; exact ⟨hT, hF⟩⟩, hS.F ht⟩) hS.2.2 dX12_land_100
      · have t46 : r31.toInt ≠ 0 := ti_ne c36 rfl (by decide)
        have t47 : (-900 : Int32).toInt = (-900) := by decide
        have t48 : (300 : Int32).toInt = 300 := by decide
        have t49 : (-900 : Int32).toInt ≤ p2.toInt ∧ p2.toInt ≤ (300 : Int32).toInt := hi34 ((bit_of ⟨by omega, by omega⟩).resolve_left c36)
        refine lv_iload hx hb dX12_land_46 (lv_at hl 4 rfl) ?_
        refine lv_iconst (v := 0) hx hb dX12_land_48 (by decide) ?_
        refine lv_iconst (v := 2) hx hb dX12_land_49 (by decide) ?_
        have hFc := gA_free hG hA hS
        refine va_calli (va_runS (As := [.int p3, .int 0, .int 2]) (rest := [.ref o0]) ⟨hx, hb, hml, hown, hts⟩ (s_in l dC dI kA G H q wN wH wB wC wL wK PI p3 0 2 hT (by omega) (by omega) (by omega) (by omega)) (va_cwS 3 hts (goodIn_app (goodIn_r _ [4, 5, 6] (by decide +kernel) (by decide +kernel)) (goodIn_ca (goodIn_r _ [3] (by decide +kernel) (by decide +kernel)) (bs_in _ _))) rfl rfl rfl (by decide +kernel) ⟨(Nat.le_of_ble_eq_true rfl), (Nat.le_of_ble_eq_true rfl)⟩) ⟨fun a U g mk q => by obtain ⟨q0, q1, qK, qE⟩ := q; exact ⟨q0, q1, va_K.moved (u := U) (U := U.calling g mk a) (Vm.Alike.refl U.vm) qK, EV.blind g mk a qE⟩, fun U hU hW => ⟨rfl, hU, va_K.moved hW.alike hK, hE.call hS hFc hU hW⟩⟩ rfl rfl hl.1 rfl (lv_room (Nat.le_of_ble_eq_true rfl)) dX12_land_50 ⟨(Nat.le_of_ble_eq_true rfl), (Nat.le_of_ble_eq_true rfl)⟩) hS (fun q _ h => hFc q h) hFc (fun r50 u t H locs ht hvm hw51 hB _ _ hS => ?_)
        obtain ⟨hT, hF1⟩ := hB
        rw [ht] at hT hF1
        have hF := hF.more hF1 (by decide)
        try dsimp only at hw51
        obtain ⟨h52, hi53, hi54⟩ := hw51
        refine lv_if_eq (tgt := 67) hx hb dX12_land_53 (by decide) (fun c55 => ?_) (fun c55 => ?_)
        · have t56 : r50.toInt = 0 := ti_eq c55 rfl (by decide)
          have t57 : (0 : Int32).toInt = 0 := by decide
          have t58 : (2 : Int32).toInt = 2 := by decide
          have t59 : p3.toInt < (0 : Int32).toInt ∨ (2 : Int32).toInt < p3.toInt := hi54 c55
          refine lv_iconst (v := 1) hx hb dX12_land_67 (by decide) ?_
          refine lv_goto (tgt := 72) hx hb dX12_land_68 (by decide) ?_
          refine lv_iconst (v := 2) hx hb dX12_land_72 (by decide) ?_
          have hFc := gA_free hG hA hS
          refine va_calli (va_runV (As := [.int 1, .int 2]) (rest := []) ⟨hx, hb, hml, hown, hts⟩ (s_throwsIf l dC dI kA G H q wN wH wB wC wL wK PI o0 1 2 hT hr_o0 (rg_t (a := 1) (by decide) (by omega) (by omega)) (by omega) (by omega) (by omega) (by omega)) (cwV 2 hts (goodIn_app (goodIn_r _ [10, 11, 12, 6] (by decide +kernel) (by decide +kernel)) (goodIn_ca (goodIn_r _ [9, 1] (by decide +kernel) (by decide +kernel)) (bs_in _ _))) rfl rfl rfl (by decide +kernel) ⟨(Nat.le_of_ble_eq_true rfl), (Nat.le_of_ble_eq_true rfl)⟩) ⟨fun a U g mk q => by obtain ⟨q0, q1, qK, qE⟩ := q; exact ⟨q0, q1, va_K.moved (u := U) (U := U.calling g mk a) (Vm.Alike.refl U.vm) qK, EV.blind g mk a qE⟩, gH_recv hK hT hr_o0 shm_0 rfl, fun U hU hW => ⟨rfl, hU, va_K.moved hW.alike hK, hE.call hS hFc hU hW⟩⟩ rfl rfl hl.1 rfl (lv_room (Nat.le_of_ble_eq_true rfl)) dX12_land_73 ⟨(Nat.le_of_ble_eq_true rfl), (Nat.le_of_ble_eq_true rfl)⟩) hS (fun q _ h => hFc q h) hFc (fun r60 u t H locs ht hvm hw61 hB _ _ hS => ?_)
          obtain ⟨hT, hF1⟩ := hB
          rw [ht] at hT hF1
          have hF := hF.more hF1 (by decide)
          try dsimp only at hw61
          obtain ⟨h62, hd63⟩ := hw61
          obtain rfl : (1 : Int32) = r60 := hd63.symm
          refine lv_if_ne (tgt := 99) hx hb dX12_land_76 (by decide) (fun c64 => ?_) (fun c64 => absurd c64 (by decide))
          refine lv_iconst (v := 0) hx hb dX12_land_99 (by decide) ?_
          exact W.iret (v := 0) hx hb hr (fun t ht hW => ⟨⟨0, (), rfl, (by exact trivial), by (try dsimp only); rw [ht]; exact ⟨hT, hF⟩⟩, hS.F ht⟩) hS.2.2 dX12_land_100
        · have t65 : r50.toInt ≠ 0 := ti_ne c55 rfl (by decide)
          have t66 : (0 : Int32).toInt = 0 := by decide
          have t67 : (2 : Int32).toInt = 2 := by decide
          have t68 : (0 : Int32).toInt ≤ p3.toInt ∧ p3.toInt ≤ (2 : Int32).toInt := hi53 ((bit_of ⟨by omega, by omega⟩).resolve_left c55)
          refine lv_iload hx hb dX12_land_56 (lv_at hl 5 rfl) ?_
          refine lv_iconst (v := 0) hx hb dX12_land_58 (by decide) ?_
          refine lv_bipush (v := 20) hx hb dX12_land_59 (by decide) ?_
          have hFc := gA_free hG hA hS
          refine va_calli (va_runS (As := [.int p4, .int 0, .int 20]) (rest := [.ref o0]) ⟨hx, hb, hml, hown, hts⟩ (s_in l dC dI kA G H q wN wH wB wC wL wK PI p4 0 20 hT (by omega) (by omega) (by omega) (by omega)) (va_cwS 3 hts (goodIn_app (goodIn_r _ [4, 5, 6] (by decide +kernel) (by decide +kernel)) (goodIn_ca (goodIn_r _ [3] (by decide +kernel) (by decide +kernel)) (bs_in _ _))) rfl rfl rfl (by decide +kernel) ⟨(Nat.le_of_ble_eq_true rfl), (Nat.le_of_ble_eq_true rfl)⟩) ⟨fun a U g mk q => by obtain ⟨q0, q1, qK, qE⟩ := q; exact ⟨q0, q1, va_K.moved (u := U) (U := U.calling g mk a) (Vm.Alike.refl U.vm) qK, EV.blind g mk a qE⟩, fun U hU hW => ⟨rfl, hU, va_K.moved hW.alike hK, hE.call hS hFc hU hW⟩⟩ rfl rfl hl.1 rfl (lv_room (Nat.le_of_ble_eq_true rfl)) dX12_land_61 ⟨(Nat.le_of_ble_eq_true rfl), (Nat.le_of_ble_eq_true rfl)⟩) hS (fun q _ h => hFc q h) hFc (fun r69 u t H locs ht hvm hw70 hB _ _ hS => ?_)
          obtain ⟨hT, hF1⟩ := hB
          rw [ht] at hT hF1
          have hF := hF.more hF1 (by decide)
          try dsimp only at hw70
          obtain ⟨h71, hi72, hi73⟩ := hw70
          refine lv_if_ne (tgt := 71) hx hb dX12_land_64 (by decide) (fun c74 => ?_) (fun c74 => ?_)
          · have t75 : r69.toInt ≠ 0 := ti_ne c74 rfl (by decide)
            have t76 : (0 : Int32).toInt = 0 := by decide
            have t77 : (20 : Int32).toInt = 20 := by decide
            have t78 : (0 : Int32).toInt ≤ p4.toInt ∧ p4.toInt ≤ (20 : Int32).toInt := hi72 ((bit_of ⟨by omega, by omega⟩).resolve_left c74)
            refine lv_iconst (v := 0) hx hb dX12_land_71 (by decide) ?_
            refine lv_iconst (v := 2) hx hb dX12_land_72 (by decide) ?_
            have hFc := gA_free hG hA hS
            refine va_calli (va_runV (As := [.int 0, .int 2]) (rest := []) ⟨hx, hb, hml, hown, hts⟩ (s_throwsIf l dC dI kA G H q wN wH wB wC wL wK PI o0 0 2 hT hr_o0 (rg_t (a := 0) (by decide) (by omega) (by omega)) (by omega) (by omega) (by omega) (by omega)) (cwV 2 hts (goodIn_app (goodIn_r _ [10, 11, 12, 6] (by decide +kernel) (by decide +kernel)) (goodIn_ca (goodIn_r _ [9, 1] (by decide +kernel) (by decide +kernel)) (bs_in _ _))) rfl rfl rfl (by decide +kernel) ⟨(Nat.le_of_ble_eq_true rfl), (Nat.le_of_ble_eq_true rfl)⟩) ⟨fun a U g mk q => by obtain ⟨q0, q1, qK, qE⟩ := q; exact ⟨q0, q1, va_K.moved (u := U) (U := U.calling g mk a) (Vm.Alike.refl U.vm) qK, EV.blind g mk a qE⟩, gH_recv hK hT hr_o0 shm_0 rfl, fun U hU hW => ⟨rfl, hU, va_K.moved hW.alike hK, hE.call hS hFc hU hW⟩⟩ rfl rfl hl.1 rfl (lv_room (Nat.le_of_ble_eq_true rfl)) dX12_land_73 ⟨(Nat.le_of_ble_eq_true rfl), (Nat.le_of_ble_eq_true rfl)⟩) hS (fun q _ h => hFc q h) hFc (fun r79 u t H locs ht hvm hw80 hB _ _ hS => ?_)
            obtain ⟨hT, hF1⟩ := hB
            rw [ht] at hT hF1
            have hF := hF.more hF1 (by decide)
            try dsimp only at hw80
            obtain ⟨h81, hd82⟩ := hw80
            obtain rfl : (0 : Int32) = r79 := hd82.symm
            refine lv_if_ne (tgt := 99) hx hb dX12_land_76 (by decide) (fun c83 => absurd c83 (by decide)) (fun c83 => ?_)
            refine lv_aload_n hx hb dX12_land_79 rfl (lv_at hl 0 rfl) ?_
            refine lv_aload_n hx hb dX12_land_80 rfl (lv_at hl 0 rfl) ?_
            have hFc := gA_free hG hA hS
            refine va_calli (va_runV (As := []) (rest := [.ref o0]) ⟨hx, hb, hml, hown, hts⟩ (s_hour l dC dI kA G H q wN wH wB wC wL wK PI o0 hT hr_o0 (by omega) (by omega) (by omega) (by omega)) (cwV 0 hts (goodIn_app (goodIn_r _ [15, 16, 17, 6] (by decide +kernel) (by decide +kernel)) (goodIn_ca (goodIn_r _ [13, 14] (by decide +kernel) (by decide +kernel)) (bs_in _ _))) rfl rfl rfl (by decide +kernel) ⟨(Nat.le_of_ble_eq_true rfl), (Nat.le_of_ble_eq_true rfl)⟩) ⟨fun a U g mk q => by obtain ⟨q0, q1, qK, qE⟩ := q; exact ⟨q0, q1, va_K.moved (u := U) (U := U.calling g mk a) (Vm.Alike.refl U.vm) qK, EV.blind g mk a qE⟩, gH_recv hK hT hr_o0 shm_0 rfl, fun U hU hW => ⟨rfl, hU, va_K.moved hW.alike hK, hE.call hS hFc hU hW⟩⟩ rfl rfl hl.1 rfl (lv_room (Nat.le_of_ble_eq_true rfl)) dX12_land_81 ⟨(Nat.le_of_ble_eq_true rfl), (Nat.le_of_ble_eq_true rfl)⟩) hS (fun q _ h => hFc q h) hFc (fun r84 u t H locs ht hvm hw85 hB _ _ hS => ?_)
            obtain ⟨hT, hF1⟩ := hB
            rw [ht] at hT hF1
            have hF := hF.more hF1 (by decide)
            try dsimp only at hw85
            have h86 := hw85
            have jn89 : ∀ (z87 : Int32), ((0 ≤ z87.toInt ∧ z87.toInt ≤ 1)) → ∀ (H : Heap) (locs : List Loc), gH (dC, dI) kA (SHm q (wP wN wH wB wC wC wL wK) PI) G H → gF (dC, dI) SKm G ([(0, 0), (0, 9), (2, 0)] : List (Nat × Nat)) s.heap H → va_S A s.heap H locs → ∀ ls : Array Slot, lv_has ls 8 [(0, .ref o0), (1, .int p0), (2, .int p1), (3, .int p2), (4, .int p3), (5, .int p4)] → W p l e (headSpec w_s_land ({ frames := 2, cells := 0, slots := 0, locals := 64 })).room s m #[.ref o0, .int p0, .int p1, .int p2, .int p3, .int p4] below meth c H locs 0 0 (MQ below (va_Qi (fun (r : Int32) (u : Unit) => True) (fun (_ : Unit) (t : State) => gH (dC, dI) kA (SHm q (wP wN wH wB wC wC wL wK) PI) G t.heap ∧ gF (dC, dI) SKm G ([(0, 0), (0, 9), (2, 0)] : List (Nat × Nat)) s.heap t.heap) A) #[.ref o0, .int p0, .int p1, .int p2, .int p3, .int p4] s 0 0 A) (F0 m 92 ls [.int z87, .ref o0]) := by
              intro z87 h88 H locs hT hF hS  ls hl
              refine lv_iconst (v := 3) hx hb dX12_land_92 (by decide) ?_
              have hFc := gA_free hG hA hS
              refine va_calli (va_runV (As := [.int z87, .int 3]) (rest := []) ⟨hx, hb, hml, hown, hts⟩ (s_throwsIf l dC dI kA G H q wN wH wB wC wL wK PI o0 z87 3 hT hr_o0 (rg_t (a := z87.toInt) rfl (by have q8 := ti_all z87; omega) (by have q8 := ti_all z87; omega)) (by omega) (by omega) (by omega) (by omega)) (cwV 2 hts (goodIn_app (goodIn_r _ [10, 11, 12, 6] (by decide +kernel) (by decide +kernel)) (goodIn_ca (goodIn_r _ [9, 1] (by decide +kernel) (by decide +kernel)) (bs_in _ _))) rfl rfl rfl (by decide +kernel) ⟨(Nat.le_of_ble_eq_true rfl), (Nat.le_of_ble_eq_true rfl)⟩) ⟨fun a U g mk q => by obtain ⟨q0, q1, qK, qE⟩ := q; exact ⟨q0, q1, va_K.moved (u := U) (U := U.calling g mk a) (Vm.Alike.refl U.vm) qK, EV.blind g mk a qE⟩, gH_recv hK hT hr_o0 shm_0 rfl, fun U hU hW => ⟨rfl, hU, va_K.moved hW.alike hK, hE.call hS hFc hU hW⟩⟩ rfl rfl hl.1 rfl (lv_room (Nat.le_of_ble_eq_true rfl)) dX12_land_93 ⟨(Nat.le_of_ble_eq_true rfl), (Nat.le_of_ble_eq_true rfl)⟩) hS (fun q _ h => hFc q h) hFc (fun r90 u t H locs ht hvm hw91 hB _ _ hS => ?_)
              obtain ⟨hT, hF1⟩ := hB
              rw [ht] at hT hF1
              have hF := hF.more hF1 (by decide)
              try dsimp only at hw91
              obtain ⟨h92, hd93⟩ := hw91
              obtain rfl : z87 = r90 := hd93.symm
              refine lv_if_eq (tgt := 101) hx hb dX12_land_96 (by decide) (fun c94 => ?_) (fun c94 => ?_)
              · have t95 : z87.toInt = 0 := ti_eq c94 rfl (by decide)
                refine lv_iconst (v := 0) hx hb dX12_land_101 (by decide) ?_
                refine lv_istore (lv' := [(6, .int 0), (0, .ref o0), (1, .int p0), (2, .int p1), (3, .int p2), (4, .int p3), (5, .int p4)]) hx hb dX12_land_102 hl (by decide) rfl (fun ls hl => ?_)
                refine lv_iconst (v := 0) hx hb dX12_land_104 (by decide) ?_
                refine lv_istore (lv' := [(7, .int 0), (6, .int 0), (0, .ref o0), (1, .int p0), (2, .int p1), (3, .int p2), (4, .int p3), (5, .int p4)]) hx hb dX12_land_105 hl (by decide) rfl (fun ls hl => ?_)
                have key1569 : ∀ (n1569 i96 : Nat), i96 + n1569 = 96 → 0 ≤ i96 → ∀ (z1489 : Int32), ∀ (H : Heap) (locs : List Loc), gH (dC, dI) kA (SHm q (wP wN wH wB wC wC wL wK) PI) G H → gF (dC, dI) SKm G ([(0, 0), (0, 9), (2, 0)] : List (Nat × Nat)) s.heap H → va_S A s.heap H locs → ∀ ls : Array Slot, lv_has ls 8 [(7, .int (nI i96)), (6, .int z1489), (0, .ref o0), (1, .int p0), (2, .int p1), (3, .int p2), (4, .int p3), (5, .int p4)] → W p l e (headSpec w_s_land ({ frames := 2, cells := 0, slots := 0, locals := 64 })).room s m #[.ref o0, .int p0, .int p1, .int p2, .int p3, .int p4] below meth c H locs 0 0 (MQ below (va_Qi (fun (r : Int32) (u : Unit) => True) (fun (_ : Unit) (t : State) => gH (dC, dI) kA (SHm q (wP wN wH wB wC wC wL wK) PI) G t.heap ∧ gF (dC, dI) SKm G ([(0, 0), (0, 9), (2, 0)] : List (Nat × Nat)) s.heap t.heap) A) #[.ref o0, .int p0, .int p1, .int p2, .int p3, .int p4] s 0 0 A) (F0 m 107 ls []) := by
                  intro n1569
                  induction n1569 with
                  | zero =>
                    intro i96 hn1569 hlo1570 z1489 H locs hT hF hS  ls hl
                    obtain rfl : 96 = i96 := by omega
                    refine lv_iload hx hb dX12_land_107 (lv_at hl 0 rfl) ?_
                    refine lv_bipush (v := 96) hx hb dX12_land_109 (by decide) ?_
                    refine lv_icmp_ge (tgt := 245) hx hb dX12_land_111 (by decide) (fun c1571 => ?_) (fun c1571 => (by exfalso; have q9 : ((96 : Nat) : Int) < 96 := ti_nle c1571 (by decide) (nI_toInt (by omega)); omega))
                    have t1572 : 96 ≤ ((96 : Nat) : Int) := ti_le c1571 (by decide) (nI_toInt (by omega))
                    refine lv_aload_n hx hb dX12_land_245 rfl (lv_at hl 2 rfl) ?_
                    refine lv_iconst (v := 0) hx hb dX12_land_246 (by decide) ?_
                    refine tw_put (v := .int 0) (ty := .int) hx hb hts bF_X12 tyX12 tyX12_ok nmX12 hown hK hT hG hS hr_o0 shm_0 rfl 9 (by decide) (ht_at hts 17 rfl) (fun _ h9 => h9) rfl (by decide +kernel) rfl rfl (gl_at rfl (gi_of (show (0 : Int32).toInt = 0 from (by decide)) (by omega) (by omega))) dX12_land_247 (fun H locs hT oq m1573 oj hS => ?_)
                    have hF := hF.put hr_o0 skm_0 oq oj (by decide)
                    refine lv_iload hx hb dX12_land_250 (lv_at hl 1 rfl) ?_
                    exact W.iret (v := z1489) hx hb hr (fun t ht hW => ⟨⟨z1489, (), rfl, (by exact trivial), by (try dsimp only); rw [ht]; exact ⟨hT, hF⟩⟩, hS.F ht⟩) hS.2.2 dX12_land_252
                  | succ n1569 ih1569 =>
                    intro i96 hn1569 hlo1570 z1489 H locs hT hF hS  ls hl
                    have hlt1573 : i96 < 96 := by omega
                    refine lv_iload hx hb dX12_land_107 (lv_at hl 0 rfl) ?_
                    refine lv_bipush (v := 96) hx hb dX12_land_109 (by decide) ?_
                    refine lv_icmp_ge (tgt := 245) hx hb dX12_land_111 (by decide) (fun c1574 => (by exfalso; have q9 : 96 ≤ ((i96 : Nat) : Int) := ti_le c1574 (by decide) (nI_toInt (by omega)); omega)) (fun c1574 => ?_)
                    have t1575 : ((i96 : Nat) : Int) < 96 := ti_nle c1574 (by decide) (nI_toInt (by omega))
                    refine lv_iload hx hb dX12_land_114 (lv_at hl 0 rfl) ?_
                    refine lv_iload_n hx hb dX12_land_116 rfl (lv_at hl 3 rfl) ?_
                    refine lv_iload_n hx hb dX12_land_117 rfl (lv_at hl 4 rfl) ?_
                    have hFc := gA_free hG hA hS
                    refine va_calli (va_runS (As := [.int (nI i96), .int p0, .int p1]) (rest := []) ⟨hx, hb, hml, hown, hts⟩ (s_isIn l dC dI kA G H q wN wH wB wC wL wK PI (nI i96) p0 p1 hT (by omega) (by omega) (by omega) (by omega)) (va_cwS 3 hts (goodIn_app (goodIn_r _ [27, 28, 6] (by decide +kernel) (by decide +kernel)) (goodIn_ca (goodIn_r _ [19, 20, 21, 22, 23, 24, 25, 26, 3, 4, 5, 6] (by decide +kernel) (by decide +kernel)) (bs_in _ _))) rfl rfl rfl (by decide +kernel) ⟨(Nat.le_of_ble_eq_true rfl), (Nat.le_of_ble_eq_true rfl)⟩) ⟨fun a U g mk q => by obtain ⟨q0, q1, qK, qE⟩ := q; exact ⟨q0, q1, va_K.moved (u := U) (U := U.calling g mk a) (Vm.Alike.refl U.vm) qK, EV.blind g mk a qE⟩, fun U hU hW => ⟨rfl, hU, va_K.moved hW.alike hK, hE.call hS hFc hU hW⟩⟩ rfl rfl hl.1 rfl (lv_room (Nat.le_of_ble_eq_true rfl)) dX12_land_118 ⟨(Nat.le_of_ble_eq_true rfl), (Nat.le_of_ble_eq_true rfl)⟩) hS (fun q _ h => hFc q h) hFc (fun r1576 u t H locs ht hvm hw1577 hB _ _ hS => ?_)
                    obtain ⟨hT, hF1⟩ := hB
                    rw [ht] at hT hF1
                    have hF := hF.more hF1 (by decide)
                    try dsimp only at hw1577
                    have h1578 := hw1577
                    refine lv_if_ne (tgt := 127) hx hb dX12_land_121 (by decide) (fun c1579 => ?_) (fun c1579 => ?_)
                    · have t1580 : r1576.toInt ≠ 0 := ti_ne c1579 rfl (by decide)
                      refine lv_iload hx hb dX12_land_127 (lv_at hl 1 rfl) ?_
                      refine lv_aload_n hx hb dX12_land_129 rfl (lv_at hl 2 rfl) ?_
                      refine lv_iload hx hb dX12_land_130 (lv_at hl 0 rfl) ?_
                      have hFc := gA_free hG hA hS
                      refine va_calli (va_runV (As := [.int (nI i96)]) (rest := [.int z1489]) ⟨hx, hb, hml, hown, hts⟩ (s_isLand l dC dI kA G H q wN wH wB wC wL wK PI o0 (nI i96) hT hr_o0 (rg_t (a := ((i96 : Nat) : Int)) (nI_toInt (by omega)) (by omega) (by omega)) (by omega) (by omega) (by omega) (by omega)) (cwV 1 hts (goodIn_app (goodIn_r _ [30, 31, 32, 6] (by decide +kernel) (by decide +kernel)) (goodIn_ca (goodIn_r _ [29, 14] (by decide +kernel) (by decide +kernel)) (bs_in _ _))) rfl rfl rfl (by decide +kernel) ⟨(Nat.le_of_ble_eq_true rfl), (Nat.le_of_ble_eq_true rfl)⟩) ⟨fun a U g mk q => by obtain ⟨q0, q1, qK, qE⟩ := q; exact ⟨q0, q1, va_K.moved (u := U) (U := U.calling g mk a) (Vm.Alike.refl U.vm) qK, EV.blind g mk a qE⟩, gH_recv hK hT hr_o0 shm_0 rfl, fun U hU hW => ⟨rfl, hU, va_K.moved hW.alike hK, hE.call hS hFc hU hW⟩⟩ rfl rfl hl.1 rfl (lv_room (Nat.le_of_ble_eq_true rfl)) dX12_land_132 ⟨(Nat.le_of_ble_eq_true rfl), (Nat.le_of_ble_eq_true rfl)⟩) hS (fun q _ h => hFc q h) hFc (fun r1581 u t H locs ht hvm hw1582 hB _ _ hS => ?_)
                      obtain ⟨hT, hF1⟩ := hB
                      rw [ht] at hT hF1
                      have hF := hF.more hF1 (by decide)
                      try dsimp only at hw1582
                      have h1583 := hw1582
                      have jn1586 : ∀ (z1584 : Int32), ((0 ≤ z1584.toInt ∧ z1584.toInt ≤ 1)) → ∀ (H : Heap) (locs : List Loc), gH (dC, dI) kA (SHm q (wP wN wH wB wC wC wL wK) PI) G H → gF (dC, dI) SKm G ([(0, 0), (0, 9), (2, 0)] : List (Nat × Nat)) s.heap H → va_S A s.heap H locs → ∀ ls : Array Slot, lv_has ls 8 [(7, .int (nI i96)), (6, .int z1489), (0, .ref o0), (1, .int p0), (2, .int p1), (3, .int p2), (4, .int p3), (5, .int p4)] → W p l e (headSpec w_s_land ({ frames := 2, cells := 0, slots := 0, locals := 64 })).room s m #[.ref o0, .int p0, .int p1, .int p2, .int p3, .int p4] below meth c H locs 0 0 (MQ below (va_Qi (fun (r : Int32) (u : Unit) => True) (fun (_ : Unit) (t : State) => gH (dC, dI) kA (SHm q (wP wN wH wB wC wC wL wK) PI) G t.heap ∧ gF (dC, dI) SKm G ([(0, 0), (0, 9), (2, 0)] : List (Nat × Nat)) s.heap t.heap) A) #[.ref o0, .int p0, .int p1, .int p2, .int p3, .int p4] s 0 0 A) (F0 m 143 ls [.int z1584, .int z1489]) := by
                        intro z1584 h1585 H locs hT hF hS  ls hl
                        refine lv_iadd hx hb dX12_land_143 ?_
                        refine lv_topi (fun x1587 ex1587 => ?_)
                        refine lv_istore (lv' := [(6, .int x1587), (7, .int (nI i96)), (0, .ref o0), (1, .int p0), (2, .int p1), (3, .int p2), (4, .int p3), (5, .int p4)]) hx hb dX12_land_144 hl (by decide) rfl (fun ls hl => ?_)
                        refine lv_aload_n hx hb dX12_land_146 rfl (lv_at hl 2 rfl) ?_
                        refine tw_get hx hb hts bF_X12 hown hK hT hr_o0 shm_0 rfl 1 (by decide) (ht_at hts 13 rfl) (fun _ h9 => h9) dX12_land_147 (fun v9 m1588 h9 => ?_)
                        obtain ⟨rfl, hg1589⟩ := h9 _ rfl
                        refine lv_sipush (v := 1748) hx hb dX12_land_150 (by decide) ?_
                        refine lv_dup2_11 hx hb dX12_land_153 rfl rfl ?_
                        refine tw_iald (i := 1748) hx hb hK hT hg1589 shm_2 rfl (by unfold vp_in; decide) dX12_land_154 (fun v9 m1590 h9 => ?_)
                        obtain ⟨x1591, rfl, gx1591, kx1591⟩ := (gp_at h9 (w_fre (by have q9 := tn_of (show (1748 : Int32).toInt = 1748 from (by decide)) (show (0 : Int) ≤ 1748 from by omega); omega)))
                        refine lv_aload_n hx hb dX12_land_155 rfl (lv_at hl 2 rfl) ?_
                        refine tw_get hx hb hts bF_X12 hown hK hT hr_o0 shm_0 rfl 1 (by decide) (ht_at hts 13 rfl) (fun _ h9 => h9) dX12_land_156 (fun v9 m1592 h9 => ?_)
                        obtain ⟨rfl, hg1593⟩ := h9 _ rfl
                        refine lv_sipush (v := 384) hx hb dX12_land_159 (by decide) ?_
                        refine lv_iload hx hb dX12_land_162 (lv_at hl 1 rfl) ?_
                        refine lv_iadd hx hb dX12_land_164 ?_
                        refine lv_topi (fun x1594 ex1594 => ?_)
                        obtain rfl : nI (384 + i96) = x1594 := (ex1594.trans (nI_add 384 i96)).symm
                        refine tw_iald (i := (nI (384 + i96))) hx hb hK hT hg1589 shm_2 rfl (vp_in_nI (by omega) (by decide)) dX12_land_165 (fun v9 m1595 h9 => ?_)
                        obtain ⟨x1596, rfl, gx1596, kx1596⟩ := (gp_at h9 (w_wat (by have q9 := tn_of (show (nI (384 + i96)).toInt = ((384 + i96 : Nat) : Int) from (nI_toInt (by omega))) (show (0 : Int) ≤ ((384 + i96 : Nat) : Int) from by omega); omega)))
                        refine lv_isub hx hb dX12_land_166 ?_
                        refine lv_topi (fun x1597 ex1597 => ?_)
                        refine tw_iast (i := 1748) (x := x1597) hx hb hK hT hG hS hg1589 shm_2 rfl (by unfold vp_in; decide) (gp_of (gi_all _) (w_fre (by have q9 := tn_of (show (1748 : Int32).toInt = 1748 from (by decide)) (show (0 : Int) ≤ 1748 from by omega); omega)) (wX_o (by have q9 := tn_of (show (1748 : Int32).toInt = 1748 from (by decide)) (show (0 : Int) ≤ 1748 from by omega); omega) (by omega))) dX12_land_167 (fun H locs hT oq m1598 oi hS => ?_)
                        have hF := hF.ast hg1589 skm_2 oq (by decide)
                        have m1599 := (oi _ (tn_ne (show (nI (384 + i96)).toInt = ((384 + i96 : Nat) : Int) from (nI_toInt (by omega))) (show (1748 : Int32).toInt = 1748 from (by decide)) (by omega) (by omega) (by omega))).trans m1595
                        refine lv_aload_n hx hb dX12_land_168 rfl (lv_at hl 2 rfl) ?_
                        refine tw_get hx hb hts bF_X12 hown hK hT hr_o0 shm_0 rfl 1 (by decide) (ht_at hts 13 rfl) (fun _ h9 => h9) dX12_land_169 (fun v9 m1600 h9 => ?_)
                        obtain ⟨rfl, hg1601⟩ := h9 _ rfl
                        refine lv_iconst (v := 0) hx hb dX12_land_172 (by decide) ?_
                        refine lv_iload hx hb dX12_land_173 (lv_at hl 1 rfl) ?_
                        refine lv_iadd hx hb dX12_land_175 ?_
                        refine lv_topi (fun x1602 ex1602 => ?_)
                        obtain rfl : nI (0 + i96) = x1602 := (ex1602.trans (nI_add 0 i96)).symm
                        refine lv_iconst (v := 1) hx hb dX12_land_176 (by decide) ?_
                        refine tw_iast (i := (nI (0 + i96))) (x := 1) hx hb hK hT hG hS hg1589 shm_2 rfl (vp_in_nI (by omega) (by decide)) (gp_of (gi_all _) (w_fre (by have q9 := tn_of (show (nI (0 + i96)).toInt = ((0 + i96 : Nat) : Int) from (nI_toInt (by omega))) (show (0 : Int) ≤ ((0 + i96 : Nat) : Int) from by omega); omega)) (wX_l (by have q9 := tn_of (show (nI (0 + i96)).toInt = ((0 + i96 : Nat) : Int) from (nI_toInt (by omega))) (show (0 : Int) ≤ ((0 + i96 : Nat) : Int) from by omega); omega) (by have q7 := (show (1 : Int32).toInt = 1 from (by decide)); omega))) dX12_land_177 (fun H locs hT oq m1603 oi hS => ?_)
                        have hF := hF.ast hg1589 skm_2 oq (by decide)
                        have m1604 := (oi _ (tn_ne (show (nI (384 + i96)).toInt = ((384 + i96 : Nat) : Int) from (nI_toInt (by omega))) (show (nI (0 + i96)).toInt = ((0 + i96 : Nat) : Int) from (nI_toInt (by omega))) (by omega) (by omega) (by omega))).trans m1599
                        have m1605 := (oi _ (tn_ne (show (1748 : Int32).toInt = 1748 from (by decide)) (show (nI (0 + i96)).toInt = ((0 + i96 : Nat) : Int) from (nI_toInt (by omega))) (by omega) (by omega) (by omega))).trans m1598
                        refine lv_aload_n hx hb dX12_land_178 rfl (lv_at hl 2 rfl) ?_
                        refine tw_get hx hb hts bF_X12 hown hK hT hr_o0 shm_0 rfl 1 (by decide) (ht_at hts 13 rfl) (fun _ h9 => h9) dX12_land_179 (fun v9 m1606 h9 => ?_)
                        obtain ⟨rfl, hg1607⟩ := h9 _ rfl
                        refine lv_bipush (v := 96) hx hb dX12_land_182 (by decide) ?_
                        refine lv_iload hx hb dX12_land_184 (lv_at hl 1 rfl) ?_
                        refine lv_iadd hx hb dX12_land_186 ?_
                        refine lv_topi (fun x1608 ex1608 => ?_)
                        obtain rfl : nI (96 + i96) = x1608 := (ex1608.trans (nI_add 96 i96)).symm
                        refine lv_iload_n hx hb dX12_land_187 rfl (lv_at hl 5 rfl) ?_
                        refine tw_iast (i := (nI (96 + i96))) (x := p2) hx hb hK hT hG hS hg1589 shm_2 rfl (vp_in_nI (by omega) (by decide)) (gp_of (gi_of (show p2.toInt = p2.toInt from rfl) (by omega) (by omega)) (w_hgt (by have q9 := tn_of (show (nI (96 + i96)).toInt = ((96 + i96 : Nat) : Int) from (nI_toInt (by omega))) (show (0 : Int) ≤ ((96 + i96 : Nat) : Int) from by omega); omega)) (wX_o (by have q9 := tn_of (show (nI (96 + i96)).toInt = ((96 + i96 : Nat) : Int) from (nI_toInt (by omega))) (show (0 : Int) ≤ ((96 + i96 : Nat) : Int) from by omega); omega) (by omega))) dX12_land_188 (fun H locs hT oq m1609 oi hS => ?_)
                        have hF := hF.ast hg1589 skm_2 oq (by decide)
                        have m1610 := (oi _ (tn_ne (show (nI (384 + i96)).toInt = ((384 + i96 : Nat) : Int) from (nI_toInt (by omega))) (show (nI (96 + i96)).toInt = ((96 + i96 : Nat) : Int) from (nI_toInt (by omega))) (by omega) (by omega) (by omega))).trans m1604
                        have m1611 := (oi _ (tn_ne (show (1748 : Int32).toInt = 1748 from (by decide)) (show (nI (96 + i96)).toInt = ((96 + i96 : Nat) : Int) from (nI_toInt (by omega))) (by omega) (by omega) (by omega))).trans m1605
                        have m1612 := (oi _ (tn_ne (show (nI (0 + i96)).toInt = ((0 + i96 : Nat) : Int) from (nI_toInt (by omega))) (show (nI (96 + i96)).toInt = ((96 + i96 : Nat) : Int) from (nI_toInt (by omega))) (by omega) (by omega) (by omega))).trans m1603
                        refine lv_aload_n hx hb dX12_land_189 rfl (lv_at hl 2 rfl) ?_
                        refine tw_get hx hb hts bF_X12 hown hK hT hr_o0 shm_0 rfl 1 (by decide) (ht_at hts 13 rfl) (fun _ h9 => h9) dX12_land_190 (fun v9 m1613 h9 => ?_)
                        obtain ⟨rfl, hg1614⟩ := h9 _ rfl
                        refine lv_sipush (v := 192) hx hb dX12_land_193 (by decide) ?_
                        refine lv_iload hx hb dX12_land_196 (lv_at hl 1 rfl) ?_
                        refine lv_iadd hx hb dX12_land_198 ?_
                        refine lv_topi (fun x1615 ex1615 => ?_)
                        obtain rfl : nI (192 + i96) = x1615 := (ex1615.trans (nI_add 192 i96)).symm
                        refine lv_iload hx hb dX12_land_199 (lv_at hl 6 rfl) ?_
                        refine tw_iast (i := (nI (192 + i96))) (x := p3) hx hb hK hT hG hS hg1589 shm_2 rfl (vp_in_nI (by omega) (by decide)) (gp_of (gi_all _) (w_fre (by have q9 := tn_of (show (nI (192 + i96)).toInt = ((192 + i96 : Nat) : Int) from (nI_toInt (by omega))) (show (0 : Int) ≤ ((192 + i96 : Nat) : Int) from by omega); omega)) (wX_o (by have q9 := tn_of (show (nI (192 + i96)).toInt = ((192 + i96 : Nat) : Int) from (nI_toInt (by omega))) (show (0 : Int) ≤ ((192 + i96 : Nat) : Int) from by omega); omega) (by omega))) dX12_land_201 (fun H locs hT oq m1616 oi hS => ?_)
                        have hF := hF.ast hg1589 skm_2 oq (by decide)
                        have m1617 := (oi _ (tn_ne (show (nI (384 + i96)).toInt = ((384 + i96 : Nat) : Int) from (nI_toInt (by omega))) (show (nI (192 + i96)).toInt = ((192 + i96 : Nat) : Int) from (nI_toInt (by omega))) (by omega) (by omega) (by omega))).trans m1610
                        have m1618 := (oi _ (tn_ne (show (1748 : Int32).toInt = 1748 from (by decide)) (show (nI (192 + i96)).toInt = ((192 + i96 : Nat) : Int) from (nI_toInt (by omega))) (by omega) (by omega) (by omega))).trans m1611
                        have m1619 := (oi _ (tn_ne (show (nI (0 + i96)).toInt = ((0 + i96 : Nat) : Int) from (nI_toInt (by omega))) (show (nI (192 + i96)).toInt = ((192 + i96 : Nat) : Int) from (nI_toInt (by omega))) (by omega) (by omega) (by omega))).trans m1612
                        have m1620 := (oi _ (tn_ne (show (nI (96 + i96)).toInt = ((96 + i96 : Nat) : Int) from (nI_toInt (by omega))) (show (nI (192 + i96)).toInt = ((192 + i96 : Nat) : Int) from (nI_toInt (by omega))) (by omega) (by omega) (by omega))).trans m1609
                        refine lv_aload_n hx hb dX12_land_202 rfl (lv_at hl 2 rfl) ?_
                        refine tw_get hx hb hts bF_X12 hown hK hT hr_o0 shm_0 rfl 1 (by decide) (ht_at hts 13 rfl) (fun _ h9 => h9) dX12_land_203 (fun v9 m1621 h9 => ?_)
                        obtain ⟨rfl, hg1622⟩ := h9 _ rfl
                        refine lv_sipush (v := 288) hx hb dX12_land_206 (by decide) ?_
                        refine lv_iload hx hb dX12_land_209 (lv_at hl 1 rfl) ?_
                        refine lv_iadd hx hb dX12_land_211 ?_
                        refine lv_topi (fun x1623 ex1623 => ?_)
                        obtain rfl : nI (288 + i96) = x1623 := (ex1623.trans (nI_add 288 i96)).symm
                        refine lv_iload hx hb dX12_land_212 (lv_at hl 7 rfl) ?_
                        refine tw_iast (i := (nI (288 + i96))) (x := p4) hx hb hK hT hG hS hg1589 shm_2 rfl (vp_in_nI (by omega) (by decide)) (gp_of (gi_of (show p4.toInt = p4.toInt from rfl) (by omega) (by omega)) (w_dit (by have q9 := tn_of (show (nI (288 + i96)).toInt = ((288 + i96 : Nat) : Int) from (nI_toInt (by omega))) (show (0 : Int) ≤ ((288 + i96 : Nat) : Int) from by omega); omega)) (wX_o (by have q9 := tn_of (show (nI (288 + i96)).toInt = ((288 + i96 : Nat) : Int) from (nI_toInt (by omega))) (show (0 : Int) ≤ ((288 + i96 : Nat) : Int) from by omega); omega) (by omega))) dX12_land_214 (fun H locs hT oq m1624 oi hS => ?_)
                        have hF := hF.ast hg1589 skm_2 oq (by decide)
                        have m1625 := (oi _ (tn_ne (show (nI (384 + i96)).toInt = ((384 + i96 : Nat) : Int) from (nI_toInt (by omega))) (show (nI (288 + i96)).toInt = ((288 + i96 : Nat) : Int) from (nI_toInt (by omega))) (by omega) (by omega) (by omega))).trans m1617
                        have m1626 := (oi _ (tn_ne (show (1748 : Int32).toInt = 1748 from (by decide)) (show (nI (288 + i96)).toInt = ((288 + i96 : Nat) : Int) from (nI_toInt (by omega))) (by omega) (by omega) (by omega))).trans m1618
                        have m1627 := (oi _ (tn_ne (show (nI (0 + i96)).toInt = ((0 + i96 : Nat) : Int) from (nI_toInt (by omega))) (show (nI (288 + i96)).toInt = ((288 + i96 : Nat) : Int) from (nI_toInt (by omega))) (by omega) (by omega) (by omega))).trans m1619
                        have m1628 := (oi _ (tn_ne (show (nI (96 + i96)).toInt = ((96 + i96 : Nat) : Int) from (nI_toInt (by omega))) (show (nI (288 + i96)).toInt = ((288 + i96 : Nat) : Int) from (nI_toInt (by omega))) (by omega) (by omega) (by omega))).trans m1620
                        have m1629 := (oi _ (tn_ne (show (nI (192 + i96)).toInt = ((192 + i96 : Nat) : Int) from (nI_toInt (by omega))) (show (nI (288 + i96)).toInt = ((288 + i96 : Nat) : Int) from (nI_toInt (by omega))) (by omega) (by omega) (by omega))).trans m1616
                        refine lv_aload_n hx hb dX12_land_215 rfl (lv_at hl 2 rfl) ?_
                        refine tw_get hx hb hts bF_X12 hown hK hT hr_o0 shm_0 rfl 1 (by decide) (ht_at hts 13 rfl) (fun _ h9 => h9) dX12_land_216 (fun v9 m1630 h9 => ?_)
                        obtain ⟨rfl, hg1631⟩ := h9 _ rfl
                        refine lv_sipush (v := 384) hx hb dX12_land_219 (by decide) ?_
                        refine lv_iload hx hb dX12_land_222 (lv_at hl 1 rfl) ?_
                        refine lv_iadd hx hb dX12_land_224 ?_
                        refine lv_topi (fun x1632 ex1632 => ?_)
                        obtain rfl : nI (384 + i96) = x1632 := (ex1632.trans (nI_add 384 i96)).symm
                        refine lv_iconst (v := 0) hx hb dX12_land_225 (by decide) ?_
                        refine tw_iast (i := (nI (384 + i96))) (x := 0) hx hb hK hT hG hS hg1589 shm_2 rfl (vp_in_nI (by omega) (by decide)) (gp_of (gi_of (show (0 : Int32).toInt = 0 from (by decide)) (by omega) (by omega)) (w_wat (by have q9 := tn_of (show (nI (384 + i96)).toInt = ((384 + i96 : Nat) : Int) from (nI_toInt (by omega))) (show (0 : Int) ≤ ((384 + i96 : Nat) : Int) from by omega); omega)) (wX_o (by have q9 := tn_of (show (nI (384 + i96)).toInt = ((384 + i96 : Nat) : Int) from (nI_toInt (by omega))) (show (0 : Int) ≤ ((384 + i96 : Nat) : Int) from by omega); omega) (by omega))) dX12_land_226 (fun H locs hT oq m1633 oi hS => ?_)
                        have hF := hF.ast hg1589 skm_2 oq (by decide)
                        have m1634 := (oi _ (tn_ne (show (1748 : Int32).toInt = 1748 from (by decide)) (show (nI (384 + i96)).toInt = ((384 + i96 : Nat) : Int) from (nI_toInt (by omega))) (by omega) (by omega) (by omega))).trans m1626
                        have m1635 := (oi _ (tn_ne (show (nI (0 + i96)).toInt = ((0 + i96 : Nat) : Int) from (nI_toInt (by omega))) (show (nI (384 + i96)).toInt = ((384 + i96 : Nat) : Int) from (nI_toInt (by omega))) (by omega) (by omega) (by omega))).trans m1627
                        have m1636 := (oi _ (tn_ne (show (nI (96 + i96)).toInt = ((96 + i96 : Nat) : Int) from (nI_toInt (by omega))) (show (nI (384 + i96)).toInt = ((384 + i96 : Nat) : Int) from (nI_toInt (by omega))) (by omega) (by omega) (by omega))).trans m1628
                        have m1637 := (oi _ (tn_ne (show (nI (192 + i96)).toInt = ((192 + i96 : Nat) : Int) from (nI_toInt (by omega))) (show (nI (384 + i96)).toInt = ((384 + i96 : Nat) : Int) from (nI_toInt (by omega))) (by omega) (by omega) (by omega))).trans m1629
                        have m1638 := (oi _ (tn_ne (show (nI (288 + i96)).toInt = ((288 + i96 : Nat) : Int) from (nI_toInt (by omega))) (show (nI (384 + i96)).toInt = ((384 + i96 : Nat) : Int) from (nI_toInt (by omega))) (by omega) (by omega) (by omega))).trans m1624
                        refine lv_aload_n hx hb dX12_land_227 rfl (lv_at hl 2 rfl) ?_
                        refine tw_get hx hb hts bF_X12 hown hK hT hr_o0 shm_0 rfl 1 (by decide) (ht_at hts 13 rfl) (fun _ h9 => h9) dX12_land_228 (fun v9 m1639 h9 => ?_)
                        obtain ⟨rfl, hg1640⟩ := h9 _ rfl
                        refine lv_sipush (v := 480) hx hb dX12_land_231 (by decide) ?_
                        refine lv_iload hx hb dX12_land_234 (lv_at hl 1 rfl) ?_
                        refine lv_iadd hx hb dX12_land_236 ?_
                        refine lv_topi (fun x1641 ex1641 => ?_)
                        obtain rfl : nI (480 + i96) = x1641 := (ex1641.trans (nI_add 480 i96)).symm
                        refine lv_iconst (v := 0) hx hb dX12_land_237 (by decide) ?_
                        refine tw_iast (i := (nI (480 + i96))) (x := 0) hx hb hK hT hG hS hg1589 shm_2 rfl (vp_in_nI (by omega) (by decide)) (gp_of (gi_all _) (w_fre (by have q9 := tn_of (show (nI (480 + i96)).toInt = ((480 + i96 : Nat) : Int) from (nI_toInt (by omega))) (show (0 : Int) ≤ ((480 + i96 : Nat) : Int) from by omega); omega)) (wX_o (by have q9 := tn_of (show (nI (480 + i96)).toInt = ((480 + i96 : Nat) : Int) from (nI_toInt (by omega))) (show (0 : Int) ≤ ((480 + i96 : Nat) : Int) from by omega); omega) (by omega))) dX12_land_238 (fun H locs hT oq m1642 oi hS => ?_)
                        have hF := hF.ast hg1589 skm_2 oq (by decide)
                        have m1643 := (oi _ (tn_ne (show (1748 : Int32).toInt = 1748 from (by decide)) (show (nI (480 + i96)).toInt = ((480 + i96 : Nat) : Int) from (nI_toInt (by omega))) (by omega) (by omega) (by omega))).trans m1634
                        have m1644 := (oi _ (tn_ne (show (nI (0 + i96)).toInt = ((0 + i96 : Nat) : Int) from (nI_toInt (by omega))) (show (nI (480 + i96)).toInt = ((480 + i96 : Nat) : Int) from (nI_toInt (by omega))) (by omega) (by omega) (by omega))).trans m1635
                        have m1645 := (oi _ (tn_ne (show (nI (96 + i96)).toInt = ((96 + i96 : Nat) : Int) from (nI_toInt (by omega))) (show (nI (480 + i96)).toInt = ((480 + i96 : Nat) : Int) from (nI_toInt (by omega))) (by omega) (by omega) (by omega))).trans m1636
                        have m1646 := (oi _ (tn_ne (show (nI (192 + i96)).toInt = ((192 + i96 : Nat) : Int) from (nI_toInt (by omega))) (show (nI (480 + i96)).toInt = ((480 + i96 : Nat) : Int) from (nI_toInt (by omega))) (by omega) (by omega) (by omega))).trans m1637
                        have m1647 := (oi _ (tn_ne (show (nI (288 + i96)).toInt = ((288 + i96 : Nat) : Int) from (nI_toInt (by omega))) (show (nI (480 + i96)).toInt = ((480 + i96 : Nat) : Int) from (nI_toInt (by omega))) (by omega) (by omega) (by omega))).trans m1638
                        have m1648 := (oi _ (tn_ne (show (nI (384 + i96)).toInt = ((384 + i96 : Nat) : Int) from (nI_toInt (by omega))) (show (nI (480 + i96)).toInt = ((480 + i96 : Nat) : Int) from (nI_toInt (by omega))) (by omega) (by omega) (by omega))).trans m1633
                        refine lv_iinc (v := nI (i96 + 1)) (lv' := [(7, .int (nI (i96 + 1))), (6, .int x1587), (0, .ref o0), (1, .int p0), (2, .int p1), (3, .int p2), (4, .int p3), (5, .int p4)]) hx hb dX12_land_239 hl (k := 1) rfl (nI_add i96 1) (by decide) rfl (fun ls hl => ?_)
                        refine lv_goto (tgt := 107) hx hb dX12_land_242 (by decide) ?_
                        exact ih1569 (i96 + 1) (by omega) (by omega) x1587 _ _ hT hF hS ls (lv_sub hl [0, 1, 2, 3, 4, 5, 6, 7] rfl)
                      refine lv_if_eq (tgt := 142) hx hb dX12_land_135 (by decide) (fun c1649 => ?_) (fun c1649 => ?_)
                      · have t1650 : r1581.toInt = 0 := ti_eq c1649 rfl (by decide)
                        refine lv_iconst (v := 1) hx hb dX12_land_142 (by decide) ?_
                        exact jn1586 1 (rg_t (a := 1) (by decide) (by omega) (by omega)) _ _ hT hF hS ls (lv_sub hl [0, 1, 2, 3, 4, 5, 6, 7] rfl)
                      · have t1651 : r1581.toInt ≠ 0 := ti_ne c1649 rfl (by decide)
                        refine lv_iconst (v := 0) hx hb dX12_land_138 (by decide) ?_
                        refine lv_goto (tgt := 143) hx hb dX12_land_139 (by decide) ?_
                        exact jn1586 0 (rg_t (a := 0) (by decide) (by omega) (by omega)) _ _ hT hF hS ls (lv_sub hl [0, 1, 2, 3, 4, 5, 6, 7] rfl)
                    · have t1652 : r1576.toInt = 0 := ti_eq c1579 rfl (by decide)
                      refine lv_goto (tgt := 239) hx hb dX12_land_124 (by decide) ?_
                      refine lv_iinc (v := nI (i96 + 1)) (lv' := [(7, .int (nI (i96 + 1))), (6, .int z1489), (0, .ref o0), (1, .int p0), (2, .int p1), (3, .int p2), (4, .int p3), (5, .int p4)]) hx hb dX12_land_239 hl (k := 0) rfl (nI_add i96 1) (by decide) rfl (fun ls hl => ?_)
                      refine lv_goto (tgt := 107) hx hb dX12_land_242 (by decide) ?_
                      exact ih1569 (i96 + 1) (by omega) (by omega) z1489 _ _ hT hF hS ls (lv_sub hl [0, 1, 2, 3, 4, 5, 6, 7] rfl)
                exact key1569 (96 - 0) 0 (by omega) (Nat.le_refl _) 0 _ _ hT hF hS ls (lv_sub hl [0, 1, 2, 3, 4, 5, 6, 7] rfl)
              · have t1653 : z87.toInt ≠ 0 := ti_ne c94 rfl (by decide)
                refine lv_iconst (v := 0) hx hb dX12_land_99 (by decide) ?_
                exact W.iret (v := 0) hx hb hr (fun t ht hW => ⟨⟨0, (), rfl, (by exact trivial), by (try dsimp only); rw [ht]; exact ⟨hT, hF⟩⟩, hS.F ht⟩) hS.2.2 dX12_land_100
            refine lv_if_le (tgt := 91) hx hb dX12_land_84 (by decide) (fun c1654 => ?_) (fun c1654 => ?_)
            · have t1655 : r84.toInt ≤ 0 := ti_le c1654 rfl (by decide)
              refine lv_iconst (v := 0) hx hb dX12_land_91 (by decide) ?_
              exact jn89 0 (rg_t (a := 0) (by decide) (by omega) (by omega)) _ _ hT hF hS ls (lv_sub hl [0, 1, 2, 3, 4, 5] rfl)
            · have t1656 : 0 < r84.toInt := ti_nle c1654 rfl (by decide)
              refine lv_iconst (v := 1) hx hb dX12_land_87 (by decide) ?_
              refine lv_goto (tgt := 92) hx hb dX12_land_88 (by decide) ?_
              exact jn89 1 (rg_t (a := 1) (by decide) (by omega) (by omega)) _ _ hT hF hS ls (lv_sub hl [0, 1, 2, 3, 4, 5] rfl)
          · have t1657 : r69.toInt = 0 := ti_eq c74 rfl (by decide)
            have t1658 : (0 : Int32).toInt = 0 := by decide
            have t1659 : (20 : Int32).toInt = 20 := by decide
            have t1660 : p4.toInt < (0 : Int32).toInt ∨ (20 : Int32).toInt < p4.toInt := hi73 c74
            refine lv_iconst (v := 1) hx hb dX12_land_67 (by decide) ?_
            refine lv_goto (tgt := 72) hx hb dX12_land_68 (by decide) ?_
            refine lv_iconst (v := 2) hx hb dX12_land_72 (by decide) ?_
            have hFc := gA_free hG hA hS
            refine va_calli (va_runV (As := [.int 1, .int 2]) (rest := []) ⟨hx, hb, hml, hown, hts⟩ (s_throwsIf l dC dI kA G H q wN wH wB wC wL wK PI o0 1 2 hT hr_o0 (rg_t (a := 1) (by decide) (by omega) (by omega)) (by omega) (by omega) (by omega) (by omega)) (cwV 2 hts (goodIn_app (goodIn_r _ [10, 11, 12, 6] (by decide +kernel) (by decide +kernel)) (goodIn_ca (goodIn_r _ [9, 1] (by decide +kernel) (by decide +kernel)) (bs_in _ _))) rfl rfl rfl (by decide +kernel) ⟨(Nat.le_of_ble_eq_true rfl), (Nat.le_of_ble_eq_true rfl)⟩) ⟨fun a U g mk q => by obtain ⟨q0, q1, qK, qE⟩ := q; exact ⟨q0, q1, va_K.moved (u := U) (U := U.calling g mk a) (Vm.Alike.refl U.vm) qK, EV.blind g mk a qE⟩, gH_recv hK hT hr_o0 shm_0 rfl, fun U hU hW => ⟨rfl, hU, va_K.moved hW.alike hK, hE.call hS hFc hU hW⟩⟩ rfl rfl hl.1 rfl (lv_room (Nat.le_of_ble_eq_true rfl)) dX12_land_73 ⟨(Nat.le_of_ble_eq_true rfl), (Nat.le_of_ble_eq_true rfl)⟩) hS (fun q _ h => hFc q h) hFc (fun r1661 u t H locs ht hvm hw1662 hB _ _ hS => ?_)
            obtain ⟨hT, hF1⟩ := hB
            rw [ht] at hT hF1
            have hF := hF.more hF1 (by decide)
            try dsimp only at hw1662
            obtain ⟨h1663, hd1664⟩ := hw1662
            obtain rfl : (1 : Int32) = r1661 := hd1664.symm
            refine lv_if_ne (tgt := 99) hx hb dX12_land_76 (by decide) (fun c1665 => ?_) (fun c1665 => absurd c1665 (by decide))
            refine lv_iconst (v := 0) hx hb dX12_land_99 (by decide) ?_
            exact W.iret (v := 0) hx hb hr (fun t ht hW => ⟨⟨0, (), rfl, (by exact trivial), by (try dsimp only); rw [ht]; exact ⟨hT, hF⟩⟩, hS.F ht⟩) hS.2.2 dX12_land_100
    · have t1666 : r17.toInt ≠ 0 := ti_ne c22 rfl (by decide)
      refine lv_iconst (v := 1) hx hb dX12_land_20 (by decide) ?_
      refine lv_goto (tgt := 25) hx hb dX12_land_21 (by decide) ?_
      refine lv_iconst (v := 1) hx hb dX12_land_25 (by decide) ?_
      have hFc := gA_free hG hA hS
      refine va_calli (va_runV (As := [.int 1, .int 1]) (rest := []) ⟨hx, hb, hml, hown, hts⟩ (s_throwsIf l dC dI kA G H q wN wH wB wC wL wK PI o0 1 1 hT hr_o0 (rg_t (a := 1) (by decide) (by omega) (by omega)) (by omega) (by omega) (by omega) (by omega)) (cwV 2 hts (goodIn_app (goodIn_r _ [10, 11, 12, 6] (by decide +kernel) (by decide +kernel)) (goodIn_ca (goodIn_r _ [9, 1] (by decide +kernel) (by decide +kernel)) (bs_in _ _))) rfl rfl rfl (by decide +kernel) ⟨(Nat.le_of_ble_eq_true rfl), (Nat.le_of_ble_eq_true rfl)⟩) ⟨fun a U g mk q => by obtain ⟨q0, q1, qK, qE⟩ := q; exact ⟨q0, q1, va_K.moved (u := U) (U := U.calling g mk a) (Vm.Alike.refl U.vm) qK, EV.blind g mk a qE⟩, gH_recv hK hT hr_o0 shm_0 rfl, fun U hU hW => ⟨rfl, hU, va_K.moved hW.alike hK, hE.call hS hFc hU hW⟩⟩ rfl rfl hl.1 rfl (lv_room (Nat.le_of_ble_eq_true rfl)) dX12_land_26 ⟨(Nat.le_of_ble_eq_true rfl), (Nat.le_of_ble_eq_true rfl)⟩) hS (fun q _ h => hFc q h) hFc (fun r1667 u t H locs ht hvm hw1668 hB _ _ hS => ?_)
      obtain ⟨hT, hF1⟩ := hB
      rw [ht] at hT hF1
      have hF := hF.more hF1 (by decide)
      try dsimp only at hw1668
      obtain ⟨h1670, hd1671⟩ := hw1668
      obtain rfl : (1 : Int32) = r1667 := hd1671.symm
      refine lv_if_ne (tgt := 99) hx hb dX12_land_29 (by decide) (fun c1672 => ?_) (fun c1672 => absurd c1672 (by decide))
      refine lv_iconst (v := 0) hx hb dX12_land_99 (by decide) ?_
      exact W.iret (v := 0) hx hb hr (fun t ht hW => ⟨⟨0, (), rfl, (by exact trivial), by (try dsimp only); rw [ht]; exact ⟨hT, hF⟩⟩, hS.F ht⟩) hS.2.2 dX12_land_100
def w_s_storm : List Cond := .code yX12_storm cX12_storm 5 (some .int) :: ([.fieldLink RX12 194 "SeaLandModel" "thrown" "I", .code yX12_throwsIf cX12_throwsIf 3 (some .boolean), .methodLink RX12 224 yX12_throwsIf, .instanceMethod yX12_throwsIf, .selects RX12 yX12_throwsIf yX12_throwsIf, .initialized RX12, .constant RX12 242 40000, .code yX12_in cX12_in 3 (some .boolean), .methodLink RX12 197 yX12_in, .static yX12_in, .fieldLink RX12 9 "SeaLandModel" "world" "[I", .fieldLink RX12 238 "SeaLandModel" "rows" "I"] ++ bs)
set_option maxHeartbeats 4000000 in
set_option maxRecDepth 100000 in
theorem s_storm (l : Launch) (dC : Nat → ClassId) (dI : Nat → Nat → Nat) (kA : Nat → ClassId) (G : gT) (H0 : Heap) (q : Nat → Nat) (wN wH wB wC : Int) (wL wK : Nat → Prop) (PI : Nat → Int → Prop) (o0 : Nat) (p0 : Int32) (p1 : Int32) (p2 : Int32) (hT : gH (dC, dI) kA (SHm q (wP wN wH wB wC wC wL wK) PI) G H0) (hr_o0 : G o0 = some 0) (hgn : 6500000 ≤ wN ∧ wN ≤ 400000000) (hgh : 0 ≤ wH ∧ wH ≤ 40000) (hgb : 0 ≤ wB ∧ wB ≤ 3850000) (hgc : 0 ≤ wC ∧ wC ≤ 30) : Met l yX12_storm w_s_storm ({ frames := 1, cells := 0, slots := 0, locals := 22 }) (va_Pc [.ref o0, .int p0, .int p1, .int p2] (fun U => U.heap = H0 ∧ va_K (dC, dI) vwCl (tyl kA) U ∧ EV (gA G H0.size) U U.heap)) (va_Qi (fun (r : Int32) (u : Unit) => (-1 ≤ r.toInt ∧ r.toInt ≤ 20)) (fun (_ : Unit) (t : State) => gH (dC, dI) kA (SHm q (wP wN wH wB wC wC wL wK) PI) G t.heap ∧ gF (dC, dI) SKm G ([(0, 0), (0, 9), (2, 0)] : List (Nat × Nat)) H0 t.heap) (gA G H0.size)) 0 0 (gA G H0.size) := by
  refine Met.ofW (cc := cX12_storm) (maxL := 5) (ret := (some .int)) (by decide) rfl ?_
  intro p e s m args below meth c s₁ B hml hv
  obtain ⟨rfl, hH0, hK, hE⟩ := hv
  have hx := B.exec
  have hb := B.bytes
  have hr := B.returns
  have hts := atoms_spec (ws := w_s_storm) B.pre
  have hown : s.vm.findClass RX12 = some m.cls := findClass_of_methodNamed B.named
  have hlocks := B.notSynchronized
  subst hH0
  generalize hAe : gA G s.heap.size = A at hE ⊢
  have hA : ∀ q : Nat, s.heap.size ≤ q → A q := fun q h => by rw [← hAe]; exact Or.inr h
  have hG := gA_of hAe
  have hS : va_S A s.heap s.heap [] := va_S.rf
  have hF : gF (dC, dI) SKm G ([(0, 0), (0, 9), (2, 0)] : List (Nat × Nat)) s.heap s.heap := gF.rf
  have hl := lv_entry ([.ref o0, .int p0, .int p1, .int p2]) (n := 5) (Nat.le_of_ble_eq_true rfl)
  rw [lg_entry_eq]
  generalize (lg_sl ([.ref o0, .int p0, .int p1, .int p2]) ++ List.replicate (5 - (lg_sl ([.ref o0, .int p0, .int p1, .int p2])).length) Slot.unset).toArray = ls at hl ⊢
  have hl : lv_has ls 5 [(0, .ref o0), (1, .int p0), (2, .int p1), (3, .int p2)] := hl
  refine lv_aload_n hx hb dX12_storm_0 rfl (lv_at hl 0 rfl) ?_
  refine lv_iconst (v := 0) hx hb dX12_storm_1 (by decide) ?_
  refine tw_put (v := .int 0) (ty := .int) hx hb hts bF_X12 tyX12 tyX12_ok nmX12 hown hK hT hG hS hr_o0 shm_0 rfl 0 (by decide) (ht_at hts 0 rfl) (fun _ h9 => h9) rfl (by decide +kernel) rfl rfl (gl_at rfl (gi_all _)) dX12_storm_2 (fun H locs hT oq m1 oj hS => ?_)
  have hF := hF.put hr_o0 skm_0 oq oj (by decide)
  refine lv_aload_n hx hb dX12_storm_5 rfl (lv_at hl 0 rfl) ?_
  refine lv_iload_n hx hb dX12_storm_6 rfl (lv_at hl 1 rfl) ?_
  refine lv_if_lt (tgt := 32) hx hb dX12_storm_7 (by decide) (fun c2 => ?_) (fun c2 => ?_)
  · have t3 : p0.toInt < 0 := ti_lt c2 rfl (by decide)
    refine lv_iconst (v := 1) hx hb dX12_storm_32 (by decide) ?_
    refine lv_goto (tgt := 37) hx hb dX12_storm_33 (by decide) ?_
    refine lv_iconst (v := 1) hx hb dX12_storm_37 (by decide) ?_
    have hFc := gA_free hG hA hS
    refine va_calli (va_runV (As := [.int 1, .int 1]) (rest := []) ⟨hx, hb, hml, hown, hts⟩ (s_throwsIf l dC dI kA G H q wN wH wB wC wL wK PI o0 1 1 hT hr_o0 (rg_t (a := 1) (by decide) (by omega) (by omega)) (by omega) (by omega) (by omega) (by omega)) (cwV 2 hts (goodIn_app (goodIn_r _ [3, 4, 5, 6] (by decide +kernel) (by decide +kernel)) (goodIn_ca (goodIn_r _ [2, 1] (by decide +kernel) (by decide +kernel)) (bs_in _ _))) rfl rfl rfl (by decide +kernel) ⟨(Nat.le_of_ble_eq_true rfl), (Nat.le_of_ble_eq_true rfl)⟩) ⟨fun a U g mk q => by obtain ⟨q0, q1, qK, qE⟩ := q; exact ⟨q0, q1, va_K.moved (u := U) (U := U.calling g mk a) (Vm.Alike.refl U.vm) qK, EV.blind g mk a qE⟩, gH_recv hK hT hr_o0 shm_0 rfl, fun U hU hW => ⟨rfl, hU, va_K.moved hW.alike hK, hE.call hS hFc hU hW⟩⟩ rfl rfl hl.1 rfl (lv_room (Nat.le_of_ble_eq_true rfl)) dX12_storm_38 ⟨(Nat.le_of_ble_eq_true rfl), (Nat.le_of_ble_eq_true rfl)⟩) hS (fun q _ h => hFc q h) hFc (fun r4 u t H locs ht hvm hw5 hB _ _ hS => ?_)
    obtain ⟨hT, hF1⟩ := hB
    rw [ht] at hT hF1
    have hF := hF.more hF1 (by decide)
    try dsimp only at hw5
    obtain ⟨h7, hd8⟩ := hw5
    obtain rfl : (1 : Int32) = r4 := hd8.symm
    refine lv_if_eq (tgt := 46) hx hb dX12_storm_41 (by decide) (fun c9 => absurd c9 (by decide)) (fun c9 => ?_)
    refine lv_iconst (v := 0) hx hb dX12_storm_44 (by decide) ?_
    exact W.iret (v := 0) hx hb hr (fun t ht hW => ⟨⟨0, (), rfl, (by exact (rg_t (a := 0) (by decide) (by omega) (by omega))), by (try dsimp only); rw [ht]; exact ⟨hT, hF⟩⟩, hS.F ht⟩) hS.2.2 dX12_storm_45
  · have t10 : 0 ≤ p0.toInt := ti_nlt c2 rfl (by decide)
    refine lv_iload_n hx hb dX12_storm_10 rfl (lv_at hl 2 rfl) ?_
    refine lv_iload_n hx hb dX12_storm_11 rfl (lv_at hl 1 rfl) ?_
    refine lv_icmp_lt (tgt := 32) hx hb dX12_storm_12 (by decide) (fun c11 => ?_) (fun c11 => ?_)
    · have t12 : p1.toInt < p0.toInt := ti_lt c11 rfl rfl
      refine lv_iconst (v := 1) hx hb dX12_storm_32 (by decide) ?_
      refine lv_goto (tgt := 37) hx hb dX12_storm_33 (by decide) ?_
      refine lv_iconst (v := 1) hx hb dX12_storm_37 (by decide) ?_
      have hFc := gA_free hG hA hS
      refine va_calli (va_runV (As := [.int 1, .int 1]) (rest := []) ⟨hx, hb, hml, hown, hts⟩ (s_throwsIf l dC dI kA G H q wN wH wB wC wL wK PI o0 1 1 hT hr_o0 (rg_t (a := 1) (by decide) (by omega) (by omega)) (by omega) (by omega) (by omega) (by omega)) (cwV 2 hts (goodIn_app (goodIn_r _ [3, 4, 5, 6] (by decide +kernel) (by decide +kernel)) (goodIn_ca (goodIn_r _ [2, 1] (by decide +kernel) (by decide +kernel)) (bs_in _ _))) rfl rfl rfl (by decide +kernel) ⟨(Nat.le_of_ble_eq_true rfl), (Nat.le_of_ble_eq_true rfl)⟩) ⟨fun a U g mk q => by obtain ⟨q0, q1, qK, qE⟩ := q; exact ⟨q0, q1, va_K.moved (u := U) (U := U.calling g mk a) (Vm.Alike.refl U.vm) qK, EV.blind g mk a qE⟩, gH_recv hK hT hr_o0 shm_0 rfl, fun U hU hW => ⟨rfl, hU, va_K.moved hW.alike hK, hE.call hS hFc hU hW⟩⟩ rfl rfl hl.1 rfl (lv_room (Nat.le_of_ble_eq_true rfl)) dX12_storm_38 ⟨(Nat.le_of_ble_eq_true rfl), (Nat.le_of_ble_eq_true rfl)⟩) hS (fun q _ h => hFc q h) hFc (fun r13 u t H locs ht hvm hw14 hB _ _ hS => ?_)
      obtain ⟨hT, hF1⟩ := hB
      rw [ht] at hT hF1
      have hF := hF.more hF1 (by decide)
      try dsimp only at hw14
      obtain ⟨h16, hd17⟩ := hw14
      obtain rfl : (1 : Int32) = r13 := hd17.symm
      refine lv_if_eq (tgt := 46) hx hb dX12_storm_41 (by decide) (fun c18 => absurd c18 (by decide)) (fun c18 => ?_)
      refine lv_iconst (v := 0) hx hb dX12_storm_44 (by decide) ?_
      exact W.iret (v := 0) hx hb hr (fun t ht hW => ⟨⟨0, (), rfl, (by exact (rg_t (a := 0) (by decide) (by omega) (by omega))), by (try dsimp only); rw [ht]; exact ⟨hT, hF⟩⟩, hS.F ht⟩) hS.2.2 dX12_storm_45
    · have t19 : p0.toInt ≤ p1.toInt := ti_nlt c11 rfl rfl
      refine lv_iload_n hx hb dX12_storm_15 rfl (lv_at hl 2 rfl) ?_
      refine lv_ldc (v := 40000) hx hb hown (ht_at hts 6 rfl) dX12_storm_16 ?_
      refine lv_icmp_gt (tgt := 32) hx hb dX12_storm_18 (by decide) (fun c20 => ?_) (fun c20 => ?_)
      · have t21 : 40000 < p1.toInt := ti_lt c20 (by decide) rfl
        refine lv_iconst (v := 1) hx hb dX12_storm_32 (by decide) ?_
        refine lv_goto (tgt := 37) hx hb dX12_storm_33 (by decide) ?_
        refine lv_iconst (v := 1) hx hb dX12_storm_37 (by decide) ?_
        have hFc := gA_free hG hA hS
        refine va_calli (va_runV (As := [.int 1, .int 1]) (rest := []) ⟨hx, hb, hml, hown, hts⟩ (s_throwsIf l dC dI kA G H q wN wH wB wC wL wK PI o0 1 1 hT hr_o0 (rg_t (a := 1) (by decide) (by omega) (by omega)) (by omega) (by omega) (by omega) (by omega)) (cwV 2 hts (goodIn_app (goodIn_r _ [3, 4, 5, 6] (by decide +kernel) (by decide +kernel)) (goodIn_ca (goodIn_r _ [2, 1] (by decide +kernel) (by decide +kernel)) (bs_in _ _))) rfl rfl rfl (by decide +kernel) ⟨(Nat.le_of_ble_eq_true rfl), (Nat.le_of_ble_eq_true rfl)⟩) ⟨fun a U g mk q => by obtain ⟨q0, q1, qK, qE⟩ := q; exact ⟨q0, q1, va_K.moved (u := U) (U := U.calling g mk a) (Vm.Alike.refl U.vm) qK, EV.blind g mk a qE⟩, gH_recv hK hT hr_o0 shm_0 rfl, fun U hU hW => ⟨rfl, hU, va_K.moved hW.alike hK, hE.call hS hFc hU hW⟩⟩ rfl rfl hl.1 rfl (lv_room (Nat.le_of_ble_eq_true rfl)) dX12_storm_38 ⟨(Nat.le_of_ble_eq_true rfl), (Nat.le_of_ble_eq_true rfl)⟩) hS (fun q _ h => hFc q h) hFc (fun r22 u t H locs ht hvm hw23 hB _ _ hS => ?_)
        obtain ⟨hT, hF1⟩ := hB
        rw [ht] at hT hF1
        have hF := hF.more hF1 (by decide)
        try dsimp only at hw23
        obtain ⟨h25, hd26⟩ := hw23
        obtain rfl : (1 : Int32) = r22 := hd26.symm
        refine lv_if_eq (tgt := 46) hx hb dX12_storm_41 (by decide) (fun c27 => absurd c27 (by decide)) (fun c27 => ?_)
        refine lv_iconst (v := 0) hx hb dX12_storm_44 (by decide) ?_
        exact W.iret (v := 0) hx hb hr (fun t ht hW => ⟨⟨0, (), rfl, (by exact (rg_t (a := 0) (by decide) (by omega) (by omega))), by (try dsimp only); rw [ht]; exact ⟨hT, hF⟩⟩, hS.F ht⟩) hS.2.2 dX12_storm_45
      · have t28 : p1.toInt ≤ 40000 := ti_nlt c20 (by decide) rfl
        refine lv_iload_n hx hb dX12_storm_21 rfl (lv_at hl 3 rfl) ?_
        refine lv_iconst (v := 1) hx hb dX12_storm_22 (by decide) ?_
        refine lv_sipush (v := 500) hx hb dX12_storm_23 (by decide) ?_
        have hFc := gA_free hG hA hS
        refine va_calli (va_runS (As := [.int p2, .int 1, .int 500]) (rest := [.ref o0]) ⟨hx, hb, hml, hown, hts⟩ (s_in l dC dI kA G H q wN wH wB wC wL wK PI p2 1 500 hT (by omega) (by omega) (by omega) (by omega)) (va_cwS 3 hts (goodIn_app (goodIn_r _ [9, 10, 6] (by decide +kernel) (by decide +kernel)) (goodIn_ca (goodIn_r _ [8] (by decide +kernel) (by decide +kernel)) (bs_in _ _))) rfl rfl rfl (by decide +kernel) ⟨(Nat.le_of_ble_eq_true rfl), (Nat.le_of_ble_eq_true rfl)⟩) ⟨fun a U g mk q => by obtain ⟨q0, q1, qK, qE⟩ := q; exact ⟨q0, q1, va_K.moved (u := U) (U := U.calling g mk a) (Vm.Alike.refl U.vm) qK, EV.blind g mk a qE⟩, fun U hU hW => ⟨rfl, hU, va_K.moved hW.alike hK, hE.call hS hFc hU hW⟩⟩ rfl rfl hl.1 rfl (lv_room (Nat.le_of_ble_eq_true rfl)) dX12_storm_26 ⟨(Nat.le_of_ble_eq_true rfl), (Nat.le_of_ble_eq_true rfl)⟩) hS (fun q _ h => hFc q h) hFc (fun r29 u t H locs ht hvm hw30 hB _ _ hS => ?_)
        obtain ⟨hT, hF1⟩ := hB
        rw [ht] at hT hF1
        have m31 := (hF1.fld hr_o0 skm_0 (k := 0) (by decide) (by decide)).trans m1
        have hF := hF.more hF1 (by decide)
        try dsimp only at hw30
        obtain ⟨h32, hi33, hi34⟩ := hw30
        refine lv_if_ne (tgt := 36) hx hb dX12_storm_29 (by decide) (fun c35 => ?_) (fun c35 => ?_)
        · have t36 : r29.toInt ≠ 0 := ti_ne c35 rfl (by decide)
          have t37 : (1 : Int32).toInt = 1 := by decide
          have t38 : (500 : Int32).toInt = 500 := by decide
          have t39 : (1 : Int32).toInt ≤ p2.toInt ∧ p2.toInt ≤ (500 : Int32).toInt := hi33 ((bit_of ⟨by omega, by omega⟩).resolve_left c35)
          refine lv_iconst (v := 0) hx hb dX12_storm_36 (by decide) ?_
          refine lv_iconst (v := 1) hx hb dX12_storm_37 (by decide) ?_
          have hFc := gA_free hG hA hS
          refine va_calli (va_runV (As := [.int 0, .int 1]) (rest := []) ⟨hx, hb, hml, hown, hts⟩ (s_throwsIf l dC dI kA G H q wN wH wB wC wL wK PI o0 0 1 hT hr_o0 (rg_t (a := 0) (by decide) (by omega) (by omega)) (by omega) (by omega) (by omega) (by omega)) (cwV 2 hts (goodIn_app (goodIn_r _ [3, 4, 5, 6] (by decide +kernel) (by decide +kernel)) (goodIn_ca (goodIn_r _ [2, 1] (by decide +kernel) (by decide +kernel)) (bs_in _ _))) rfl rfl rfl (by decide +kernel) ⟨(Nat.le_of_ble_eq_true rfl), (Nat.le_of_ble_eq_true rfl)⟩) ⟨fun a U g mk q => by obtain ⟨q0, q1, qK, qE⟩ := q; exact ⟨q0, q1, va_K.moved (u := U) (U := U.calling g mk a) (Vm.Alike.refl U.vm) qK, EV.blind g mk a qE⟩, gH_recv hK hT hr_o0 shm_0 rfl, fun U hU hW => ⟨rfl, hU, va_K.moved hW.alike hK, hE.call hS hFc hU hW⟩⟩ rfl rfl hl.1 rfl (lv_room (Nat.le_of_ble_eq_true rfl)) dX12_storm_38 ⟨(Nat.le_of_ble_eq_true rfl), (Nat.le_of_ble_eq_true rfl)⟩) hS (fun q _ h => hFc q h) hFc (fun r40 u t H locs ht hvm hw41 hB _ _ hS => ?_)
          obtain ⟨hT, hF1⟩ := hB
          rw [ht] at hT hF1
          have hF := hF.more hF1 (by decide)
          try dsimp only at hw41
          obtain ⟨h43, hd44⟩ := hw41
          obtain rfl : (0 : Int32) = r40 := hd44.symm
          refine lv_if_eq (tgt := 46) hx hb dX12_storm_41 (by decide) (fun c45 => ?_) (fun c45 => absurd c45 (by decide))
          refine lv_aload_n hx hb dX12_storm_46 rfl (lv_at hl 0 rfl) ?_
          refine tw_get hx hb hts bF_X12 hown hK hT hr_o0 shm_0 rfl 1 (by decide) (ht_at hts 10 rfl) (fun _ h9 => h9) dX12_storm_47 (fun v9 m46 h9 => ?_)
          obtain ⟨rfl, hg47⟩ := h9 _ rfl
          refine lv_sipush (v := 1442) hx hb dX12_storm_50 (by decide) ?_
          refine tw_iald (i := 1442) hx hb hK hT hg47 shm_2 rfl (by unfold vp_in; decide) dX12_storm_53 (fun v9 m48 h9 => ?_)
          obtain ⟨x49, rfl, gx49, kx49⟩ := (gp_at h9 (w_stc (by have q9 := tn_of (show (1442 : Int32).toInt = 1442 from (by decide)) (show (0 : Int) ≤ 1442 from by omega); omega)))
          refine lv_istore (lv' := [(4, .int x49), (0, .ref o0), (1, .int p0), (2, .int p1), (3, .int p2)]) hx hb dX12_storm_54 hl (by decide) rfl (fun ls hl => ?_)
          refine lv_iload hx hb dX12_storm_56 (lv_at hl 0 rfl) ?_
          refine lv_bipush (v := 20) hx hb dX12_storm_58 (by decide) ?_
          refine lv_icmp_ne (tgt := 65) hx hb dX12_storm_60 (by decide) (fun c50 => ?_) (fun c50 => ?_)
          · have t51 : x49.toInt ≠ 20 := ti_ne c50 rfl (by decide)
            refine lv_aload_n hx hb dX12_storm_65 rfl (lv_at hl 1 rfl) ?_
            refine tw_get hx hb hts bF_X12 hown hK hT hr_o0 shm_0 rfl 1 (by decide) (ht_at hts 10 rfl) (fun _ h9 => h9) dX12_storm_66 (fun v9 m52 h9 => ?_)
            obtain ⟨rfl, hg53⟩ := h9 _ rfl
            refine lv_sipush (v := 1443) hx hb dX12_storm_69 (by decide) ?_
            refine lv_iconst (v := 3) hx hb dX12_storm_72 (by decide) ?_
            refine lv_iload hx hb dX12_storm_73 (lv_at hl 0 rfl) ?_
            refine lv_imul hx hb dX12_storm_75 ?_
            refine lv_topi (fun x54 ex54 => ?_)
            have t55 : x54.toInt = 3 * x49.toInt := ti_mul ex54 (by decide) rfl (by omega) (by omega)
            refine lv_iadd hx hb dX12_storm_76 ?_
            refine lv_topi (fun x56 ex56 => ?_)
            have t57 : x56.toInt = 1443 + x54.toInt := ti_add ex56 (by decide) rfl (by omega) (by omega)
            refine lv_iload_n hx hb dX12_storm_77 rfl (lv_at hl 2 rfl) ?_
            refine tw_iast (i := x56) (x := p0) hx hb hK hT hG hS hg47 shm_2 rfl (vin_t (a := x56.toInt) rfl (by omega) (by omega)) (gp_of (gi_all _) (w_fre (by have q9 := tn_of (show x56.toInt = x56.toInt from rfl) (show (0 : Int) ≤ x56.toInt from by omega); omega)) (wX_o (by have q9 := tn_of (show x56.toInt = x56.toInt from rfl) (show (0 : Int) ≤ x56.toInt from by omega); omega) (by omega))) dX12_storm_78 (fun H locs hT oq m58 oi hS => ?_)
            have hF := hF.ast hg47 skm_2 oq (by decide)
            have m59 := (oi _ (tn_ne (show (1442 : Int32).toInt = 1442 from (by decide)) (show x56.toInt = x56.toInt from rfl) (by omega) (by omega) (by omega))).trans m48
            refine lv_aload_n hx hb dX12_storm_79 rfl (lv_at hl 1 rfl) ?_
            refine tw_get hx hb hts bF_X12 hown hK hT hr_o0 shm_0 rfl 1 (by decide) (ht_at hts 10 rfl) (fun _ h9 => h9) dX12_storm_80 (fun v9 m60 h9 => ?_)
            obtain ⟨rfl, hg61⟩ := h9 _ rfl
            refine lv_sipush (v := 1443) hx hb dX12_storm_83 (by decide) ?_
            refine lv_iconst (v := 3) hx hb dX12_storm_86 (by decide) ?_
            refine lv_iload hx hb dX12_storm_87 (lv_at hl 0 rfl) ?_
            refine lv_imul hx hb dX12_storm_89 ?_
            refine lv_topi (fun x62 ex62 => ?_)
            have t63 : x62.toInt = 3 * x49.toInt := ti_mul ex62 (by decide) rfl (by omega) (by omega)
            refine lv_iadd hx hb dX12_storm_90 ?_
            refine lv_topi (fun x64 ex64 => ?_)
            have t65 : x64.toInt = 1443 + x62.toInt := ti_add ex64 (by decide) rfl (by omega) (by omega)
            refine lv_iconst (v := 1) hx hb dX12_storm_91 (by decide) ?_
            refine lv_iadd hx hb dX12_storm_92 ?_
            refine lv_topi (fun x66 ex66 => ?_)
            have t67 : x66.toInt = x64.toInt + 1 := ti_add ex66 rfl (by decide) (by omega) (by omega)
            refine lv_iload_n hx hb dX12_storm_93 rfl (lv_at hl 3 rfl) ?_
            refine tw_iast (i := x66) (x := p1) hx hb hK hT hG hS hg47 shm_2 rfl (vin_t (a := x66.toInt) rfl (by omega) (by omega)) (gp_of (gi_all _) (w_fre (by have q9 := tn_of (show x66.toInt = x66.toInt from rfl) (show (0 : Int) ≤ x66.toInt from by omega); omega)) (wX_o (by have q9 := tn_of (show x66.toInt = x66.toInt from rfl) (show (0 : Int) ≤ x66.toInt from by omega); omega) (by omega))) dX12_storm_94 (fun H locs hT oq m68 oi hS => ?_)
            have hF := hF.ast hg47 skm_2 oq (by decide)
            have m69 := (oi _ (tn_ne (show (1442 : Int32).toInt = 1442 from (by decide)) (show x66.toInt = x66.toInt from rfl) (by omega) (by omega) (by omega))).trans m59
            have m70 := (oi _ (tn_ne (show x56.toInt = x56.toInt from rfl) (show x66.toInt = x66.toInt from rfl) (by omega) (by omega) (by omega))).trans m58
            refine lv_aload_n hx hb dX12_storm_95 rfl (lv_at hl 1 rfl) ?_
            refine tw_get hx hb hts bF_X12 hown hK hT hr_o0 shm_0 rfl 1 (by decide) (ht_at hts 10 rfl) (fun _ h9 => h9) dX12_storm_96 (fun v9 m71 h9 => ?_)
            obtain ⟨rfl, hg72⟩ := h9 _ rfl
            refine lv_sipush (v := 1443) hx hb dX12_storm_99 (by decide) ?_
            refine lv_iconst (v := 3) hx hb dX12_storm_102 (by decide) ?_
            refine lv_iload hx hb dX12_storm_103 (lv_at hl 0 rfl) ?_
            refine lv_imul hx hb dX12_storm_105 ?_
            refine lv_topi (fun x73 ex73 => ?_)
            have t74 : x73.toInt = 3 * x49.toInt := ti_mul ex73 (by decide) rfl (by omega) (by omega)
            refine lv_iadd hx hb dX12_storm_106 ?_
            refine lv_topi (fun x75 ex75 => ?_)
            have t76 : x75.toInt = 1443 + x73.toInt := ti_add ex75 (by decide) rfl (by omega) (by omega)
            refine lv_iconst (v := 2) hx hb dX12_storm_107 (by decide) ?_
            refine lv_iadd hx hb dX12_storm_108 ?_
            refine lv_topi (fun x77 ex77 => ?_)
            have t78 : x77.toInt = x75.toInt + 2 := ti_add ex77 rfl (by decide) (by omega) (by omega)
            refine lv_iload_n hx hb dX12_storm_109 rfl (lv_at hl 4 rfl) ?_
            refine tw_iast (i := x77) (x := p2) hx hb hK hT hG hS hg47 shm_2 rfl (vin_t (a := x77.toInt) rfl (by omega) (by omega)) (gp_of (gi_of (show p2.toInt = p2.toInt from rfl) (by omega) (by omega)) (w_stm (by have q9 := tn_of (show x77.toInt = x77.toInt from rfl) (show (0 : Int) ≤ x77.toInt from by omega); omega)) (wX_o (by have q9 := tn_of (show x77.toInt = x77.toInt from rfl) (show (0 : Int) ≤ x77.toInt from by omega); omega) (by omega))) dX12_storm_110 (fun H locs hT oq m79 oi hS => ?_)
            have hF := hF.ast hg47 skm_2 oq (by decide)
            have m80 := (oi _ (tn_ne (show (1442 : Int32).toInt = 1442 from (by decide)) (show x77.toInt = x77.toInt from rfl) (by omega) (by omega) (by omega))).trans m69
            have m81 := (oi _ (tn_ne (show x56.toInt = x56.toInt from rfl) (show x77.toInt = x77.toInt from rfl) (by omega) (by omega) (by omega))).trans m70
            have m82 := (oi _ (tn_ne (show x66.toInt = x66.toInt from rfl) (show x77.toInt = x77.toInt from rfl) (by omega) (by omega) (by omega))).trans m68
            refine lv_aload_n hx hb dX12_storm_111 rfl (lv_at hl 1 rfl) ?_
            refine tw_get hx hb hts bF_X12 hown hK hT hr_o0 shm_0 rfl 1 (by decide) (ht_at hts 10 rfl) (fun _ h9 => h9) dX12_storm_112 (fun v9 m83 h9 => ?_)
            obtain ⟨rfl, hg84⟩ := h9 _ rfl
            refine lv_sipush (v := 1442) hx hb dX12_storm_115 (by decide) ?_
            refine lv_dup2_11 hx hb dX12_storm_118 rfl rfl ?_
            refine tw_iald (i := 1442) hx hb hK hT hg47 shm_2 rfl (by unfold vp_in; decide) dX12_storm_119 (fun v9 m85 h9 => ?_)
            obtain ⟨x86, rfl, gx86, kx86⟩ := (gp_at h9 (w_stc (by have q9 := tn_of (show (1442 : Int32).toInt = 1442 from (by decide)) (show (0 : Int) ≤ 1442 from by omega); omega)))
            obtain rfl : x49 = x86 := (el_same m85 m80 rfl).symm
            refine lv_iconst (v := 1) hx hb dX12_storm_120 (by decide) ?_
            refine lv_iadd hx hb dX12_storm_121 ?_
            refine lv_topi (fun x87 ex87 => ?_)
            have t88 : x87.toInt = x49.toInt + 1 := ti_add ex87 rfl (by decide) (by omega) (by omega)
            refine tw_iast (i := 1442) (x := x87) hx hb hK hT hG hS hg47 shm_2 rfl (by unfold vp_in; decide) (gp_of (gi_of (show x87.toInt = x87.toInt from rfl) (by omega) (by omega)) (w_stc (by have q9 := tn_of (show (1442 : Int32).toInt = 1442 from (by decide)) (show (0 : Int) ≤ 1442 from by omega); omega)) (wX_o (by have q9 := tn_of (show (1442 : Int32).toInt = 1442 from (by decide)) (show (0 : Int) ≤ 1442 from by omega); omega) (by omega))) dX12_storm_122 (fun H locs hT oq m89 oi hS => ?_)
            have hF := hF.ast hg47 skm_2 oq (by decide)
            have m90 := (oi _ (tn_ne (show x56.toInt = x56.toInt from rfl) (show (1442 : Int32).toInt = 1442 from (by decide)) (by omega) (by omega) (by omega))).trans m81
            have m91 := (oi _ (tn_ne (show x66.toInt = x66.toInt from rfl) (show (1442 : Int32).toInt = 1442 from (by decide)) (by omega) (by omega) (by omega))).trans m82
            have m92 := (oi _ (tn_ne (show x77.toInt = x77.toInt from rfl) (show (1442 : Int32).toInt = 1442 from (by decide)) (by omega) (by omega) (by omega))).trans m79
            refine lv_aload_n hx hb dX12_storm_123 rfl (lv_at hl 1 rfl) ?_
            refine lv_iconst (v := 0) hx hb dX12_storm_124 (by decide) ?_
            refine tw_put (v := .int 0) (ty := .int) hx hb hts bF_X12 tyX12 tyX12_ok nmX12 hown hK hT hG hS hr_o0 shm_0 rfl 9 (by decide) (ht_at hts 11 rfl) (fun _ h9 => h9) rfl (by decide +kernel) rfl rfl (gl_at rfl (gi_of (show (0 : Int32).toInt = 0 from (by decide)) (by omega) (by omega))) dX12_storm_125 (fun H locs hT oq m93 oj hS => ?_)
            have hF := hF.put hr_o0 skm_0 oq oj (by decide)
            have m94 := (el_kept (oq _ (gne hg47 hr_o0 (by decide)))).trans m90
            have m95 := (el_kept (oq _ (gne hg47 hr_o0 (by decide)))).trans m91
            have m96 := (el_kept (oq _ (gne hg47 hr_o0 (by decide)))).trans m92
            have m97 := (el_kept (oq _ (gne hg47 hr_o0 (by decide)))).trans m89
            refine lv_iload hx hb dX12_storm_128 (lv_at hl 0 rfl) ?_
            refine lv_iconst (v := 1) hx hb dX12_storm_130 (by decide) ?_
            refine lv_iadd hx hb dX12_storm_131 ?_
            refine lv_topi (fun x98 ex98 => ?_)
            have t99 : x98.toInt = x49.toInt + 1 := ti_add ex98 rfl (by decide) (by omega) (by omega)
            exact W.iret (v := x98) hx hb hr (fun t ht hW => ⟨⟨x98, (), rfl, (by exact (rg_t (a := x98.toInt) rfl (by have q8 := ti_all x98; omega) (by have q8 := ti_all x98; omega))), by (try dsimp only); rw [ht]; exact ⟨hT, hF⟩⟩, hS.F ht⟩) hS.2.2 dX12_storm_132
          · have t100 : x49.toInt = 20 := ti_eq c50 rfl (by decide)
            refine lv_iconst (v := (-1)) hx hb dX12_storm_63 (by decide) ?_
            exact W.iret (v := (-1)) hx hb hr (fun t ht hW => ⟨⟨(-1), (), rfl, (by exact (rg_t (a := (-1)) (by decide) (by omega) (by omega))), by (try dsimp only); rw [ht]; exact ⟨hT, hF⟩⟩, hS.F ht⟩) hS.2.2 dX12_storm_64
        · have t101 : r29.toInt = 0 := ti_eq c35 rfl (by decide)
          have t102 : (1 : Int32).toInt = 1 := by decide
          have t103 : (500 : Int32).toInt = 500 := by decide
          have t104 : p2.toInt < (1 : Int32).toInt ∨ (500 : Int32).toInt < p2.toInt := hi34 c35
          refine lv_iconst (v := 1) hx hb dX12_storm_32 (by decide) ?_
          refine lv_goto (tgt := 37) hx hb dX12_storm_33 (by decide) ?_
          refine lv_iconst (v := 1) hx hb dX12_storm_37 (by decide) ?_
          have hFc := gA_free hG hA hS
          refine va_calli (va_runV (As := [.int 1, .int 1]) (rest := []) ⟨hx, hb, hml, hown, hts⟩ (s_throwsIf l dC dI kA G H q wN wH wB wC wL wK PI o0 1 1 hT hr_o0 (rg_t (a := 1) (by decide) (by omega) (by omega)) (by omega) (by omega) (by omega) (by omega)) (cwV 2 hts (goodIn_app (goodIn_r _ [3, 4, 5, 6] (by decide +kernel) (by decide +kernel)) (goodIn_ca (goodIn_r _ [2, 1] (by decide +kernel) (by decide +kernel)) (bs_in _ _))) rfl rfl rfl (by decide +kernel) ⟨(Nat.le_of_ble_eq_true rfl), (Nat.le_of_ble_eq_true rfl)⟩) ⟨fun a U g mk q => by obtain ⟨q0, q1, qK, qE⟩ := q; exact ⟨q0, q1, va_K.moved (u := U) (U := U.calling g mk a) (Vm.Alike.refl U.vm) qK, EV.blind g mk a qE⟩, gH_recv hK hT hr_o0 shm_0 rfl, fun U hU hW => ⟨rfl, hU, va_K.moved hW.alike hK, hE.call hS hFc hU hW⟩⟩ rfl rfl hl.1 rfl (lv_room (Nat.le_of_ble_eq_true rfl)) dX12_storm_38 ⟨(Nat.le_of_ble_eq_true rfl), (Nat.le_of_ble_eq_true rfl)⟩) hS (fun q _ h => hFc q h) hFc (fun r105 u t H locs ht hvm hw106 hB _ _ hS => ?_)
          obtain ⟨hT, hF1⟩ := hB
          rw [ht] at hT hF1
          have hF := hF.more hF1 (by decide)
          try dsimp only at hw106
          obtain ⟨h108, hd109⟩ := hw106
          obtain rfl : (1 : Int32) = r105 := hd109.symm
          refine lv_if_eq (tgt := 46) hx hb dX12_storm_41 (by decide) (fun c110 => absurd c110 (by decide)) (fun c110 => ?_)
          refine lv_iconst (v := 0) hx hb dX12_storm_44 (by decide) ?_
          exact W.iret (v := 0) hx hb hr (fun t ht hW => ⟨⟨0, (), rfl, (by exact (rg_t (a := 0) (by decide) (by omega) (by omega))), by (try dsimp only); rw [ht]; exact ⟨hT, hF⟩⟩, hS.F ht⟩) hS.2.2 dX12_storm_45
def w_s_tear : List Cond := .code yX12_tear cX12_tear 4 (some .int) :: ([.fieldLink RX12 194 "SeaLandModel" "thrown" "I", .code yX12_noSquare cX12_noSquare 1 (some .boolean), .code yX12_in cX12_in 3 (some .boolean), .methodLink RX12 197 yX12_in, .static yX12_in, .initialized RX12, .methodLink RX12 220 yX12_noSquare, .static yX12_noSquare, .code yX12_throwsIf cX12_throwsIf 3 (some .boolean), .methodLink RX12 224 yX12_throwsIf, .instanceMethod yX12_throwsIf, .selects RX12 yX12_throwsIf yX12_throwsIf, .fieldLink RX12 238 "SeaLandModel" "rows" "I", .fieldLink RX12 25 "SeaLandModel" "rowTold" "[I"] ++ bs)
set_option maxHeartbeats 4000000 in
set_option maxRecDepth 100000 in
theorem s_tear (l : Launch) (dC : Nat → ClassId) (dI : Nat → Nat → Nat) (kA : Nat → ClassId) (G : gT) (H0 : Heap) (q : Nat → Nat) (wN wH wB wC : Int) (wL wK : Nat → Prop) (PI : Nat → Int → Prop) (o0 : Nat) (p0 : Int32) (p1 : Int32) (p2 : Int32) (hT : gH (dC, dI) kA (SHm q (wP wN wH wB wC wC wL wK) PI) G H0) (hr_o0 : G o0 = some 0) (hgn : 6500000 ≤ wN ∧ wN ≤ 400000000) (hgh : 0 ≤ wH ∧ wH ≤ 40000) (hgb : 0 ≤ wB ∧ wB ≤ 3850000) (hgc : 0 ≤ wC ∧ wC ≤ 30) : Met l yX12_tear w_s_tear ({ frames := 2, cells := 0, slots := 0, locals := 42 }) (va_Pc [.ref o0, .int p0, .int p1, .int p2] (fun U => U.heap = H0 ∧ va_K (dC, dI) vwCl (tyl kA) U ∧ EV (gA G H0.size) U U.heap)) (va_Qi (fun (r : Int32) (u : Unit) => True) (fun (_ : Unit) (t : State) => gH (dC, dI) kA (SHm q (wP wN wH wB wC wC wL wK) PI) G t.heap ∧ gF (dC, dI) SKm G ([(0, 0), (8, 0)] : List (Nat × Nat)) H0 t.heap) (gA G H0.size)) 0 0 (gA G H0.size) := by
  refine Met.ofW (cc := cX12_tear) (maxL := 4) (ret := (some .int)) (by decide) rfl ?_
  intro p e s m args below meth c s₁ B hml hv
  obtain ⟨rfl, hH0, hK, hE⟩ := hv
  have hx := B.exec
  have hb := B.bytes
  have hr := B.returns
  have hts := atoms_spec (ws := w_s_tear) B.pre
  have hown : s.vm.findClass RX12 = some m.cls := findClass_of_methodNamed B.named
  have hlocks := B.notSynchronized
  subst hH0
  generalize hAe : gA G s.heap.size = A at hE ⊢
  have hA : ∀ q : Nat, s.heap.size ≤ q → A q := fun q h => by rw [← hAe]; exact Or.inr h
  have hG := gA_of hAe
  have hS : va_S A s.heap s.heap [] := va_S.rf
  have hF : gF (dC, dI) SKm G ([(0, 0), (8, 0)] : List (Nat × Nat)) s.heap s.heap := gF.rf
  have hl := lv_entry ([.ref o0, .int p0, .int p1, .int p2]) (n := 4) (Nat.le_of_ble_eq_true rfl)
  rw [lg_entry_eq]
  generalize (lg_sl ([.ref o0, .int p0, .int p1, .int p2]) ++ List.replicate (4 - (lg_sl ([.ref o0, .int p0, .int p1, .int p2])).length) Slot.unset).toArray = ls at hl ⊢
  have hl : lv_has ls 4 [(0, .ref o0), (1, .int p0), (2, .int p1), (3, .int p2)] := hl
  refine lv_aload_n hx hb dX12_tear_0 rfl (lv_at hl 0 rfl) ?_
  refine lv_iconst (v := 0) hx hb dX12_tear_1 (by decide) ?_
  refine tw_put (v := .int 0) (ty := .int) hx hb hts bF_X12 tyX12 tyX12_ok nmX12 hown hK hT hG hS hr_o0 shm_0 rfl 0 (by decide) (ht_at hts 0 rfl) (fun _ h9 => h9) rfl (by decide +kernel) rfl rfl (gl_at rfl (gi_all _)) dX12_tear_2 (fun H locs hT oq m1 oj hS => ?_)
  have hF := hF.put hr_o0 skm_0 oq oj (by decide)
  refine lv_aload_n hx hb dX12_tear_5 rfl (lv_at hl 0 rfl) ?_
  refine lv_iload_n hx hb dX12_tear_6 rfl (lv_at hl 2 rfl) ?_
  have hFc := gA_free hG hA hS
  refine va_calli (va_runS (As := [.int p1]) (rest := [.ref o0]) ⟨hx, hb, hml, hown, hts⟩ (s_noSquare l dC dI kA G H q wN wH wB wC wL wK PI p1 hT (by omega) (by omega) (by omega) (by omega)) (va_cwS 1 hts (goodIn_app (goodIn_r _ [7, 8, 6] (by decide +kernel) (by decide +kernel)) (goodIn_ca (goodIn_r _ [2, 3, 4, 5, 6] (by decide +kernel) (by decide +kernel)) (bs_in _ _))) rfl rfl rfl (by decide +kernel) ⟨(Nat.le_of_ble_eq_true rfl), (Nat.le_of_ble_eq_true rfl)⟩) ⟨fun a U g mk q => by obtain ⟨q0, q1, qK, qE⟩ := q; exact ⟨q0, q1, va_K.moved (u := U) (U := U.calling g mk a) (Vm.Alike.refl U.vm) qK, EV.blind g mk a qE⟩, fun U hU hW => ⟨rfl, hU, va_K.moved hW.alike hK, hE.call hS hFc hU hW⟩⟩ rfl rfl hl.1 rfl (lv_room (Nat.le_of_ble_eq_true rfl)) dX12_tear_7 ⟨(Nat.le_of_ble_eq_true rfl), (Nat.le_of_ble_eq_true rfl)⟩) hS (fun q _ h => hFc q h) hFc (fun r2 u t H locs ht hvm hw3 hB _ _ hS => ?_)
  obtain ⟨hT, hF1⟩ := hB
  rw [ht] at hT hF1
  have m4 := (hF1.fld hr_o0 skm_0 (k := 0) (by decide) (by decide)).trans m1
  have hF := hF.more hF1 (by decide)
  try dsimp only at hw3
  obtain ⟨h5, hi6⟩ := hw3
  refine lv_iconst (v := 1) hx hb dX12_tear_10 (by decide) ?_
  have hFc := gA_free hG hA hS
  refine va_calli (va_runV (As := [.int r2, .int 1]) (rest := []) ⟨hx, hb, hml, hown, hts⟩ (s_throwsIf l dC dI kA G H q wN wH wB wC wL wK PI o0 r2 1 hT hr_o0 (rg_t (a := r2.toInt) rfl (by have q8 := ti_all r2; omega) (by have q8 := ti_all r2; omega)) (by omega) (by omega) (by omega) (by omega)) (cwV 2 hts (goodIn_app (goodIn_r _ [10, 11, 12, 6] (by decide +kernel) (by decide +kernel)) (goodIn_ca (goodIn_r _ [9, 1] (by decide +kernel) (by decide +kernel)) (bs_in _ _))) rfl rfl rfl (by decide +kernel) ⟨(Nat.le_of_ble_eq_true rfl), (Nat.le_of_ble_eq_true rfl)⟩) ⟨fun a U g mk q => by obtain ⟨q0, q1, qK, qE⟩ := q; exact ⟨q0, q1, va_K.moved (u := U) (U := U.calling g mk a) (Vm.Alike.refl U.vm) qK, EV.blind g mk a qE⟩, gH_recv hK hT hr_o0 shm_0 rfl, fun U hU hW => ⟨rfl, hU, va_K.moved hW.alike hK, hE.call hS hFc hU hW⟩⟩ rfl rfl hl.1 rfl (lv_room (Nat.le_of_ble_eq_true rfl)) dX12_tear_11 ⟨(Nat.le_of_ble_eq_true rfl), (Nat.le_of_ble_eq_true rfl)⟩) hS (fun q _ h => hFc q h) hFc (fun r7 u t H locs ht hvm hw8 hB _ _ hS => ?_)
  obtain ⟨hT, hF1⟩ := hB
  rw [ht] at hT hF1
  have hF := hF.more hF1 (by decide)
  try dsimp only at hw8
  obtain ⟨h10, hd11⟩ := hw8
  obtain rfl : r2 = r7 := hd11.symm
  refine lv_if_ne (tgt := 44) hx hb dX12_tear_14 (by decide) (fun c12 => ?_) (fun c12 => ?_)
  · have t13 : r2.toInt ≠ 0 := ti_ne c12 rfl (by decide)
    refine lv_iconst (v := 0) hx hb dX12_tear_44 (by decide) ?_
    exact W.iret (v := 0) hx hb hr (fun t ht hW => ⟨⟨0, (), rfl, (by exact trivial), by (try dsimp only); rw [ht]; exact ⟨hT, hF⟩⟩, hS.F ht⟩) hS.2.2 dX12_tear_45
  · have t14 : r2.toInt = 0 := ti_eq c12 rfl (by decide)
    have t15 : 0 ≤ p1.toInt ∧ p1.toInt ≤ 95 := hi6 c12
    refine lv_aload_n hx hb dX12_tear_17 rfl (lv_at hl 0 rfl) ?_
    refine lv_iload_n hx hb dX12_tear_18 rfl (lv_at hl 1 rfl) ?_
    refine lv_iconst (v := 0) hx hb dX12_tear_19 (by decide) ?_
    refine lv_aload_n hx hb dX12_tear_20 rfl (lv_at hl 0 rfl) ?_
    refine tw_get hx hb hts bF_X12 hown hK hT hr_o0 shm_0 rfl 9 (by decide) (ht_at hts 12 rfl) (fun _ h9 => h9) dX12_tear_21 (fun v9 m16 h9 => ?_)
    obtain ⟨x17, rfl, gx17, kx17⟩ := h9 _ rfl
    refine lv_iconst (v := 1) hx hb dX12_tear_24 (by decide) ?_
    refine lv_isub hx hb dX12_tear_25 ?_
    refine lv_topi (fun x18 ex18 => ?_)
    have t19 : x18.toInt = x17.toInt - 1 := ti_sub ex18 rfl (by decide) (by omega) (by omega)
    have hFc := gA_free hG hA hS
    refine va_calli (va_runS (As := [.int p0, .int 0, .int x18]) (rest := [.ref o0]) ⟨hx, hb, hml, hown, hts⟩ (s_in l dC dI kA G H q wN wH wB wC wL wK PI p0 0 x18 hT (by omega) (by omega) (by omega) (by omega)) (va_cwS 3 hts (goodIn_app (goodIn_r _ [4, 5, 6] (by decide +kernel) (by decide +kernel)) (goodIn_ca (goodIn_r _ [3] (by decide +kernel) (by decide +kernel)) (bs_in _ _))) rfl rfl rfl (by decide +kernel) ⟨(Nat.le_of_ble_eq_true rfl), (Nat.le_of_ble_eq_true rfl)⟩) ⟨fun a U g mk q => by obtain ⟨q0, q1, qK, qE⟩ := q; exact ⟨q0, q1, va_K.moved (u := U) (U := U.calling g mk a) (Vm.Alike.refl U.vm) qK, EV.blind g mk a qE⟩, fun U hU hW => ⟨rfl, hU, va_K.moved hW.alike hK, hE.call hS hFc hU hW⟩⟩ rfl rfl hl.1 rfl (lv_room (Nat.le_of_ble_eq_true rfl)) dX12_tear_26 ⟨(Nat.le_of_ble_eq_true rfl), (Nat.le_of_ble_eq_true rfl)⟩) hS (fun q _ h => hFc q h) hFc (fun r20 u t H locs ht hvm hw21 hB _ _ hS => ?_)
    obtain ⟨hT, hF1⟩ := hB
    rw [ht] at hT hF1
    have m22 := (hF1.fld hr_o0 skm_0 (k := 9) (by decide) (by decide)).trans m16
    have hF := hF.more hF1 (by decide)
    try dsimp only at hw21
    obtain ⟨h23, hi24, hi25⟩ := hw21
    refine lv_if_ne (tgt := 36) hx hb dX12_tear_29 (by decide) (fun c26 => ?_) (fun c26 => ?_)
    · have t27 : r20.toInt ≠ 0 := ti_ne c26 rfl (by decide)
      have t28 : (0 : Int32).toInt = 0 := by decide
      have t29 : (0 : Int32).toInt ≤ p0.toInt ∧ p0.toInt ≤ x18.toInt := hi24 ((bit_of ⟨by omega, by omega⟩).resolve_left c26)
      refine lv_iconst (v := 0) hx hb dX12_tear_36 (by decide) ?_
      refine lv_iconst (v := 2) hx hb dX12_tear_37 (by decide) ?_
      have hFc := gA_free hG hA hS
      refine va_calli (va_runV (As := [.int 0, .int 2]) (rest := []) ⟨hx, hb, hml, hown, hts⟩ (s_throwsIf l dC dI kA G H q wN wH wB wC wL wK PI o0 0 2 hT hr_o0 (rg_t (a := 0) (by decide) (by omega) (by omega)) (by omega) (by omega) (by omega) (by omega)) (cwV 2 hts (goodIn_app (goodIn_r _ [10, 11, 12, 6] (by decide +kernel) (by decide +kernel)) (goodIn_ca (goodIn_r _ [9, 1] (by decide +kernel) (by decide +kernel)) (bs_in _ _))) rfl rfl rfl (by decide +kernel) ⟨(Nat.le_of_ble_eq_true rfl), (Nat.le_of_ble_eq_true rfl)⟩) ⟨fun a U g mk q => by obtain ⟨q0, q1, qK, qE⟩ := q; exact ⟨q0, q1, va_K.moved (u := U) (U := U.calling g mk a) (Vm.Alike.refl U.vm) qK, EV.blind g mk a qE⟩, gH_recv hK hT hr_o0 shm_0 rfl, fun U hU hW => ⟨rfl, hU, va_K.moved hW.alike hK, hE.call hS hFc hU hW⟩⟩ rfl rfl hl.1 rfl (lv_room (Nat.le_of_ble_eq_true rfl)) dX12_tear_38 ⟨(Nat.le_of_ble_eq_true rfl), (Nat.le_of_ble_eq_true rfl)⟩) hS (fun q _ h => hFc q h) hFc (fun r30 u t H locs ht hvm hw31 hB _ _ hS => ?_)
      obtain ⟨hT, hF1⟩ := hB
      rw [ht] at hT hF1
      have m32 := (hF1.fld hr_o0 skm_0 (k := 9) (by decide) (by decide)).trans m22
      have hF := hF.more hF1 (by decide)
      try dsimp only at hw31
      obtain ⟨h33, hd34⟩ := hw31
      obtain rfl : (0 : Int32) = r30 := hd34.symm
      refine lv_if_eq (tgt := 46) hx hb dX12_tear_41 (by decide) (fun c35 => ?_) (fun c35 => absurd c35 (by decide))
      refine lv_aload_n hx hb dX12_tear_46 rfl (lv_at hl 0 rfl) ?_
      refine tw_get hx hb hts bF_X12 hown hK hT hr_o0 shm_0 rfl 7 (by decide) (ht_at hts 13 rfl) (fun _ h9 => h9) dX12_tear_47 (fun v9 m36 h9 => ?_)
      obtain ⟨rfl, hg37⟩ := h9 _ rfl
      refine lv_bipush (v := 96) hx hb dX12_tear_50 (by decide) ?_
      refine lv_iload_n hx hb dX12_tear_52 rfl (lv_at hl 1 rfl) ?_
      refine lv_imul hx hb dX12_tear_53 ?_
      refine lv_topi (fun x38 ex38 => ?_)
      have t39 : x38.toInt = 96 * p0.toInt := ti_mul ex38 (by decide) rfl (by omega) (by omega)
      refine lv_iload_n hx hb dX12_tear_54 rfl (lv_at hl 2 rfl) ?_
      refine lv_iadd hx hb dX12_tear_55 ?_
      refine lv_topi (fun x40 ex40 => ?_)
      have t41 : x40.toInt = x38.toInt + p1.toInt := ti_add ex40 rfl rfl (by omega) (by omega)
      refine lv_dup2_11 hx hb dX12_tear_56 rfl rfl ?_
      refine tw_iald (i := x40) hx hb hK hT hg37 shm_8 rfl (vin_t (a := x40.toInt) rfl (by omega) (by omega)) dX12_tear_57 (fun v9 m42 h9 => ?_)
      obtain ⟨x43, rfl, gx43, kx43⟩ := h9
      refine lv_iload_n hx hb dX12_tear_58 rfl (lv_at hl 3 rfl) ?_
      refine lv_ixor hx hb dX12_tear_59 ?_
      refine lv_topi (fun x44 ex44 => ?_)
      refine tw_iast (i := x40) (x := x44) hx hb hK hT hG hS hg37 shm_8 rfl (vin_t (a := x40.toInt) rfl (by omega) (by omega)) (gi_all _) dX12_tear_60 (fun H locs hT oq m45 oi hS => ?_)
      have hF := hF.ast hg37 skm_8 oq (by decide)
      have m46 := (el_kept (oq _ (gne hr_o0 hg37 (by decide)))).trans m32
      refine lv_aload_n hx hb dX12_tear_61 rfl (lv_at hl 0 rfl) ?_
      refine tw_get hx hb hts bF_X12 hown hK hT hr_o0 shm_0 rfl 7 (by decide) (ht_at hts 13 rfl) (fun _ h9 => h9) dX12_tear_62 (fun v9 m47 h9 => ?_)
      obtain ⟨rfl, hg48⟩ := h9 _ rfl
      refine lv_bipush (v := 96) hx hb dX12_tear_65 (by decide) ?_
      refine lv_iload_n hx hb dX12_tear_67 rfl (lv_at hl 1 rfl) ?_
      refine lv_imul hx hb dX12_tear_68 ?_
      refine lv_topi (fun x49 ex49 => ?_)
      have t50 : x49.toInt = 96 * p0.toInt := ti_mul ex49 (by decide) rfl (by omega) (by omega)
      refine lv_iload_n hx hb dX12_tear_69 rfl (lv_at hl 2 rfl) ?_
      refine lv_iadd hx hb dX12_tear_70 ?_
      refine lv_topi (fun x51 ex51 => ?_)
      have t52 : x51.toInt = x49.toInt + p1.toInt := ti_add ex51 rfl rfl (by omega) (by omega)
      refine tw_iald (i := x51) hx hb hK hT hg37 shm_8 rfl (vin_t (a := x51.toInt) rfl (by omega) (by omega)) dX12_tear_71 (fun v9 m53 h9 => ?_)
      obtain ⟨x54, rfl, gx54, kx54⟩ := h9
      obtain rfl : x44 = x54 := (el_same m53 m45 (show x51.toInt = x40.toInt from by rw []; try omega)).symm
      exact W.iret (v := x44) hx hb hr (fun t ht hW => ⟨⟨x44, (), rfl, (by exact trivial), by (try dsimp only); rw [ht]; exact ⟨hT, hF⟩⟩, hS.F ht⟩) hS.2.2 dX12_tear_72
    · have t55 : r20.toInt = 0 := ti_eq c26 rfl (by decide)
      have t56 : (0 : Int32).toInt = 0 := by decide
      have t57 : p0.toInt < (0 : Int32).toInt ∨ x18.toInt < p0.toInt := hi25 c26
      refine lv_iconst (v := 1) hx hb dX12_tear_32 (by decide) ?_
      refine lv_goto (tgt := 37) hx hb dX12_tear_33 (by decide) ?_
      refine lv_iconst (v := 2) hx hb dX12_tear_37 (by decide) ?_
      have hFc := gA_free hG hA hS
      refine va_calli (va_runV (As := [.int 1, .int 2]) (rest := []) ⟨hx, hb, hml, hown, hts⟩ (s_throwsIf l dC dI kA G H q wN wH wB wC wL wK PI o0 1 2 hT hr_o0 (rg_t (a := 1) (by decide) (by omega) (by omega)) (by omega) (by omega) (by omega) (by omega)) (cwV 2 hts (goodIn_app (goodIn_r _ [10, 11, 12, 6] (by decide +kernel) (by decide +kernel)) (goodIn_ca (goodIn_r _ [9, 1] (by decide +kernel) (by decide +kernel)) (bs_in _ _))) rfl rfl rfl (by decide +kernel) ⟨(Nat.le_of_ble_eq_true rfl), (Nat.le_of_ble_eq_true rfl)⟩) ⟨fun a U g mk q => by obtain ⟨q0, q1, qK, qE⟩ := q; exact ⟨q0, q1, va_K.moved (u := U) (U := U.calling g mk a) (Vm.Alike.refl U.vm) qK, EV.blind g mk a qE⟩, gH_recv hK hT hr_o0 shm_0 rfl, fun U hU hW => ⟨rfl, hU, va_K.moved hW.alike hK, hE.call hS hFc hU hW⟩⟩ rfl rfl hl.1 rfl (lv_room (Nat.le_of_ble_eq_true rfl)) dX12_tear_38 ⟨(Nat.le_of_ble_eq_true rfl), (Nat.le_of_ble_eq_true rfl)⟩) hS (fun q _ h => hFc q h) hFc (fun r58 u t H locs ht hvm hw59 hB _ _ hS => ?_)
      obtain ⟨hT, hF1⟩ := hB
      rw [ht] at hT hF1
      have m60 := (hF1.fld hr_o0 skm_0 (k := 9) (by decide) (by decide)).trans m22
      have hF := hF.more hF1 (by decide)
      try dsimp only at hw59
      obtain ⟨h61, hd62⟩ := hw59
      obtain rfl : (1 : Int32) = r58 := hd62.symm
      refine lv_if_eq (tgt := 46) hx hb dX12_tear_41 (by decide) (fun c63 => absurd c63 (by decide)) (fun c63 => ?_)
      refine lv_iconst (v := 0) hx hb dX12_tear_44 (by decide) ?_
      exact W.iret (v := 0) hx hb hr (fun t ht hW => ⟨⟨0, (), rfl, (by exact trivial), by (try dsimp only); rw [ht]; exact ⟨hT, hF⟩⟩, hS.F ht⟩) hS.2.2 dX12_tear_45
def w_s_check : List Cond := .code yX12_check cX12_check 2 (some .int) :: ([.fieldLink RX12 194 "SeaLandModel" "thrown" "I", .fieldLink RX12 238 "SeaLandModel" "rows" "I", .fieldLink RX12 25 "SeaLandModel" "rowTold" "[I", .fieldLink RX12 28 "SeaLandModel" "rowTrue" "[I"] ++ bs)
set_option maxHeartbeats 4000000 in
set_option maxRecDepth 100000 in
theorem s_check (l : Launch) (dC : Nat → ClassId) (dI : Nat → Nat → Nat) (kA : Nat → ClassId) (G : gT) (H0 : Heap) (q : Nat → Nat) (wN wH wB wC : Int) (wL wK : Nat → Prop) (PI : Nat → Int → Prop) (o0 : Nat) (hT : gH (dC, dI) kA (SHm q (wP wN wH wB wC wC wL wK) PI) G H0) (hr_o0 : G o0 = some 0) (hgn : 6500000 ≤ wN ∧ wN ≤ 400000000) (hgh : 0 ≤ wH ∧ wH ≤ 40000) (hgb : 0 ≤ wB ∧ wB ≤ 3850000) (hgc : 0 ≤ wC ∧ wC ≤ 30) : Met l yX12_check w_s_check ({ frames := 0, cells := 0, slots := 0, locals := 0 }) (va_Pc [.ref o0] (fun U => U.heap = H0 ∧ va_K (dC, dI) vwCl (tyl kA) U ∧ EV (gA G H0.size) U U.heap)) (va_Qi (fun (r : Int32) (u : Unit) => (-1 ≤ r.toInt ∧ r.toInt ≤ 2303)) (fun (_ : Unit) (t : State) => gH (dC, dI) kA (SHm q (wP wN wH wB wC wC wL wK) PI) G t.heap ∧ gF (dC, dI) SKm G ([(0, 0)] : List (Nat × Nat)) H0 t.heap) (gA G H0.size)) 0 0 (gA G H0.size) := by
  refine Met.ofW (cc := cX12_check) (maxL := 2) (ret := (some .int)) (by decide) rfl ?_
  intro p e s m args below meth c s₁ B hml hv
  obtain ⟨rfl, hH0, hK, hE⟩ := hv
  have hx := B.exec
  have hb := B.bytes
  have hr := B.returns
  have hts := atoms_spec (ws := w_s_check) B.pre
  have hown : s.vm.findClass RX12 = some m.cls := findClass_of_methodNamed B.named
  have hlocks := B.notSynchronized
  subst hH0
  generalize hAe : gA G s.heap.size = A at hE ⊢
  have hA : ∀ q : Nat, s.heap.size ≤ q → A q := fun q h => by rw [← hAe]; exact Or.inr h
  have hG := gA_of hAe
  have hS : va_S A s.heap s.heap [] := va_S.rf
  have hF : gF (dC, dI) SKm G ([(0, 0)] : List (Nat × Nat)) s.heap s.heap := gF.rf
  have hl := lv_entry ([.ref o0]) (n := 2) (Nat.le_of_ble_eq_true rfl)
  rw [lg_entry_eq]
  generalize (lg_sl ([.ref o0]) ++ List.replicate (2 - (lg_sl ([.ref o0])).length) Slot.unset).toArray = ls at hl ⊢
  have hl : lv_has ls 2 [(0, .ref o0)] := hl
  refine lv_aload_n hx hb dX12_check_0 rfl (lv_at hl 0 rfl) ?_
  refine lv_iconst (v := 0) hx hb dX12_check_1 (by decide) ?_
  refine tw_put (v := .int 0) (ty := .int) hx hb hts bF_X12 tyX12 tyX12_ok nmX12 hown hK hT hG hS hr_o0 shm_0 rfl 0 (by decide) (ht_at hts 0 rfl) (fun _ h9 => h9) rfl (by decide +kernel) rfl rfl (gl_at rfl (gi_all _)) dX12_check_2 (fun H locs hT oq m1 oj hS => ?_)
  have hF := hF.put hr_o0 skm_0 oq oj (by decide)
  refine lv_iconst (v := 0) hx hb dX12_check_5 (by decide) ?_
  refine lv_istore_n (lv' := [(1, .int 0), (0, .ref o0)]) hx hb dX12_check_6 rfl hl (by decide) rfl (fun ls hl => ?_)
  have key41 : ∀ (n41 i2 : Nat), i2 + n41 = 2304 → 0 ≤ i2 → ∀ (H : Heap) (locs : List Loc), gH (dC, dI) kA (SHm q (wP wN wH wB wC wC wL wK) PI) G H → gF (dC, dI) SKm G ([(0, 0)] : List (Nat × Nat)) s.heap H → va_S A s.heap H locs → el H o0 (dI 15 0) = some (.int 0) → ∀ ls : Array Slot, lv_has ls 2 [(1, .int (nI i2)), (0, .ref o0)] → W p l e (headSpec w_s_check ({ frames := 0, cells := 0, slots := 0, locals := 0 })).room s m #[.ref o0] below meth c H locs 0 0 (MQ below (va_Qi (fun (r : Int32) (u : Unit) => (-1 ≤ r.toInt ∧ r.toInt ≤ 2303)) (fun (_ : Unit) (t : State) => gH (dC, dI) kA (SHm q (wP wN wH wB wC wC wL wK) PI) G t.heap ∧ gF (dC, dI) SKm G ([(0, 0)] : List (Nat × Nat)) s.heap t.heap) A) #[.ref o0] s 0 0 A) (F0 m 7 ls []) := by
    intro n41
    induction n41 with
    | zero =>
      intro i2 hn41 hlo42  H locs hT hF hS m22 ls hl
      obtain rfl : 2304 = i2 := by omega
      refine lv_iload_n hx hb dX12_check_7 rfl (lv_at hl 0 rfl) ?_
      refine lv_bipush (v := 96) hx hb dX12_check_8 (by decide) ?_
      refine lv_aload_n hx hb dX12_check_10 rfl (lv_at hl 1 rfl) ?_
      refine tw_get hx hb hts bF_X12 hown hK hT hr_o0 shm_0 rfl 9 (by decide) (ht_at hts 1 rfl) (fun _ h9 => h9) dX12_check_11 (fun v9 m43 h9 => ?_)
      obtain ⟨x44, rfl, gx44, kx44⟩ := h9 _ rfl
      refine lv_imul hx hb dX12_check_14 ?_
      refine lv_topi (fun x45 ex45 => ?_)
      have t46 : x45.toInt = 96 * x44.toInt := ti_mul ex45 (by decide) rfl (by omega) (by omega)
      refine lv_icmp_ge (tgt := 41) hx hb dX12_check_15 (by decide) (fun c47 => ?_) (fun c47 => (by exfalso; have q9 : ((2304 : Nat) : Int) < x45.toInt := ti_nle c47 rfl (nI_toInt (by omega)); omega))
      have t48 : x45.toInt ≤ ((2304 : Nat) : Int) := ti_le c47 rfl (nI_toInt (by omega))
      refine lv_iconst (v := (-1)) hx hb dX12_check_41 (by decide) ?_
      exact W.iret (v := (-1)) hx hb hr (fun t ht hW => ⟨⟨(-1), (), rfl, (by exact (rg_t (a := (-1)) (by decide) (by omega) (by omega))), by (try dsimp only); rw [ht]; exact ⟨hT, hF⟩⟩, hS.F ht⟩) hS.2.2 dX12_check_42
    | succ n41 ih41 =>
      intro i2 hn41 hlo42  H locs hT hF hS m22 ls hl
      have hlt48 : i2 < 2304 := by omega
      refine lv_iload_n hx hb dX12_check_7 rfl (lv_at hl 0 rfl) ?_
      refine lv_bipush (v := 96) hx hb dX12_check_8 (by decide) ?_
      refine lv_aload_n hx hb dX12_check_10 rfl (lv_at hl 1 rfl) ?_
      refine tw_get hx hb hts bF_X12 hown hK hT hr_o0 shm_0 rfl 9 (by decide) (ht_at hts 1 rfl) (fun _ h9 => h9) dX12_check_11 (fun v9 m49 h9 => ?_)
      obtain ⟨x50, rfl, gx50, kx50⟩ := h9 _ rfl
      refine lv_imul hx hb dX12_check_14 ?_
      refine lv_topi (fun x51 ex51 => ?_)
      have t52 : x51.toInt = 96 * x50.toInt := ti_mul ex51 (by decide) rfl (by omega) (by omega)
      refine lv_icmp_ge (tgt := 41) hx hb dX12_check_15 (by decide) (fun c53 => ?_) (fun c53 => ?_)
      · have t54 : x51.toInt ≤ ((i2 : Nat) : Int) := ti_le c53 rfl (nI_toInt (by omega))
        refine lv_iconst (v := (-1)) hx hb dX12_check_41 (by decide) ?_
        exact W.iret (v := (-1)) hx hb hr (fun t ht hW => ⟨⟨(-1), (), rfl, (by exact (rg_t (a := (-1)) (by decide) (by omega) (by omega))), by (try dsimp only); rw [ht]; exact ⟨hT, hF⟩⟩, hS.F ht⟩) hS.2.2 dX12_check_42
      · have t55 : ((i2 : Nat) : Int) < x51.toInt := ti_nle c53 rfl (nI_toInt (by omega))
        refine lv_aload_n hx hb dX12_check_18 rfl (lv_at hl 1 rfl) ?_
        refine tw_get hx hb hts bF_X12 hown hK hT hr_o0 shm_0 rfl 7 (by decide) (ht_at hts 2 rfl) (fun _ h9 => h9) dX12_check_19 (fun v9 m56 h9 => ?_)
        obtain ⟨rfl, hg57⟩ := h9 _ rfl
        refine lv_iload_n hx hb dX12_check_22 rfl (lv_at hl 0 rfl) ?_
        refine tw_iald (i := (nI i2)) hx hb hK hT hg57 shm_8 rfl (vp_in_nI (by omega) (by decide)) dX12_check_23 (fun v9 m58 h9 => ?_)
        obtain ⟨x59, rfl, gx59, kx59⟩ := h9
        refine lv_aload_n hx hb dX12_check_24 rfl (lv_at hl 1 rfl) ?_
        refine tw_get hx hb hts bF_X12 hown hK hT hr_o0 shm_0 rfl 8 (by decide) (ht_at hts 3 rfl) (fun _ h9 => h9) dX12_check_25 (fun v9 m60 h9 => ?_)
        obtain ⟨rfl, hg61⟩ := h9 _ rfl
        refine lv_iload_n hx hb dX12_check_28 rfl (lv_at hl 0 rfl) ?_
        refine tw_iald (i := (nI i2)) hx hb hK hT hg61 shm_9 rfl (vp_in_nI (by omega) (by decide)) dX12_check_29 (fun v9 m62 h9 => ?_)
        obtain ⟨x63, rfl, gx63, kx63⟩ := h9
        refine lv_icmp_eq (tgt := 35) hx hb dX12_check_30 (by decide) (fun c64 => ?_) (fun c64 => ?_)
        · have t65 : x59.toInt = x63.toInt := ti_eq c64 rfl rfl
          refine lv_iinc (v := nI (i2 + 1)) (lv' := [(1, .int (nI (i2 + 1))), (0, .ref o0)]) hx hb dX12_check_35 hl (k := 0) rfl (nI_add i2 1) (by decide) rfl (fun ls hl => ?_)
          refine lv_goto (tgt := 7) hx hb dX12_check_38 (by decide) ?_
          exact ih41 (i2 + 1) (by omega) (by omega) _ _ hT hF hS m22 ls (lv_sub hl [0, 1] rfl)
        · have t66 : x59.toInt ≠ x63.toInt := ti_ne c64 rfl rfl
          refine lv_iload_n hx hb dX12_check_33 rfl (lv_at hl 0 rfl) ?_
          exact W.iret (v := nI i2) hx hb hr (fun t ht hW => ⟨⟨nI i2, (), rfl, (by exact (rg_t (a := ((i2 : Nat) : Int)) (nI_toInt (by omega)) (by omega) (by omega))), by (try dsimp only); rw [ht]; exact ⟨hT, hF⟩⟩, hS.F ht⟩) hS.2.2 dX12_check_34
  exact key41 (2304 - 0) 0 (by omega) (Nat.le_refl _) _ _ hT hF hS m1 ls (lv_sub hl [0, 1] rfl)
def w_s_who : List Cond := .code yX12_who cX12_who 3 (some .int) :: ([.fieldLink RX12 194 "SeaLandModel" "thrown" "I", .code yX12_nobody cX12_nobody 2 (some .boolean), .fieldLink RX12 495 "SeaLandModel" "settlers" "I", .code yX12_in cX12_in 3 (some .boolean), .methodLink RX12 197 yX12_in, .static yX12_in, .initialized RX12, .methodLink RX12 486 yX12_nobody, .instanceMethod yX12_nobody, .selects RX12 yX12_nobody yX12_nobody, .code yX12_throwsIf cX12_throwsIf 3 (some .boolean), .methodLink RX12 224 yX12_throwsIf, .instanceMethod yX12_throwsIf, .selects RX12 yX12_throwsIf yX12_throwsIf, .fieldLink RX12 101 "SeaLandModel" "holds" "[I", .fieldLink RX12 85 "SeaLandModel" "coin" "[I", .fieldLink RX12 104 "SeaLandModel" "gain" "[I", .fieldLink RX12 107 "SeaLandModel" "owes" "[I", .code yX12_acres cX12_acres 4 (some .int), .fieldLink RX12 113 "SeaLandModel" "farmFrom" "[I", .fieldLink RX12 116 "SeaLandModel" "farmTo" "[I", .code yX12_isIn cX12_isIn 5 (some .boolean), .methodLink RX12 207 Lib.Math.min.name, .static Lib.Math.min.name, .initialized "java/lang/Math", .code Lib.Math.min.name Lib.Math.min.code 2 (some .int), .methodLink RX12 211 Lib.Math.max.name, .static Lib.Math.max.name, .code Lib.Math.max.name Lib.Math.max.code 2 (some .int), .methodLink RX12 232 yX12_isIn, .static yX12_isIn, .methodLink RX12 467 yX12_acres, .instanceMethod yX12_acres, .selects RX12 yX12_acres yX12_acres, .code yX12_near cX12_near 5 (some .int), .fieldLink RX12 9 "SeaLandModel" "world" "[I", .code yX12_isDike cX12_isDike 2 (some .boolean), .code yX12_of cX12_of 3 (some .int), .code yX12_at cX12_at 2 (some .int), .methodLink RX12 214 yX12_at, .static yX12_at, .methodLink RX12 217 yX12_of, .instanceMethod yX12_of, .selects RX12 yX12_of yX12_of, .methodLink RX12 272 yX12_isDike, .instanceMethod yX12_isDike, .selects RX12 yX12_isDike yX12_isDike, .code yX12_steps cX12_steps 2 (some .int), .methodLink RX12 201 Lib.Math.abs.name, .static Lib.Math.abs.name, .code Lib.Math.abs.name Lib.Math.abs.code 1 (some .int), .methodLink RX12 262 yX12_steps, .static yX12_steps, .methodLink RX12 469 yX12_near, .instanceMethod yX12_near, .selects RX12 yX12_near yX12_near] ++ bs)
set_option maxHeartbeats 4000000 in
set_option maxRecDepth 100000 in
theorem s_who (l : Launch) (dC : Nat → ClassId) (dI : Nat → Nat → Nat) (kA : Nat → ClassId) (G : gT) (H0 : Heap) (q : Nat → Nat) (wN wH wB wC : Int) (wL wK : Nat → Prop) (PI : Nat → Int → Prop) (o0 : Nat) (p0 : Int32) (p1 : Int32) (hT : gH (dC, dI) kA (SHm q (wP wN wH wB wC wC wL wK) PI) G H0) (hr_o0 : G o0 = some 0) (hgn : 6500000 ≤ wN ∧ wN ≤ 400000000) (hgh : 0 ≤ wH ∧ wH ≤ 40000) (hgb : 0 ≤ wB ∧ wB ≤ 3850000) (hgc : 0 ≤ wC ∧ wC ≤ 30) : Met l yX12_who w_s_who ({ frames := 4, cells := 0, slots := 0, locals := 88 }) (va_Pc [.ref o0, .int p0, .int p1] (fun U => U.heap = H0 ∧ va_K (dC, dI) vwCl (tyl kA) U ∧ EV (gA G H0.size) U U.heap)) (va_Qi (fun (r : Int32) (u : Unit) => True) (fun (_ : Unit) (t : State) => gH (dC, dI) kA (SHm q (wP wN wH wB wC wC wL wK) PI) G t.heap ∧ gF (dC, dI) SKm G ([(0, 0)] : List (Nat × Nat)) H0 t.heap) (gA G H0.size)) 0 0 (gA G H0.size) := by
  refine Met.ofW (cc := cX12_who) (maxL := 3) (ret := (some .int)) (by decide) rfl ?_
  intro p e s m args below meth c s₁ B hml hv
  obtain ⟨rfl, hH0, hK, hE⟩ := hv
  have hx := B.exec
  have hb := B.bytes
  have hr := B.returns
  have hts := atoms_spec (ws := w_s_who) B.pre
  have hown : s.vm.findClass RX12 = some m.cls := findClass_of_methodNamed B.named
  have hlocks := B.notSynchronized
  subst hH0
  generalize hAe : gA G s.heap.size = A at hE ⊢
  have hA : ∀ q : Nat, s.heap.size ≤ q → A q := fun q h => by rw [← hAe]; exact Or.inr h
  have hG := gA_of hAe
  have hS : va_S A s.heap s.heap [] := va_S.rf
  have hF : gF (dC, dI) SKm G ([(0, 0)] : List (Nat × Nat)) s.heap s.heap := gF.rf
  have hl := lv_entry ([.ref o0, .int p0, .int p1]) (n := 3) (Nat.le_of_ble_eq_true rfl)
  rw [lg_entry_eq]
  generalize (lg_sl ([.ref o0, .int p0, .int p1]) ++ List.replicate (3 - (lg_sl ([.ref o0, .int p0, .int p1])).length) Slot.unset).toArray = ls at hl ⊢
  have hl : lv_has ls 3 [(0, .ref o0), (1, .int p0), (2, .int p1)] := hl
  refine lv_aload_n hx hb dX12_who_0 rfl (lv_at hl 0 rfl) ?_
  refine lv_iconst (v := 0) hx hb dX12_who_1 (by decide) ?_
  refine tw_put (v := .int 0) (ty := .int) hx hb hts bF_X12 tyX12 tyX12_ok nmX12 hown hK hT hG hS hr_o0 shm_0 rfl 0 (by decide) (ht_at hts 0 rfl) (fun _ h9 => h9) rfl (by decide +kernel) rfl rfl (gl_at rfl (gi_all _)) dX12_who_2 (fun H locs hT oq m1 oj hS => ?_)
  have hF := hF.put hr_o0 skm_0 oq oj (by decide)
  refine lv_aload_n hx hb dX12_who_5 rfl (lv_at hl 0 rfl) ?_
  refine lv_aload_n hx hb dX12_who_6 rfl (lv_at hl 0 rfl) ?_
  refine lv_iload_n hx hb dX12_who_7 rfl (lv_at hl 1 rfl) ?_
  have hFc := gA_free hG hA hS
  refine va_calli (va_runV (As := [.int p0]) (rest := [.ref o0]) ⟨hx, hb, hml, hown, hts⟩ (s_nobody l dC dI kA G H q wN wH wB wC wL wK PI o0 p0 hT hr_o0 (by omega) (by omega) (by omega) (by omega)) (cwV 1 hts (goodIn_app (goodIn_r _ [8, 9, 10, 7] (by decide +kernel) (by decide +kernel)) (goodIn_ca (goodIn_r _ [2, 3, 4, 5, 6, 7] (by decide +kernel) (by decide +kernel)) (bs_in _ _))) rfl rfl rfl (by decide +kernel) ⟨(Nat.le_of_ble_eq_true rfl), (Nat.le_of_ble_eq_true rfl)⟩) ⟨fun a U g mk q => by obtain ⟨q0, q1, qK, qE⟩ := q; exact ⟨q0, q1, va_K.moved (u := U) (U := U.calling g mk a) (Vm.Alike.refl U.vm) qK, EV.blind g mk a qE⟩, gH_recv hK hT hr_o0 shm_0 rfl, fun U hU hW => ⟨rfl, hU, va_K.moved hW.alike hK, hE.call hS hFc hU hW⟩⟩ rfl rfl hl.1 rfl (lv_room (Nat.le_of_ble_eq_true rfl)) dX12_who_8 ⟨(Nat.le_of_ble_eq_true rfl), (Nat.le_of_ble_eq_true rfl)⟩) hS (fun q _ h => hFc q h) hFc (fun r2 u t H locs ht hvm hw3 hB _ _ hS => ?_)
  obtain ⟨hT, hF1⟩ := hB
  rw [ht] at hT hF1
  have m4 := (hF1.fld hr_o0 skm_0 (k := 0) (by decide) (by decide)).trans m1
  have hF := hF.more hF1 (by decide)
  try dsimp only at hw3
  obtain ⟨h5, hi6⟩ := hw3
  refine lv_iconst (v := 1) hx hb dX12_who_11 (by decide) ?_
  have hFc := gA_free hG hA hS
  refine va_calli (va_runV (As := [.int r2, .int 1]) (rest := []) ⟨hx, hb, hml, hown, hts⟩ (s_throwsIf l dC dI kA G H q wN wH wB wC wL wK PI o0 r2 1 hT hr_o0 (rg_t (a := r2.toInt) rfl (by have q8 := ti_all r2; omega) (by have q8 := ti_all r2; omega)) (by omega) (by omega) (by omega) (by omega)) (cwV 2 hts (goodIn_app (goodIn_r _ [12, 13, 14, 7] (by decide +kernel) (by decide +kernel)) (goodIn_ca (goodIn_r _ [11, 1] (by decide +kernel) (by decide +kernel)) (bs_in _ _))) rfl rfl rfl (by decide +kernel) ⟨(Nat.le_of_ble_eq_true rfl), (Nat.le_of_ble_eq_true rfl)⟩) ⟨fun a U g mk q => by obtain ⟨q0, q1, qK, qE⟩ := q; exact ⟨q0, q1, va_K.moved (u := U) (U := U.calling g mk a) (Vm.Alike.refl U.vm) qK, EV.blind g mk a qE⟩, gH_recv hK hT hr_o0 shm_0 rfl, fun U hU hW => ⟨rfl, hU, va_K.moved hW.alike hK, hE.call hS hFc hU hW⟩⟩ rfl rfl hl.1 rfl (lv_room (Nat.le_of_ble_eq_true rfl)) dX12_who_12 ⟨(Nat.le_of_ble_eq_true rfl), (Nat.le_of_ble_eq_true rfl)⟩) hS (fun q _ h => hFc q h) hFc (fun r7 u t H locs ht hvm hw8 hB _ _ hS => ?_)
  obtain ⟨hT, hF1⟩ := hB
  rw [ht] at hT hF1
  have hF := hF.more hF1 (by decide)
  try dsimp only at hw8
  obtain ⟨h10, hd11⟩ := hw8
  obtain rfl : r2 = r7 := hd11.symm
  refine lv_if_eq (tgt := 20) hx hb dX12_who_15 (by decide) (fun c12 => ?_) (fun c12 => ?_)
  · have t13 : r2.toInt = 0 := ti_eq c12 rfl (by decide)
    have t14 : 0 ≤ p0.toInt ∧ p0.toInt ≤ 59 := hi6 c12
    refine lv_iload_n hx hb dX12_who_20 rfl (lv_at hl 2 rfl) ?_
    by_cases hs15 : p1 = 0
    · subst hs15
      refine lv_tableIn (x := 0) (off := 39) (tgt := 60) hx hb dX12_who_21 (by decide) (by decide) (by decide) (by decide) ?_
      refine lv_aload_n hx hb dX12_who_60 rfl (lv_at hl 0 rfl) ?_
      refine tw_get hx hb hts bF_X12 hown hK hT hr_o0 shm_0 rfl 38 (by decide) (ht_at hts 14 rfl) (fun _ h9 => h9) dX12_who_61 (fun v9 m16 h9 => ?_)
      obtain ⟨rfl, hg17⟩ := h9 _ rfl
      refine lv_iload_n hx hb dX12_who_64 rfl (lv_at hl 1 rfl) ?_
      refine tw_iald (i := p0) hx hb hK hT hg17 shm_39 rfl (vin_t (a := p0.toInt) rfl (by omega) (by omega)) dX12_who_65 (fun v9 m18 h9 => ?_)
      obtain ⟨x19, rfl, gx19, kx19⟩ := h9
      exact W.iret (v := x19) hx hb hr (fun t ht hW => ⟨⟨x19, (), rfl, (by exact trivial), by (try dsimp only); rw [ht]; exact ⟨hT, hF⟩⟩, hS.F ht⟩) hS.2.2 dX12_who_66
    by_cases hs20 : p1 = 1
    · subst hs20
      refine lv_tableIn (x := 1) (off := 46) (tgt := 67) hx hb dX12_who_21 (by decide) (by decide) (by decide) (by decide) ?_
      refine lv_aload_n hx hb dX12_who_67 rfl (lv_at hl 0 rfl) ?_
      refine tw_get hx hb hts bF_X12 hown hK hT hr_o0 shm_0 rfl 33 (by decide) (ht_at hts 15 rfl) (fun _ h9 => h9) dX12_who_68 (fun v9 m21 h9 => ?_)
      obtain ⟨rfl, hg22⟩ := h9 _ rfl
      refine lv_iload_n hx hb dX12_who_71 rfl (lv_at hl 1 rfl) ?_
      refine tw_iald (i := p0) hx hb hK hT hg22 shm_34 rfl (vin_t (a := p0.toInt) rfl (by omega) (by omega)) dX12_who_72 (fun v9 m23 h9 => ?_)
      obtain ⟨x24, rfl, gx24, kx24⟩ := h9
      exact W.iret (v := x24) hx hb hr (fun t ht hW => ⟨⟨x24, (), rfl, (by exact trivial), by (try dsimp only); rw [ht]; exact ⟨hT, hF⟩⟩, hS.F ht⟩) hS.2.2 dX12_who_73
    by_cases hs25 : p1 = 2
    · subst hs25
      refine lv_tableIn (x := 2) (off := 53) (tgt := 74) hx hb dX12_who_21 (by decide) (by decide) (by decide) (by decide) ?_
      refine lv_aload_n hx hb dX12_who_74 rfl (lv_at hl 0 rfl) ?_
      refine tw_get hx hb hts bF_X12 hown hK hT hr_o0 shm_0 rfl 39 (by decide) (ht_at hts 16 rfl) (fun _ h9 => h9) dX12_who_75 (fun v9 m26 h9 => ?_)
      obtain ⟨rfl, hg27⟩ := h9 _ rfl
      refine lv_iload_n hx hb dX12_who_78 rfl (lv_at hl 1 rfl) ?_
      refine tw_iald (i := p0) hx hb hK hT hg27 shm_40 rfl (vin_t (a := p0.toInt) rfl (by omega) (by omega)) dX12_who_79 (fun v9 m28 h9 => ?_)
      obtain ⟨x29, rfl, gx29, kx29⟩ := h9
      exact W.iret (v := x29) hx hb hr (fun t ht hW => ⟨⟨x29, (), rfl, (by exact trivial), by (try dsimp only); rw [ht]; exact ⟨hT, hF⟩⟩, hS.F ht⟩) hS.2.2 dX12_who_80
    by_cases hs30 : p1 = 3
    · subst hs30
      refine lv_tableIn (x := 3) (off := 60) (tgt := 81) hx hb dX12_who_21 (by decide) (by decide) (by decide) (by decide) ?_
      refine lv_aload_n hx hb dX12_who_81 rfl (lv_at hl 0 rfl) ?_
      refine tw_get hx hb hts bF_X12 hown hK hT hr_o0 shm_0 rfl 40 (by decide) (ht_at hts 17 rfl) (fun _ h9 => h9) dX12_who_82 (fun v9 m31 h9 => ?_)
      obtain ⟨rfl, hg32⟩ := h9 _ rfl
      refine lv_iload_n hx hb dX12_who_85 rfl (lv_at hl 1 rfl) ?_
      refine tw_iald (i := p0) hx hb hK hT hg32 shm_41 rfl (vin_t (a := p0.toInt) rfl (by omega) (by omega)) dX12_who_86 (fun v9 m33 h9 => ?_)
      obtain ⟨x34, rfl, gx34, kx34⟩ := h9
      exact W.iret (v := x34) hx hb hr (fun t ht hW => ⟨⟨x34, (), rfl, (by exact trivial), by (try dsimp only); rw [ht]; exact ⟨hT, hF⟩⟩, hS.F ht⟩) hS.2.2 dX12_who_87
    by_cases hs35 : p1 = 4
    · subst hs35
      refine lv_tableIn (x := 4) (off := 67) (tgt := 88) hx hb dX12_who_21 (by decide) (by decide) (by decide) (by decide) ?_
      refine lv_aload_n hx hb dX12_who_88 rfl (lv_at hl 0 rfl) ?_
      refine lv_iload_n hx hb dX12_who_89 rfl (lv_at hl 1 rfl) ?_
      have hFc := gA_free hG hA hS
      refine va_calli (va_runV (As := [.int p0]) (rest := []) ⟨hx, hb, hml, hown, hts⟩ (s_acres l dC dI kA G H q wN wH wB wC wL wK PI o0 p0 hT hr_o0 (rg_t (a := p0.toInt) rfl (by have q8 := ti_all p0; omega) (by have q8 := ti_all p0; omega)) (by omega) (by omega) (by omega) (by omega)) (cwV 1 hts (goodIn_app (goodIn_r _ [32, 33, 34, 7] (by decide +kernel) (by decide +kernel)) (goodIn_ca (goodIn_r _ [19, 15, 20, 21, 22, 23, 24, 25, 26, 27, 28, 29, 4, 5, 6, 7, 30, 31] (by decide +kernel) (by decide +kernel)) (bs_in _ _))) rfl rfl rfl (by decide +kernel) ⟨(Nat.le_of_ble_eq_true rfl), (Nat.le_of_ble_eq_true rfl)⟩) ⟨fun a U g mk q => by obtain ⟨q0, q1, qK, qE⟩ := q; exact ⟨q0, q1, va_K.moved (u := U) (U := U.calling g mk a) (Vm.Alike.refl U.vm) qK, EV.blind g mk a qE⟩, gH_recv hK hT hr_o0 shm_0 rfl, fun U hU hW => ⟨rfl, hU, va_K.moved hW.alike hK, hE.call hS hFc hU hW⟩⟩ rfl rfl hl.1 rfl (lv_room (Nat.le_of_ble_eq_true rfl)) dX12_who_90 ⟨(Nat.le_of_ble_eq_true rfl), (Nat.le_of_ble_eq_true rfl)⟩) hS (fun q _ h => hFc q h) hFc (fun r36 u t H locs ht hvm hw37 hB _ _ hS => ?_)
      obtain ⟨hT, hF1⟩ := hB
      rw [ht] at hT hF1
      have hF := hF.more hF1 (by decide)
      try dsimp only at hw37
      exact W.iret (v := r36) hx hb hr (fun t ht hW => ⟨⟨r36, (), rfl, (by exact trivial), by (try dsimp only); rw [ht]; exact ⟨hT, hF⟩⟩, hS.F ht⟩) hS.2.2 dX12_who_93
    by_cases hs38 : p1 = 5
    · subst hs38
      refine lv_tableIn (x := 5) (off := 73) (tgt := 94) hx hb dX12_who_21 (by decide) (by decide) (by decide) (by decide) ?_
      refine lv_aload_n hx hb dX12_who_94 rfl (lv_at hl 0 rfl) ?_
      refine lv_iload_n hx hb dX12_who_95 rfl (lv_at hl 1 rfl) ?_
      have hFc := gA_free hG hA hS
      refine va_calli (va_runV (As := [.int p0]) (rest := []) ⟨hx, hb, hml, hown, hts⟩ (s_near l dC dI kA G H q wN wH wB wC wL wK PI o0 p0 hT hr_o0 (rg_t (a := p0.toInt) rfl (by have q8 := ti_all p0; omega) (by have q8 := ti_all p0; omega)) (by omega) (by omega) (by omega) (by omega)) (cwV 1 hts (goodIn_app (goodIn_r _ [54, 55, 56, 7] (by decide +kernel) (by decide +kernel)) (goodIn_ca (goodIn_r _ [35, 15, 20, 21, 22, 23, 24, 25, 26, 27, 28, 29, 4, 5, 6, 7, 30, 31, 36, 37, 38, 39, 40, 41, 42, 43, 44, 45, 46, 47, 48, 49, 50, 51, 52, 53] (by decide +kernel) (by decide +kernel)) (bs_in _ _))) rfl rfl rfl (by decide +kernel) ⟨(Nat.le_of_ble_eq_true rfl), (Nat.le_of_ble_eq_true rfl)⟩) ⟨fun a U g mk q => by obtain ⟨q0, q1, qK, qE⟩ := q; exact ⟨q0, q1, va_K.moved (u := U) (U := U.calling g mk a) (Vm.Alike.refl U.vm) qK, EV.blind g mk a qE⟩, gH_recv hK hT hr_o0 shm_0 rfl, fun U hU hW => ⟨rfl, hU, va_K.moved hW.alike hK, hE.call hS hFc hU hW⟩⟩ rfl rfl hl.1 rfl (lv_room (Nat.le_of_ble_eq_true rfl)) dX12_who_96 ⟨(Nat.le_of_ble_eq_true rfl), (Nat.le_of_ble_eq_true rfl)⟩) hS (fun q _ h => hFc q h) hFc (fun r39 u t H locs ht hvm hw40 hB _ _ hS => ?_)
      obtain ⟨hT, hF1⟩ := hB
      rw [ht] at hT hF1
      have hF := hF.more hF1 (by decide)
      try dsimp only at hw40
      have h41 := hw40
      exact W.iret (v := r39) hx hb hr (fun t ht hW => ⟨⟨r39, (), rfl, (by exact trivial), by (try dsimp only); rw [ht]; exact ⟨hT, hF⟩⟩, hS.F ht⟩) hS.2.2 dX12_who_99
    have ho42 : p1.toInt < 0 ∨ 5 < p1.toInt := by
      have ehs15 : p1.toInt ≠ 0 := fun e => hs15 (Int32.toInt_inj.mp (e.trans (by decide)))
      have ehs20 : p1.toInt ≠ 1 := fun e => hs20 (Int32.toInt_inj.mp (e.trans (by decide)))
      have ehs25 : p1.toInt ≠ 2 := fun e => hs25 (Int32.toInt_inj.mp (e.trans (by decide)))
      have ehs30 : p1.toInt ≠ 3 := fun e => hs30 (Int32.toInt_inj.mp (e.trans (by decide)))
      have ehs35 : p1.toInt ≠ 4 := fun e => hs35 (Int32.toInt_inj.mp (e.trans (by decide)))
      have ehs38 : p1.toInt ≠ 5 := fun e => hs38 (Int32.toInt_inj.mp (e.trans (by decide)))
      omega
    refine lv_tableOut (tgt := 100) hx hb dX12_who_21 ho42 (by decide) ?_
    refine lv_aload_n hx hb dX12_who_100 rfl (lv_at hl 0 rfl) ?_
    refine lv_iconst (v := 2) hx hb dX12_who_101 (by decide) ?_
    refine tw_put (v := .int 2) (ty := .int) hx hb hts bF_X12 tyX12 tyX12_ok nmX12 hown hK hT hG hS hr_o0 shm_0 rfl 0 (by decide) (ht_at hts 0 rfl) (fun _ h9 => h9) rfl (by decide +kernel) rfl rfl (gl_at rfl (gi_all _)) dX12_who_102 (fun H locs hT oq m43 oj hS => ?_)
    have hF := hF.put hr_o0 skm_0 oq oj (by decide)
    refine lv_iconst (v := 0) hx hb dX12_who_105 (by decide) ?_
    exact W.iret (v := 0) hx hb hr (fun t ht hW => ⟨⟨0, (), rfl, (by exact trivial), by (try dsimp only); rw [ht]; exact ⟨hT, hF⟩⟩, hS.F ht⟩) hS.2.2 dX12_who_106
  · have t44 : r2.toInt ≠ 0 := ti_ne c12 rfl (by decide)
    refine lv_iconst (v := 0) hx hb dX12_who_18 (by decide) ?_
    exact W.iret (v := 0) hx hb hr (fun t ht hW => ⟨⟨0, (), rfl, (by exact trivial), by (try dsimp only); rw [ht]; exact ⟨hT, hF⟩⟩, hS.F ht⟩) hS.2.2 dX12_who_19
def w_s_contract : List Cond := .code yX12_contract cX12_contract 5 (some .int) :: ([.fieldLink RX12 194 "SeaLandModel" "thrown" "I", .code yX12_noWork cX12_noWork 2 (some .boolean), .fieldLink RX12 9 "SeaLandModel" "world" "[I", .code yX12_in cX12_in 3 (some .boolean), .methodLink RX12 197 yX12_in, .static yX12_in, .initialized RX12, .methodLink RX12 269 yX12_noWork, .instanceMethod yX12_noWork, .selects RX12 yX12_noWork yX12_noWork, .code yX12_throwsIf cX12_throwsIf 3 (some .boolean), .methodLink RX12 224 yX12_throwsIf, .instanceMethod yX12_throwsIf, .selects RX12 yX12_throwsIf yX12_throwsIf, .code yX12_isDike cX12_isDike 2 (some .boolean), .code yX12_of cX12_of 3 (some .int), .code yX12_at cX12_at 2 (some .int), .methodLink RX12 214 yX12_at, .static yX12_at, .methodLink RX12 217 yX12_of, .instanceMethod yX12_of, .selects RX12 yX12_of yX12_of, .methodLink RX12 272 yX12_isDike, .instanceMethod yX12_isDike, .selects RX12 yX12_isDike yX12_isDike, .fieldLink RX12 533 "SeaLandModel" "contracts" "I", .fieldLink RX12 137 "SeaLandModel" "kWork" "[I", .fieldLink RX12 140 "SeaLandModel" "kClay" "[I", .fieldLink RX12 143 "SeaLandModel" "kPrice" "[I", .fieldLink RX12 146 "SeaLandModel" "kBound" "[I", .fieldLink RX12 152 "SeaLandModel" "kHigh" "[I", .constant RX12 538 1000000000] ++ bs)
set_option maxHeartbeats 4000000 in
set_option maxRecDepth 100000 in
theorem s_contract (l : Launch) (dC : Nat → ClassId) (dI : Nat → Nat → Nat) (kA : Nat → ClassId) (G : gT) (H0 : Heap) (q : Nat → Nat) (wN wH wB wC : Int) (wL wK : Nat → Prop) (PI : Nat → Int → Prop) (o0 : Nat) (p0 : Int32) (p1 : Int32) (p2 : Int32) (p3 : Int32) (hT : gH (dC, dI) kA (SHm q (wP wN wH wB wC wC wL wK) PI) G H0) (hr_o0 : G o0 = some 0) (hgn : 6500000 ≤ wN ∧ wN ≤ 400000000) (hgh : 0 ≤ wH ∧ wH ≤ 40000) (hgb : 0 ≤ wB ∧ wB ≤ 3850000) (hgc : 0 ≤ wC ∧ wC ≤ 30) : Met l yX12_contract w_s_contract ({ frames := 3, cells := 0, slots := 0, locals := 64 }) (va_Pc [.ref o0, .int p0, .int p1, .int p2, .int p3] (fun U => U.heap = H0 ∧ va_K (dC, dI) vwCl (tyl kA) U ∧ EV (gA G H0.size) U U.heap)) (va_Qi (fun (r : Int32) (u : Unit) => (-1 ≤ r.toInt ∧ r.toInt ≤ 39)) (fun (_ : Unit) (t : State) => gH (dC, dI) kA (SHm q (wP wN wH wB wC wC wL wK) PI) G t.heap ∧ gF (dC, dI) SKm G ([(0, 0), (0, 64), (57, 0), (58, 0), (59, 0), (60, 0), (62, 0)] : List (Nat × Nat)) H0 t.heap) (gA G H0.size)) 0 0 (gA G H0.size) := by
  refine Met.ofW (cc := cX12_contract) (maxL := 5) (ret := (some .int)) (by decide) rfl ?_
  intro p e s m args below meth c s₁ B hml hv
  obtain ⟨rfl, hH0, hK, hE⟩ := hv
  have hx := B.exec
  have hb := B.bytes
  have hr := B.returns
  have hts := atoms_spec (ws := w_s_contract) B.pre
  have hown : s.vm.findClass RX12 = some m.cls := findClass_of_methodNamed B.named
  have hlocks := B.notSynchronized
  subst hH0
  generalize hAe : gA G s.heap.size = A at hE ⊢
  have hA : ∀ q : Nat, s.heap.size ≤ q → A q := fun q h => by rw [← hAe]; exact Or.inr h
  have hG := gA_of hAe
  have hS : va_S A s.heap s.heap [] := va_S.rf
  have hF : gF (dC, dI) SKm G ([(0, 0), (0, 64), (57, 0), (58, 0), (59, 0), (60, 0), (62, 0)] : List (Nat × Nat)) s.heap s.heap := gF.rf
  have hl := lv_entry ([.ref o0, .int p0, .int p1, .int p2, .int p3]) (n := 5) (Nat.le_of_ble_eq_true rfl)
  rw [lg_entry_eq]
  generalize (lg_sl ([.ref o0, .int p0, .int p1, .int p2, .int p3]) ++ List.replicate (5 - (lg_sl ([.ref o0, .int p0, .int p1, .int p2, .int p3])).length) Slot.unset).toArray = ls at hl ⊢
  have hl : lv_has ls 5 [(0, .ref o0), (1, .int p0), (2, .int p1), (3, .int p2), (4, .int p3)] := hl
  refine lv_aload_n hx hb dX12_contract_0 rfl (lv_at hl 0 rfl) ?_
  refine lv_iconst (v := 0) hx hb dX12_contract_1 (by decide) ?_
  refine tw_put (v := .int 0) (ty := .int) hx hb hts bF_X12 tyX12 tyX12_ok nmX12 hown hK hT hG hS hr_o0 shm_0 rfl 0 (by decide) (ht_at hts 0 rfl) (fun _ h9 => h9) rfl (by decide +kernel) rfl rfl (gl_at rfl (gi_all _)) dX12_contract_2 (fun H locs hT oq m1 oj hS => ?_)
  have hF := hF.put hr_o0 skm_0 oq oj (by decide)
  refine lv_aload_n hx hb dX12_contract_5 rfl (lv_at hl 0 rfl) ?_
  refine lv_aload_n hx hb dX12_contract_6 rfl (lv_at hl 0 rfl) ?_
  refine lv_iload_n hx hb dX12_contract_7 rfl (lv_at hl 1 rfl) ?_
  have hFc := gA_free hG hA hS
  refine va_calli (va_runV (As := [.int p0]) (rest := [.ref o0]) ⟨hx, hb, hml, hown, hts⟩ (s_noWork l dC dI kA G H q wN wH wB wC wL wK PI o0 p0 hT hr_o0 (by omega) (by omega) (by omega) (by omega)) (cwV 1 hts (goodIn_app (goodIn_r _ [8, 9, 10, 7] (by decide +kernel) (by decide +kernel)) (goodIn_ca (goodIn_r _ [2, 3, 4, 5, 6, 7] (by decide +kernel) (by decide +kernel)) (bs_in _ _))) rfl rfl rfl (by decide +kernel) ⟨(Nat.le_of_ble_eq_true rfl), (Nat.le_of_ble_eq_true rfl)⟩) ⟨fun a U g mk q => by obtain ⟨q0, q1, qK, qE⟩ := q; exact ⟨q0, q1, va_K.moved (u := U) (U := U.calling g mk a) (Vm.Alike.refl U.vm) qK, EV.blind g mk a qE⟩, gH_recv hK hT hr_o0 shm_0 rfl, fun U hU hW => ⟨rfl, hU, va_K.moved hW.alike hK, hE.call hS hFc hU hW⟩⟩ rfl rfl hl.1 rfl (lv_room (Nat.le_of_ble_eq_true rfl)) dX12_contract_8 ⟨(Nat.le_of_ble_eq_true rfl), (Nat.le_of_ble_eq_true rfl)⟩) hS (fun q _ h => hFc q h) hFc (fun r2 u t H locs ht hvm hw3 hB _ _ hS => ?_)
  obtain ⟨hT, hF1⟩ := hB
  rw [ht] at hT hF1
  have m4 := (hF1.fld hr_o0 skm_0 (k := 0) (by decide) (by decide)).trans m1
  have hF := hF.more hF1 (by decide)
  try dsimp only at hw3
  obtain ⟨h5, hi6⟩ := hw3
  refine lv_iconst (v := 1) hx hb dX12_contract_11 (by decide) ?_
  have hFc := gA_free hG hA hS
  refine va_calli (va_runV (As := [.int r2, .int 1]) (rest := []) ⟨hx, hb, hml, hown, hts⟩ (s_throwsIf l dC dI kA G H q wN wH wB wC wL wK PI o0 r2 1 hT hr_o0 (rg_t (a := r2.toInt) rfl (by have q8 := ti_all r2; omega) (by have q8 := ti_all r2; omega)) (by omega) (by omega) (by omega) (by omega)) (cwV 2 hts (goodIn_app (goodIn_r _ [12, 13, 14, 7] (by decide +kernel) (by decide +kernel)) (goodIn_ca (goodIn_r _ [11, 1] (by decide +kernel) (by decide +kernel)) (bs_in _ _))) rfl rfl rfl (by decide +kernel) ⟨(Nat.le_of_ble_eq_true rfl), (Nat.le_of_ble_eq_true rfl)⟩) ⟨fun a U g mk q => by obtain ⟨q0, q1, qK, qE⟩ := q; exact ⟨q0, q1, va_K.moved (u := U) (U := U.calling g mk a) (Vm.Alike.refl U.vm) qK, EV.blind g mk a qE⟩, gH_recv hK hT hr_o0 shm_0 rfl, fun U hU hW => ⟨rfl, hU, va_K.moved hW.alike hK, hE.call hS hFc hU hW⟩⟩ rfl rfl hl.1 rfl (lv_room (Nat.le_of_ble_eq_true rfl)) dX12_contract_12 ⟨(Nat.le_of_ble_eq_true rfl), (Nat.le_of_ble_eq_true rfl)⟩) hS (fun q _ h => hFc q h) hFc (fun r7 u t H locs ht hvm hw8 hB _ _ hS => ?_)
  obtain ⟨hT, hF1⟩ := hB
  rw [ht] at hT hF1
  have hF := hF.more hF1 (by decide)
  try dsimp only at hw8
  obtain ⟨h10, hd11⟩ := hw8
  obtain rfl : r2 = r7 := hd11.symm
  refine lv_if_ne (tgt := 85) hx hb dX12_contract_15 (by decide) (fun c12 => ?_) (fun c12 => ?_)
  · have t13 : r2.toInt ≠ 0 := ti_ne c12 rfl (by decide)
    refine lv_iconst (v := 0) hx hb dX12_contract_85 (by decide) ?_
    exact W.iret (v := 0) hx hb hr (fun t ht hW => ⟨⟨0, (), rfl, (by exact (rg_t (a := 0) (by decide) (by omega) (by omega))), by (try dsimp only); rw [ht]; exact ⟨hT, hF⟩⟩, hS.F ht⟩) hS.2.2 dX12_contract_86
  · have t14 : r2.toInt = 0 := ti_eq c12 rfl (by decide)
    have t15 : 0 ≤ p0.toInt ∧ p0.toInt ≤ 29 ∧ p0.toInt < wC := hi6 c12
    refine lv_aload_n hx hb dX12_contract_18 rfl (lv_at hl 0 rfl) ?_
    refine lv_iload_n hx hb dX12_contract_19 rfl (lv_at hl 2 rfl) ?_
    refine lv_iconst (v := 0) hx hb dX12_contract_20 (by decide) ?_
    refine lv_bipush (v := 9) hx hb dX12_contract_21 (by decide) ?_
    have hFc := gA_free hG hA hS
    refine va_calli (va_runS (As := [.int p1, .int 0, .int 9]) (rest := [.ref o0]) ⟨hx, hb, hml, hown, hts⟩ (s_in l dC dI kA G H q wN wH wB wC wL wK PI p1 0 9 hT (by omega) (by omega) (by omega) (by omega)) (va_cwS 3 hts (goodIn_app (goodIn_r _ [5, 6, 7] (by decide +kernel) (by decide +kernel)) (goodIn_ca (goodIn_r _ [4] (by decide +kernel) (by decide +kernel)) (bs_in _ _))) rfl rfl rfl (by decide +kernel) ⟨(Nat.le_of_ble_eq_true rfl), (Nat.le_of_ble_eq_true rfl)⟩) ⟨fun a U g mk q => by obtain ⟨q0, q1, qK, qE⟩ := q; exact ⟨q0, q1, va_K.moved (u := U) (U := U.calling g mk a) (Vm.Alike.refl U.vm) qK, EV.blind g mk a qE⟩, fun U hU hW => ⟨rfl, hU, va_K.moved hW.alike hK, hE.call hS hFc hU hW⟩⟩ rfl rfl hl.1 rfl (lv_room (Nat.le_of_ble_eq_true rfl)) dX12_contract_23 ⟨(Nat.le_of_ble_eq_true rfl), (Nat.le_of_ble_eq_true rfl)⟩) hS (fun q _ h => hFc q h) hFc (fun r16 u t H locs ht hvm hw17 hB _ _ hS => ?_)
    obtain ⟨hT, hF1⟩ := hB
    rw [ht] at hT hF1
    have hF := hF.more hF1 (by decide)
    try dsimp only at hw17
    obtain ⟨h18, hi19, hi20⟩ := hw17
    refine lv_if_eq (tgt := 52) hx hb dX12_contract_26 (by decide) (fun c21 => ?_) (fun c21 => ?_)
    · have t22 : r16.toInt = 0 := ti_eq c21 rfl (by decide)
      have t23 : (0 : Int32).toInt = 0 := by decide
      have t24 : (9 : Int32).toInt = 9 := by decide
      have t25 : p1.toInt < (0 : Int32).toInt ∨ (9 : Int32).toInt < p1.toInt := hi20 c21
      refine lv_iconst (v := 1) hx hb dX12_contract_52 (by decide) ?_
      refine lv_goto (tgt := 57) hx hb dX12_contract_53 (by decide) ?_
      refine lv_iconst (v := 2) hx hb dX12_contract_57 (by decide) ?_
      have hFc := gA_free hG hA hS
      refine va_calli (va_runV (As := [.int 1, .int 2]) (rest := []) ⟨hx, hb, hml, hown, hts⟩ (s_throwsIf l dC dI kA G H q wN wH wB wC wL wK PI o0 1 2 hT hr_o0 (rg_t (a := 1) (by decide) (by omega) (by omega)) (by omega) (by omega) (by omega) (by omega)) (cwV 2 hts (goodIn_app (goodIn_r _ [12, 13, 14, 7] (by decide +kernel) (by decide +kernel)) (goodIn_ca (goodIn_r _ [11, 1] (by decide +kernel) (by decide +kernel)) (bs_in _ _))) rfl rfl rfl (by decide +kernel) ⟨(Nat.le_of_ble_eq_true rfl), (Nat.le_of_ble_eq_true rfl)⟩) ⟨fun a U g mk q => by obtain ⟨q0, q1, qK, qE⟩ := q; exact ⟨q0, q1, va_K.moved (u := U) (U := U.calling g mk a) (Vm.Alike.refl U.vm) qK, EV.blind g mk a qE⟩, gH_recv hK hT hr_o0 shm_0 rfl, fun U hU hW => ⟨rfl, hU, va_K.moved hW.alike hK, hE.call hS hFc hU hW⟩⟩ rfl rfl hl.1 rfl (lv_room (Nat.le_of_ble_eq_true rfl)) dX12_contract_58 ⟨(Nat.le_of_ble_eq_true rfl), (Nat.le_of_ble_eq_true rfl)⟩) hS (fun q _ h => hFc q h) hFc (fun r26 u t H locs ht hvm hw27 hB _ _ hS => ?_)
      obtain ⟨hT, hF1⟩ := hB
      rw [ht] at hT hF1
      have hF := hF.more hF1 (by decide)
      try dsimp only at hw27
      obtain ⟨h28, hd29⟩ := hw27
      obtain rfl : (1 : Int32) = r26 := hd29.symm
      refine lv_if_ne (tgt := 85) hx hb dX12_contract_61 (by decide) (fun c30 => ?_) (fun c30 => absurd c30 (by decide))
      refine lv_iconst (v := 0) hx hb dX12_contract_85 (by decide) ?_
      exact W.iret (v := 0) hx hb hr (fun t ht hW => ⟨⟨0, (), rfl, (by exact (rg_t (a := 0) (by decide) (by omega) (by omega))), by (try dsimp only); rw [ht]; exact ⟨hT, hF⟩⟩, hS.F ht⟩) hS.2.2 dX12_contract_86
    · have t31 : r16.toInt ≠ 0 := ti_ne c21 rfl (by decide)
      have t32 : (0 : Int32).toInt = 0 := by decide
      have t33 : (9 : Int32).toInt = 9 := by decide
      have t34 : (0 : Int32).toInt ≤ p1.toInt ∧ p1.toInt ≤ (9 : Int32).toInt := hi19 ((bit_of ⟨by omega, by omega⟩).resolve_left c21)
      refine lv_iload_n hx hb dX12_contract_29 rfl (lv_at hl 3 rfl) ?_
      refine lv_iconst (v := 1) hx hb dX12_contract_30 (by decide) ?_
      refine lv_sipush (v := 1000) hx hb dX12_contract_31 (by decide) ?_
      have hFc := gA_free hG hA hS
      refine va_calli (va_runS (As := [.int p2, .int 1, .int 1000]) (rest := [.ref o0]) ⟨hx, hb, hml, hown, hts⟩ (s_in l dC dI kA G H q wN wH wB wC wL wK PI p2 1 1000 hT (by omega) (by omega) (by omega) (by omega)) (va_cwS 3 hts (goodIn_app (goodIn_r _ [5, 6, 7] (by decide +kernel) (by decide +kernel)) (goodIn_ca (goodIn_r _ [4] (by decide +kernel) (by decide +kernel)) (bs_in _ _))) rfl rfl rfl (by decide +kernel) ⟨(Nat.le_of_ble_eq_true rfl), (Nat.le_of_ble_eq_true rfl)⟩) ⟨fun a U g mk q => by obtain ⟨q0, q1, qK, qE⟩ := q; exact ⟨q0, q1, va_K.moved (u := U) (U := U.calling g mk a) (Vm.Alike.refl U.vm) qK, EV.blind g mk a qE⟩, fun U hU hW => ⟨rfl, hU, va_K.moved hW.alike hK, hE.call hS hFc hU hW⟩⟩ rfl rfl hl.1 rfl (lv_room (Nat.le_of_ble_eq_true rfl)) dX12_contract_34 ⟨(Nat.le_of_ble_eq_true rfl), (Nat.le_of_ble_eq_true rfl)⟩) hS (fun q _ h => hFc q h) hFc (fun r35 u t H locs ht hvm hw36 hB _ _ hS => ?_)
      obtain ⟨hT, hF1⟩ := hB
      rw [ht] at hT hF1
      have hF := hF.more hF1 (by decide)
      try dsimp only at hw36
      obtain ⟨h37, hi38, hi39⟩ := hw36
      refine lv_if_eq (tgt := 52) hx hb dX12_contract_37 (by decide) (fun c40 => ?_) (fun c40 => ?_)
      · have t41 : r35.toInt = 0 := ti_eq c40 rfl (by decide)
        have t42 : (1 : Int32).toInt = 1 := by decide
        have t43 : (1000 : Int32).toInt = 1000 := by decide
        have t44 : p2.toInt < (1 : Int32).toInt ∨ (1000 : Int32).toInt < p2.toInt := hi39 c40
        refine lv_iconst (v := 1) hx hb dX12_contract_52 (by decide) ?_
        refine lv_goto (tgt := 57) hx hb dX12_contract_53 (by decide) ?_
        refine lv_iconst (v := 2) hx hb dX12_contract_57 (by decide) ?_
        have hFc := gA_free hG hA hS
        refine va_calli (va_runV (As := [.int 1, .int 2]) (rest := []) ⟨hx, hb, hml, hown, hts⟩ (s_throwsIf l dC dI kA G H q wN wH wB wC wL wK PI o0 1 2 hT hr_o0 (rg_t (a := 1) (by decide) (by omega) (by omega)) (by omega) (by omega) (by omega) (by omega)) (cwV 2 hts (goodIn_app (goodIn_r _ [12, 13, 14, 7] (by decide +kernel) (by decide +kernel)) (goodIn_ca (goodIn_r _ [11, 1] (by decide +kernel) (by decide +kernel)) (bs_in _ _))) rfl rfl rfl (by decide +kernel) ⟨(Nat.le_of_ble_eq_true rfl), (Nat.le_of_ble_eq_true rfl)⟩) ⟨fun a U g mk q => by obtain ⟨q0, q1, qK, qE⟩ := q; exact ⟨q0, q1, va_K.moved (u := U) (U := U.calling g mk a) (Vm.Alike.refl U.vm) qK, EV.blind g mk a qE⟩, gH_recv hK hT hr_o0 shm_0 rfl, fun U hU hW => ⟨rfl, hU, va_K.moved hW.alike hK, hE.call hS hFc hU hW⟩⟩ rfl rfl hl.1 rfl (lv_room (Nat.le_of_ble_eq_true rfl)) dX12_contract_58 ⟨(Nat.le_of_ble_eq_true rfl), (Nat.le_of_ble_eq_true rfl)⟩) hS (fun q _ h => hFc q h) hFc (fun r45 u t H locs ht hvm hw46 hB _ _ hS => ?_)
        obtain ⟨hT, hF1⟩ := hB
        rw [ht] at hT hF1
        have hF := hF.more hF1 (by decide)
        try dsimp only at hw46
        obtain ⟨h47, hd48⟩ := hw46
        obtain rfl : (1 : Int32) = r45 := hd48.symm
        refine lv_if_ne (tgt := 85) hx hb dX12_contract_61 (by decide) (fun c49 => ?_) (fun c49 => absurd c49 (by decide))
        refine lv_iconst (v := 0) hx hb dX12_contract_85 (by decide) ?_
        exact W.iret (v := 0) hx hb hr (fun t ht hW => ⟨⟨0, (), rfl, (by exact (rg_t (a := 0) (by decide) (by omega) (by omega))), by (try dsimp only); rw [ht]; exact ⟨hT, hF⟩⟩, hS.F ht⟩) hS.2.2 dX12_contract_86
      · have t50 : r35.toInt ≠ 0 := ti_ne c40 rfl (by decide)
        have t51 : (1 : Int32).toInt = 1 := by decide
        have t52 : (1000 : Int32).toInt = 1000 := by decide
        have t53 : (1 : Int32).toInt ≤ p2.toInt ∧ p2.toInt ≤ (1000 : Int32).toInt := hi38 ((bit_of ⟨by omega, by omega⟩).resolve_left c40)
        refine lv_iload hx hb dX12_contract_40 (lv_at hl 4 rfl) ?_
        refine lv_iconst (v := 0) hx hb dX12_contract_42 (by decide) ?_
        refine lv_sipush (v := 200) hx hb dX12_contract_43 (by decide) ?_
        have hFc := gA_free hG hA hS
        refine va_calli (va_runS (As := [.int p3, .int 0, .int 200]) (rest := [.ref o0]) ⟨hx, hb, hml, hown, hts⟩ (s_in l dC dI kA G H q wN wH wB wC wL wK PI p3 0 200 hT (by omega) (by omega) (by omega) (by omega)) (va_cwS 3 hts (goodIn_app (goodIn_r _ [5, 6, 7] (by decide +kernel) (by decide +kernel)) (goodIn_ca (goodIn_r _ [4] (by decide +kernel) (by decide +kernel)) (bs_in _ _))) rfl rfl rfl (by decide +kernel) ⟨(Nat.le_of_ble_eq_true rfl), (Nat.le_of_ble_eq_true rfl)⟩) ⟨fun a U g mk q => by obtain ⟨q0, q1, qK, qE⟩ := q; exact ⟨q0, q1, va_K.moved (u := U) (U := U.calling g mk a) (Vm.Alike.refl U.vm) qK, EV.blind g mk a qE⟩, fun U hU hW => ⟨rfl, hU, va_K.moved hW.alike hK, hE.call hS hFc hU hW⟩⟩ rfl rfl hl.1 rfl (lv_room (Nat.le_of_ble_eq_true rfl)) dX12_contract_46 ⟨(Nat.le_of_ble_eq_true rfl), (Nat.le_of_ble_eq_true rfl)⟩) hS (fun q _ h => hFc q h) hFc (fun r54 u t H locs ht hvm hw55 hB _ _ hS => ?_)
        obtain ⟨hT, hF1⟩ := hB
        rw [ht] at hT hF1
        have hF := hF.more hF1 (by decide)
        try dsimp only at hw55
        obtain ⟨h56, hi57, hi58⟩ := hw55
        refine lv_if_ne (tgt := 56) hx hb dX12_contract_49 (by decide) (fun c59 => ?_) (fun c59 => ?_)
        · have t60 : r54.toInt ≠ 0 := ti_ne c59 rfl (by decide)
          have t61 : (0 : Int32).toInt = 0 := by decide
          have t62 : (200 : Int32).toInt = 200 := by decide
          have t63 : (0 : Int32).toInt ≤ p3.toInt ∧ p3.toInt ≤ (200 : Int32).toInt := hi57 ((bit_of ⟨by omega, by omega⟩).resolve_left c59)
          refine lv_iconst (v := 0) hx hb dX12_contract_56 (by decide) ?_
          refine lv_iconst (v := 2) hx hb dX12_contract_57 (by decide) ?_
          have hFc := gA_free hG hA hS
          refine va_calli (va_runV (As := [.int 0, .int 2]) (rest := []) ⟨hx, hb, hml, hown, hts⟩ (s_throwsIf l dC dI kA G H q wN wH wB wC wL wK PI o0 0 2 hT hr_o0 (rg_t (a := 0) (by decide) (by omega) (by omega)) (by omega) (by omega) (by omega) (by omega)) (cwV 2 hts (goodIn_app (goodIn_r _ [12, 13, 14, 7] (by decide +kernel) (by decide +kernel)) (goodIn_ca (goodIn_r _ [11, 1] (by decide +kernel) (by decide +kernel)) (bs_in _ _))) rfl rfl rfl (by decide +kernel) ⟨(Nat.le_of_ble_eq_true rfl), (Nat.le_of_ble_eq_true rfl)⟩) ⟨fun a U g mk q => by obtain ⟨q0, q1, qK, qE⟩ := q; exact ⟨q0, q1, va_K.moved (u := U) (U := U.calling g mk a) (Vm.Alike.refl U.vm) qK, EV.blind g mk a qE⟩, gH_recv hK hT hr_o0 shm_0 rfl, fun U hU hW => ⟨rfl, hU, va_K.moved hW.alike hK, hE.call hS hFc hU hW⟩⟩ rfl rfl hl.1 rfl (lv_room (Nat.le_of_ble_eq_true rfl)) dX12_contract_58 ⟨(Nat.le_of_ble_eq_true rfl), (Nat.le_of_ble_eq_true rfl)⟩) hS (fun q _ h => hFc q h) hFc (fun r64 u t H locs ht hvm hw65 hB _ _ hS => ?_)
          obtain ⟨hT, hF1⟩ := hB
          rw [ht] at hT hF1
          have hF := hF.more hF1 (by decide)
          try dsimp only at hw65
          obtain ⟨h66, hd67⟩ := hw65
          obtain rfl : (0 : Int32) = r64 := hd67.symm
          refine lv_if_ne (tgt := 85) hx hb dX12_contract_61 (by decide) (fun c68 => absurd c68 (by decide)) (fun c68 => ?_)
          refine lv_aload_n hx hb dX12_contract_64 rfl (lv_at hl 0 rfl) ?_
          refine lv_aload_n hx hb dX12_contract_65 rfl (lv_at hl 0 rfl) ?_
          refine lv_iload_n hx hb dX12_contract_66 rfl (lv_at hl 1 rfl) ?_
          have hFc := gA_free hG hA hS
          refine va_calli (va_runV (As := [.int p0]) (rest := [.ref o0]) ⟨hx, hb, hml, hown, hts⟩ (s_isDike l dC dI kA G H q wN wH wB wC wL wK PI o0 p0 hT hr_o0 (rg_t (a := p0.toInt) rfl (by have q8 := ti_all p0; omega) (by have q8 := ti_all p0; omega)) (by omega) (by omega) (by omega) (by omega)) (cwV 1 hts (goodIn_app (goodIn_r _ [23, 24, 25, 7] (by decide +kernel) (by decide +kernel)) (goodIn_ca (goodIn_r _ [15, 16, 3, 17, 18, 19, 7, 20, 21, 22] (by decide +kernel) (by decide +kernel)) (bs_in _ _))) rfl rfl rfl (by decide +kernel) ⟨(Nat.le_of_ble_eq_true rfl), (Nat.le_of_ble_eq_true rfl)⟩) ⟨fun a U g mk q => by obtain ⟨q0, q1, qK, qE⟩ := q; exact ⟨q0, q1, va_K.moved (u := U) (U := U.calling g mk a) (Vm.Alike.refl U.vm) qK, EV.blind g mk a qE⟩, gH_recv hK hT hr_o0 shm_0 rfl, fun U hU hW => ⟨rfl, hU, va_K.moved hW.alike hK, hE.call hS hFc hU hW⟩⟩ rfl rfl hl.1 rfl (lv_room (Nat.le_of_ble_eq_true rfl)) dX12_contract_67 ⟨(Nat.le_of_ble_eq_true rfl), (Nat.le_of_ble_eq_true rfl)⟩) hS (fun q _ h => hFc q h) hFc (fun r69 u t H locs ht hvm hw70 hB _ _ hS => ?_)
          obtain ⟨hT, hF1⟩ := hB
          rw [ht] at hT hF1
          have hF := hF.more hF1 (by decide)
          try dsimp only at hw70
          have h71 := hw70
          refine lv_if_ne (tgt := 77) hx hb dX12_contract_70 (by decide) (fun c72 => ?_) (fun c72 => ?_)
          · have t73 : r69.toInt ≠ 0 := ti_ne c72 rfl (by decide)
            refine lv_iconst (v := 0) hx hb dX12_contract_77 (by decide) ?_
            refine lv_iconst (v := 3) hx hb dX12_contract_78 (by decide) ?_
            have hFc := gA_free hG hA hS
            refine va_calli (va_runV (As := [.int 0, .int 3]) (rest := []) ⟨hx, hb, hml, hown, hts⟩ (s_throwsIf l dC dI kA G H q wN wH wB wC wL wK PI o0 0 3 hT hr_o0 (rg_t (a := 0) (by decide) (by omega) (by omega)) (by omega) (by omega) (by omega) (by omega)) (cwV 2 hts (goodIn_app (goodIn_r _ [12, 13, 14, 7] (by decide +kernel) (by decide +kernel)) (goodIn_ca (goodIn_r _ [11, 1] (by decide +kernel) (by decide +kernel)) (bs_in _ _))) rfl rfl rfl (by decide +kernel) ⟨(Nat.le_of_ble_eq_true rfl), (Nat.le_of_ble_eq_true rfl)⟩) ⟨fun a U g mk q => by obtain ⟨q0, q1, qK, qE⟩ := q; exact ⟨q0, q1, va_K.moved (u := U) (U := U.calling g mk a) (Vm.Alike.refl U.vm) qK, EV.blind g mk a qE⟩, gH_recv hK hT hr_o0 shm_0 rfl, fun U hU hW => ⟨rfl, hU, va_K.moved hW.alike hK, hE.call hS hFc hU hW⟩⟩ rfl rfl hl.1 rfl (lv_room (Nat.le_of_ble_eq_true rfl)) dX12_contract_79 ⟨(Nat.le_of_ble_eq_true rfl), (Nat.le_of_ble_eq_true rfl)⟩) hS (fun q _ h => hFc q h) hFc (fun r74 u t H locs ht hvm hw75 hB _ _ hS => ?_)
            obtain ⟨hT, hF1⟩ := hB
            rw [ht] at hT hF1
            have hF := hF.more hF1 (by decide)
            try dsimp only at hw75
            obtain ⟨h76, hd77⟩ := hw75
            obtain rfl : (0 : Int32) = r74 := hd77.symm
            refine lv_if_eq (tgt := 87) hx hb dX12_contract_82 (by decide) (fun c78 => ?_) (fun c78 => absurd c78 (by decide))
            refine lv_aload_n hx hb dX12_contract_87 rfl (lv_at hl 0 rfl) ?_
            refine tw_get hx hb hts bF_X12 hown hK hT hr_o0 shm_0 rfl 64 (by decide) (ht_at hts 25 rfl) (fun _ h9 => h9) dX12_contract_88 (fun v9 m79 h9 => ?_)
            obtain ⟨x80, rfl, gx80, kx80⟩ := h9 _ rfl
            refine lv_bipush (v := 40) hx hb dX12_contract_91 (by decide) ?_
            refine lv_icmp_ne (tgt := 98) hx hb dX12_contract_93 (by decide) (fun c81 => ?_) (fun c81 => ?_)
            · have t82 : x80.toInt ≠ 40 := ti_ne c81 rfl (by decide)
              refine lv_aload_n hx hb dX12_contract_98 rfl (lv_at hl 0 rfl) ?_
              refine tw_get hx hb hts bF_X12 hown hK hT hr_o0 shm_0 rfl 56 (by decide) (ht_at hts 26 rfl) (fun _ h9 => h9) dX12_contract_99 (fun v9 m83 h9 => ?_)
              obtain ⟨rfl, hg84⟩ := h9 _ rfl
              refine lv_aload_n hx hb dX12_contract_102 rfl (lv_at hl 0 rfl) ?_
              refine tw_getM (v := .int x80) hx hb hts bF_X12 hown hK hT hr_o0 shm_0 rfl 64 (by decide) (ht_at hts 25 rfl) (fun _ h9 => h9) m79 dX12_contract_103 ?_
              refine lv_iload_n hx hb dX12_contract_106 rfl (lv_at hl 1 rfl) ?_
              refine tw_iast (i := x80) (x := p0) hx hb hK hT hG hS hg84 shm_57 rfl (vin_t (a := x80.toInt) rfl (by omega) (by omega)) (gi_all _) dX12_contract_107 (fun H locs hT oq m85 oi hS => ?_)
              have hF := hF.ast hg84 skm_57 oq (by decide)
              have m86 := (el_kept (oq _ (gne hr_o0 hg84 (by decide)))).trans m79
              refine lv_aload_n hx hb dX12_contract_108 rfl (lv_at hl 0 rfl) ?_
              refine tw_get hx hb hts bF_X12 hown hK hT hr_o0 shm_0 rfl 57 (by decide) (ht_at hts 27 rfl) (fun _ h9 => h9) dX12_contract_109 (fun v9 m87 h9 => ?_)
              obtain ⟨rfl, hg88⟩ := h9 _ rfl
              refine lv_aload_n hx hb dX12_contract_112 rfl (lv_at hl 0 rfl) ?_
              refine tw_getM (v := .int x80) hx hb hts bF_X12 hown hK hT hr_o0 shm_0 rfl 64 (by decide) (ht_at hts 25 rfl) (fun _ h9 => h9) m86 dX12_contract_113 ?_
              refine lv_iload_n hx hb dX12_contract_116 rfl (lv_at hl 2 rfl) ?_
              refine tw_iast (i := x80) (x := p1) hx hb hK hT hG hS hg88 shm_58 rfl (vin_t (a := x80.toInt) rfl (by omega) (by omega)) (gi_of (show p1.toInt = p1.toInt from rfl) (by omega) (by omega)) dX12_contract_117 (fun H locs hT oq m89 oi hS => ?_)
              have hF := hF.ast hg88 skm_58 oq (by decide)
              have m90 := (el_kept (oq _ (gne hr_o0 hg88 (by decide)))).trans m86
              have m91 := (el_kept (oq _ (gne hg84 hg88 (by decide)))).trans m85
              refine lv_aload_n hx hb dX12_contract_118 rfl (lv_at hl 0 rfl) ?_
              refine tw_get hx hb hts bF_X12 hown hK hT hr_o0 shm_0 rfl 58 (by decide) (ht_at hts 28 rfl) (fun _ h9 => h9) dX12_contract_119 (fun v9 m92 h9 => ?_)
              obtain ⟨rfl, hg93⟩ := h9 _ rfl
              refine lv_aload_n hx hb dX12_contract_122 rfl (lv_at hl 0 rfl) ?_
              refine tw_getM (v := .int x80) hx hb hts bF_X12 hown hK hT hr_o0 shm_0 rfl 64 (by decide) (ht_at hts 25 rfl) (fun _ h9 => h9) m90 dX12_contract_123 ?_
              refine lv_iload_n hx hb dX12_contract_126 rfl (lv_at hl 3 rfl) ?_
              refine tw_iast (i := x80) (x := p2) hx hb hK hT hG hS hg93 shm_59 rfl (vin_t (a := x80.toInt) rfl (by omega) (by omega)) (gi_all _) dX12_contract_127 (fun H locs hT oq m94 oi hS => ?_)
              have hF := hF.ast hg93 skm_59 oq (by decide)
              have m95 := (el_kept (oq _ (gne hr_o0 hg93 (by decide)))).trans m90
              have m96 := (el_kept (oq _ (gne hg84 hg93 (by decide)))).trans m91
              have m97 := (el_kept (oq _ (gne hg88 hg93 (by decide)))).trans m89
              refine lv_aload_n hx hb dX12_contract_128 rfl (lv_at hl 0 rfl) ?_
              refine tw_get hx hb hts bF_X12 hown hK hT hr_o0 shm_0 rfl 59 (by decide) (ht_at hts 29 rfl) (fun _ h9 => h9) dX12_contract_129 (fun v9 m98 h9 => ?_)
              obtain ⟨rfl, hg99⟩ := h9 _ rfl
              refine lv_aload_n hx hb dX12_contract_132 rfl (lv_at hl 0 rfl) ?_
              refine tw_getM (v := .int x80) hx hb hts bF_X12 hown hK hT hr_o0 shm_0 rfl 64 (by decide) (ht_at hts 25 rfl) (fun _ h9 => h9) m95 dX12_contract_133 ?_
              refine lv_iload hx hb dX12_contract_136 (lv_at hl 4 rfl) ?_
              refine tw_iast (i := x80) (x := p3) hx hb hK hT hG hS hg99 shm_60 rfl (vin_t (a := x80.toInt) rfl (by omega) (by omega)) (gi_all _) dX12_contract_138 (fun H locs hT oq m100 oi hS => ?_)
              have hF := hF.ast hg99 skm_60 oq (by decide)
              have m101 := (el_kept (oq _ (gne hr_o0 hg99 (by decide)))).trans m95
              have m102 := (el_kept (oq _ (gne hg84 hg99 (by decide)))).trans m96
              have m103 := (el_kept (oq _ (gne hg88 hg99 (by decide)))).trans m97
              have m104 := (el_kept (oq _ (gne hg93 hg99 (by decide)))).trans m94
              refine lv_aload_n hx hb dX12_contract_139 rfl (lv_at hl 0 rfl) ?_
              refine tw_get hx hb hts bF_X12 hown hK hT hr_o0 shm_0 rfl 61 (by decide) (ht_at hts 30 rfl) (fun _ h9 => h9) dX12_contract_140 (fun v9 m105 h9 => ?_)
              obtain ⟨rfl, hg106⟩ := h9 _ rfl
              refine lv_aload_n hx hb dX12_contract_143 rfl (lv_at hl 0 rfl) ?_
              refine tw_getM (v := .int x80) hx hb hts bF_X12 hown hK hT hr_o0 shm_0 rfl 64 (by decide) (ht_at hts 25 rfl) (fun _ h9 => h9) m101 dX12_contract_144 ?_
              refine lv_ldcw (v := 1000000000) hx hb hown (ht_at hts 31 rfl) dX12_contract_147 ?_
              refine tw_iast (i := x80) (x := 1000000000) hx hb hK hT hG hS hg106 shm_62 rfl (vin_t (a := x80.toInt) rfl (by omega) (by omega)) (gi_all _) dX12_contract_150 (fun H locs hT oq m107 oi hS => ?_)
              have hF := hF.ast hg106 skm_62 oq (by decide)
              have m108 := (el_kept (oq _ (gne hr_o0 hg106 (by decide)))).trans m101
              have m109 := (el_kept (oq _ (gne hg84 hg106 (by decide)))).trans m102
              have m110 := (el_kept (oq _ (gne hg88 hg106 (by decide)))).trans m103
              have m111 := (el_kept (oq _ (gne hg93 hg106 (by decide)))).trans m104
              have m112 := (el_kept (oq _ (gne hg99 hg106 (by decide)))).trans m100
              refine lv_aload_n hx hb dX12_contract_151 rfl (lv_at hl 0 rfl) ?_
              refine lv_dup hx hb dX12_contract_152 rfl ?_
              refine tw_getM (v := .int x80) hx hb hts bF_X12 hown hK hT hr_o0 shm_0 rfl 64 (by decide) (ht_at hts 25 rfl) (fun _ h9 => h9) m108 dX12_contract_153 ?_
              refine lv_iconst (v := 1) hx hb dX12_contract_156 (by decide) ?_
              refine lv_iadd hx hb dX12_contract_157 ?_
              refine lv_topi (fun x113 ex113 => ?_)
              have t114 : x113.toInt = x80.toInt + 1 := ti_add ex113 rfl (by decide) (by omega) (by omega)
              refine tw_put (v := .int x113) (ty := .int) hx hb hts bF_X12 tyX12 tyX12_ok nmX12 hown hK hT hG hS hr_o0 shm_0 rfl 64 (by decide) (ht_at hts 25 rfl) (fun _ h9 => h9) rfl (by decide +kernel) rfl rfl (gl_at rfl (gi_of (show x113.toInt = x113.toInt from rfl) (by omega) (by omega))) dX12_contract_158 (fun H locs hT oq m115 oj hS => ?_)
              have hF := hF.put hr_o0 skm_0 oq oj (by decide)
              have m116 := (el_kept (oq _ (gne hg84 hr_o0 (by decide)))).trans m109
              have m117 := (el_kept (oq _ (gne hg88 hr_o0 (by decide)))).trans m110
              have m118 := (el_kept (oq _ (gne hg93 hr_o0 (by decide)))).trans m111
              have m119 := (el_kept (oq _ (gne hg99 hr_o0 (by decide)))).trans m112
              have m120 := (el_kept (oq _ (gne hg106 hr_o0 (by decide)))).trans m107
              refine lv_aload_n hx hb dX12_contract_161 rfl (lv_at hl 0 rfl) ?_
              refine tw_getM (v := .int x113) hx hb hts bF_X12 hown hK hT hr_o0 shm_0 rfl 64 (by decide) (ht_at hts 25 rfl) (fun _ h9 => h9) m115 dX12_contract_162 ?_
              refine lv_iconst (v := 1) hx hb dX12_contract_165 (by decide) ?_
              refine lv_isub hx hb dX12_contract_166 ?_
              refine lv_topi (fun x121 ex121 => ?_)
              have t122 : x121.toInt = x113.toInt - 1 := ti_sub ex121 rfl (by decide) (by omega) (by omega)
              exact W.iret (v := x121) hx hb hr (fun t ht hW => ⟨⟨x121, (), rfl, (by exact (rg_t (a := x121.toInt) rfl (by have q8 := ti_all x121; omega) (by have q8 := ti_all x121; omega))), by (try dsimp only); rw [ht]; exact ⟨hT, hF⟩⟩, hS.F ht⟩) hS.2.2 dX12_contract_167
            · have t123 : x80.toInt = 40 := ti_eq c81 rfl (by decide)
              refine lv_iconst (v := (-1)) hx hb dX12_contract_96 (by decide) ?_
              exact W.iret (v := (-1)) hx hb hr (fun t ht hW => ⟨⟨(-1), (), rfl, (by exact (rg_t (a := (-1)) (by decide) (by omega) (by omega))), by (try dsimp only); rw [ht]; exact ⟨hT, hF⟩⟩, hS.F ht⟩) hS.2.2 dX12_contract_97
          · have t124 : r69.toInt = 0 := ti_eq c72 rfl (by decide)
            refine lv_iconst (v := 1) hx hb dX12_contract_73 (by decide) ?_
            refine lv_goto (tgt := 78) hx hb dX12_contract_74 (by decide) ?_
            refine lv_iconst (v := 3) hx hb dX12_contract_78 (by decide) ?_
            have hFc := gA_free hG hA hS
            refine va_calli (va_runV (As := [.int 1, .int 3]) (rest := []) ⟨hx, hb, hml, hown, hts⟩ (s_throwsIf l dC dI kA G H q wN wH wB wC wL wK PI o0 1 3 hT hr_o0 (rg_t (a := 1) (by decide) (by omega) (by omega)) (by omega) (by omega) (by omega) (by omega)) (cwV 2 hts (goodIn_app (goodIn_r _ [12, 13, 14, 7] (by decide +kernel) (by decide +kernel)) (goodIn_ca (goodIn_r _ [11, 1] (by decide +kernel) (by decide +kernel)) (bs_in _ _))) rfl rfl rfl (by decide +kernel) ⟨(Nat.le_of_ble_eq_true rfl), (Nat.le_of_ble_eq_true rfl)⟩) ⟨fun a U g mk q => by obtain ⟨q0, q1, qK, qE⟩ := q; exact ⟨q0, q1, va_K.moved (u := U) (U := U.calling g mk a) (Vm.Alike.refl U.vm) qK, EV.blind g mk a qE⟩, gH_recv hK hT hr_o0 shm_0 rfl, fun U hU hW => ⟨rfl, hU, va_K.moved hW.alike hK, hE.call hS hFc hU hW⟩⟩ rfl rfl hl.1 rfl (lv_room (Nat.le_of_ble_eq_true rfl)) dX12_contract_79 ⟨(Nat.le_of_ble_eq_true rfl), (Nat.le_of_ble_eq_true rfl)⟩) hS (fun q _ h => hFc q h) hFc (fun r125 u t H locs ht hvm hw126 hB _ _ hS => ?_)
            obtain ⟨hT, hF1⟩ := hB
            rw [ht] at hT hF1
            have hF := hF.more hF1 (by decide)
            try dsimp only at hw126
            obtain ⟨h127, hd128⟩ := hw126
            obtain rfl : (1 : Int32) = r125 := hd128.symm
            refine lv_if_eq (tgt := 87) hx hb dX12_contract_82 (by decide) (fun c129 => absurd c129 (by decide)) (fun c129 => ?_)
            refine lv_iconst (v := 0) hx hb dX12_contract_85 (by decide) ?_
            exact W.iret (v := 0) hx hb hr (fun t ht hW => ⟨⟨0, (), rfl, (by exact (rg_t (a := 0) (by decide) (by omega) (by omega))), by (try dsimp only); rw [ht]; exact ⟨hT, hF⟩⟩, hS.F ht⟩) hS.2.2 dX12_contract_86
        · have t130 : r54.toInt = 0 := ti_eq c59 rfl (by decide)
          have t131 : (0 : Int32).toInt = 0 := by decide
          have t132 : (200 : Int32).toInt = 200 := by decide
          have t133 : p3.toInt < (0 : Int32).toInt ∨ (200 : Int32).toInt < p3.toInt := hi58 c59
          refine lv_iconst (v := 1) hx hb dX12_contract_52 (by decide) ?_
          refine lv_goto (tgt := 57) hx hb dX12_contract_53 (by decide) ?_
          refine lv_iconst (v := 2) hx hb dX12_contract_57 (by decide) ?_
          have hFc := gA_free hG hA hS
          refine va_calli (va_runV (As := [.int 1, .int 2]) (rest := []) ⟨hx, hb, hml, hown, hts⟩ (s_throwsIf l dC dI kA G H q wN wH wB wC wL wK PI o0 1 2 hT hr_o0 (rg_t (a := 1) (by decide) (by omega) (by omega)) (by omega) (by omega) (by omega) (by omega)) (cwV 2 hts (goodIn_app (goodIn_r _ [12, 13, 14, 7] (by decide +kernel) (by decide +kernel)) (goodIn_ca (goodIn_r _ [11, 1] (by decide +kernel) (by decide +kernel)) (bs_in _ _))) rfl rfl rfl (by decide +kernel) ⟨(Nat.le_of_ble_eq_true rfl), (Nat.le_of_ble_eq_true rfl)⟩) ⟨fun a U g mk q => by obtain ⟨q0, q1, qK, qE⟩ := q; exact ⟨q0, q1, va_K.moved (u := U) (U := U.calling g mk a) (Vm.Alike.refl U.vm) qK, EV.blind g mk a qE⟩, gH_recv hK hT hr_o0 shm_0 rfl, fun U hU hW => ⟨rfl, hU, va_K.moved hW.alike hK, hE.call hS hFc hU hW⟩⟩ rfl rfl hl.1 rfl (lv_room (Nat.le_of_ble_eq_true rfl)) dX12_contract_58 ⟨(Nat.le_of_ble_eq_true rfl), (Nat.le_of_ble_eq_true rfl)⟩) hS (fun q _ h => hFc q h) hFc (fun r134 u t H locs ht hvm hw135 hB _ _ hS => ?_)
          obtain ⟨hT, hF1⟩ := hB
          rw [ht] at hT hF1
          have hF := hF.more hF1 (by decide)
          try dsimp only at hw135
          obtain ⟨h136, hd137⟩ := hw135
          obtain rfl : (1 : Int32) = r134 := hd137.symm
          refine lv_if_ne (tgt := 85) hx hb dX12_contract_61 (by decide) (fun c138 => ?_) (fun c138 => absurd c138 (by decide))
          refine lv_iconst (v := 0) hx hb dX12_contract_85 (by decide) ?_
          exact W.iret (v := 0) hx hb hr (fun t ht hW => ⟨⟨0, (), rfl, (by exact (rg_t (a := 0) (by decide) (by omega) (by omega))), by (try dsimp only); rw [ht]; exact ⟨hT, hF⟩⟩, hS.F ht⟩) hS.2.2 dX12_contract_86
