def w_s_fill : List Cond := .code yX12_fill cX12_fill 4 (some .boolean) :: ([.fieldLink RX12 194 "SeaLandModel" "thrown" "I", .code yX12_noSquare cX12_noSquare 1 (some .boolean), .code yX12_in cX12_in 3 (some .boolean), .methodLink RX12 197 yX12_in, .static yX12_in, .initialized RX12, .methodLink RX12 220 yX12_noSquare, .static yX12_noSquare, .code yX12_throwsIf cX12_throwsIf 3 (some .boolean), .methodLink RX12 224 yX12_throwsIf, .instanceMethod yX12_throwsIf, .selects RX12 yX12_throwsIf yX12_throwsIf, .constant RX12 241 100000, .code yX12_isLand cX12_isLand 2 (some .boolean), .fieldLink RX12 9 "SeaLandModel" "world" "[I", .methodLink RX12 235 yX12_isLand, .instanceMethod yX12_isLand, .selects RX12 yX12_isLand yX12_isLand, .fieldLink RX12 238 "SeaLandModel" "rows" "I"] ++ bs)
set_option maxHeartbeats 4000000 in
set_option maxRecDepth 100000 in
theorem s_fill (l : Launch) (dC : Nat → ClassId) (dI : Nat → Nat → Nat) (kA : Nat → ClassId) (G : gT) (H0 : Heap) (q : Nat → Nat) (wN wH wB wC : Int) (wL wK : Nat → Prop) (PI : Nat → Int → Prop) (o0 : Nat) (p0 : Int32) (p1 : Int32) (p2 : Int32) (hT : gH (dC, dI) kA (SHm q (wP wN wH wB wC wC wL wK) PI) G H0) (hr_o0 : G o0 = some 0) (hgn : 6500000 ≤ wN ∧ wN ≤ 400000000) (hgh : 0 ≤ wH ∧ wH ≤ 40000) (hgb : 0 ≤ wB ∧ wB ≤ 3850000) (hgc : 0 ≤ wC ∧ wC ≤ 30) : Met l yX12_fill w_s_fill ({ frames := 2, cells := 0, slots := 0, locals := 42 }) (va_Pc [.ref o0, .int p0, .int p1, .int p2] (fun U => U.heap = H0 ∧ va_K (dC, dI) vwCl (tyl kA) U ∧ EV (gA G H0.size) U U.heap)) (va_Qi (fun (r : Int32) (u : Unit) => (0 ≤ r.toInt ∧ r.toInt ≤ 1)) (fun (_ : Unit) (t : State) => gH (dC, dI) kA (SHm q (wP wN wH wB wC wC wL wK) PI) G t.heap ∧ gF (dC, dI) SKm G ([(0, 0), (0, 9), (2, 0)] : List (Nat × Nat)) H0 t.heap) (gA G H0.size)) 0 0 (gA G H0.size) := by
  refine Met.ofW (cc := cX12_fill) (maxL := 4) (ret := (some .boolean)) (by decide) rfl ?_
  intro p e s m args below meth c s₁ B hml hv
  obtain ⟨rfl, hH0, hK, hE⟩ := hv
  have hx := B.exec
  have hb := B.bytes
  have hr := B.returns
  have hts := atoms_spec (ws := w_s_fill) B.pre
  have hown : s.vm.findClass RX12 = some m.cls := findClass_of_methodNamed B.named
  have hlocks := B.notSynchronized
  subst hH0
  generalize hAe : gA G s.heap.size = A at hE ⊢
  have hA : ∀ q : Nat, s.heap.size ≤ q → A q := fun q h => by rw [← hAe]; exact Or.inr h
  have hG := gA_of hAe
  have hS : va_S A s.heap s.heap [] := va_S.rf
  have hF : gF (dC, dI) SKm G ([(0, 0), (0, 9), (2, 0)] : List (Nat × Nat)) s.heap s.heap := gF.rf
  have hl := lv_entry ([.ref o0, .int p0, .int p1, .int p2]) (n := 4) (Nat.le_of_ble_eq_true rfl)
  rw [lg_entry_eq]
  generalize (lg_sl ([.ref o0, .int p0, .int p1, .int p2]) ++ List.replicate (4 - (lg_sl ([.ref o0, .int p0, .int p1, .int p2])).length) Slot.unset).toArray = ls at hl ⊢
  have hl : lv_has ls 4 [(0, .ref o0), (1, .int p0), (2, .int p1), (3, .int p2)] := hl
  refine lv_aload_n hx hb dX12_fill_0 rfl (lv_at hl 0 rfl) ?_
  refine lv_iconst (v := 0) hx hb dX12_fill_1 (by decide) ?_
  refine tw_put (v := .int 0) (ty := .int) hx hb hts bF_X12 tyX12 tyX12_ok nmX12 hown hK hT hG hS hr_o0 shm_0 rfl 0 (by decide) (ht_at hts 0 rfl) (fun _ h9 => h9) rfl (by decide +kernel) rfl rfl (gl_at rfl (gi_all _)) dX12_fill_2 (fun H locs hT oq m1 oj hS => ?_)
  have hF := hF.put hr_o0 skm_0 oq oj (by decide)
  refine lv_aload_n hx hb dX12_fill_5 rfl (lv_at hl 0 rfl) ?_
  refine lv_iload_n hx hb dX12_fill_6 rfl (lv_at hl 1 rfl) ?_
  have hFc := gA_free hG hA hS
  refine va_calli (va_runS (As := [.int p0]) (rest := [.ref o0]) ⟨hx, hb, hml, hown, hts⟩ (s_noSquare l dC dI kA G H q wN wH wB wC wL wK PI p0 hT (by omega) (by omega) (by omega) (by omega)) (va_cwS 1 hts (goodIn_app (goodIn_r _ [7, 8, 6] (by decide +kernel) (by decide +kernel)) (goodIn_ca (goodIn_r _ [2, 3, 4, 5, 6] (by decide +kernel) (by decide +kernel)) (bs_in _ _))) rfl rfl rfl (by decide +kernel) ⟨(Nat.le_of_ble_eq_true rfl), (Nat.le_of_ble_eq_true rfl)⟩) ⟨fun a U g mk q => by obtain ⟨q0, q1, qK, qE⟩ := q; exact ⟨q0, q1, va_K.moved (u := U) (U := U.calling g mk a) (Vm.Alike.refl U.vm) qK, EV.blind g mk a qE⟩, fun U hU hW => ⟨rfl, hU, va_K.moved hW.alike hK, hE.call hS hFc hU hW⟩⟩ rfl rfl hl.1 rfl (lv_room (Nat.le_of_ble_eq_true rfl)) dX12_fill_7 ⟨(Nat.le_of_ble_eq_true rfl), (Nat.le_of_ble_eq_true rfl)⟩) hS (fun q _ h => hFc q h) hFc (fun r2 u t H locs ht hvm hw3 hB _ _ hS => ?_)
  obtain ⟨hT, hF1⟩ := hB
  rw [ht] at hT hF1
  have m4 := (hF1.fld hr_o0 skm_0 (k := 0) (by decide) (by decide)).trans m1
  have hF := hF.more hF1 (by decide)
  try dsimp only at hw3
  obtain ⟨h5, hi6⟩ := hw3
  refine lv_iconst (v := 1) hx hb dX12_fill_10 (by decide) ?_
  have hFc := gA_free hG hA hS
  refine va_calli (va_runV (As := [.int r2, .int 1]) (rest := []) ⟨hx, hb, hml, hown, hts⟩ (s_throwsIf l dC dI kA G H q wN wH wB wC wL wK PI o0 r2 1 hT hr_o0 (rg_t (a := r2.toInt) rfl (by have q8 := ti_all r2; omega) (by have q8 := ti_all r2; omega)) (by omega) (by omega) (by omega) (by omega)) (cwV 2 hts (goodIn_app (goodIn_r _ [10, 11, 12, 6] (by decide +kernel) (by decide +kernel)) (goodIn_ca (goodIn_r _ [9, 1] (by decide +kernel) (by decide +kernel)) (bs_in _ _))) rfl rfl rfl (by decide +kernel) ⟨(Nat.le_of_ble_eq_true rfl), (Nat.le_of_ble_eq_true rfl)⟩) ⟨fun a U g mk q => by obtain ⟨q0, q1, qK, qE⟩ := q; exact ⟨q0, q1, va_K.moved (u := U) (U := U.calling g mk a) (Vm.Alike.refl U.vm) qK, EV.blind g mk a qE⟩, gH_recv hK hT hr_o0 shm_0 rfl, fun U hU hW => ⟨rfl, hU, va_K.moved hW.alike hK, hE.call hS hFc hU hW⟩⟩ rfl rfl hl.1 rfl (lv_room (Nat.le_of_ble_eq_true rfl)) dX12_fill_11 ⟨(Nat.le_of_ble_eq_true rfl), (Nat.le_of_ble_eq_true rfl)⟩) hS (fun q _ h => hFc q h) hFc (fun r7 u t H locs ht hvm hw8 hB _ _ hS => ?_)
  obtain ⟨hT, hF1⟩ := hB
  rw [ht] at hT hF1
  have hF := hF.more hF1 (by decide)
  try dsimp only at hw8
  obtain ⟨h10, hd11⟩ := hw8
  obtain rfl : r2 = r7 := hd11.symm
  refine lv_if_ne (tgt := 59) hx hb dX12_fill_14 (by decide) (fun c12 => ?_) (fun c12 => ?_)
  · have t13 : r2.toInt ≠ 0 := ti_ne c12 rfl (by decide)
    refine lv_iconst (v := 0) hx hb dX12_fill_59 (by decide) ?_
    exact W.zret (v := 0) hx hb hr (by decide) (fun t ht hW => ⟨⟨0, (), rfl, (by exact (rg_t (a := 0) (by decide) (by omega) (by omega))), by (try dsimp only); rw [ht]; exact ⟨hT, hF⟩⟩, hS.F ht⟩) hS.2.2 dX12_fill_60
  · have t14 : r2.toInt = 0 := ti_eq c12 rfl (by decide)
    have t15 : 0 ≤ p0.toInt ∧ p0.toInt ≤ 95 := hi6 c12
    refine lv_aload_n hx hb dX12_fill_17 rfl (lv_at hl 0 rfl) ?_
    refine lv_iload_n hx hb dX12_fill_18 rfl (lv_at hl 2 rfl) ?_
    refine lv_iconst (v := 0) hx hb dX12_fill_19 (by decide) ?_
    refine lv_sipush (v := 900) hx hb dX12_fill_20 (by decide) ?_
    have hFc := gA_free hG hA hS
    refine va_calli (va_runS (As := [.int p1, .int 0, .int 900]) (rest := [.ref o0]) ⟨hx, hb, hml, hown, hts⟩ (s_in l dC dI kA G H q wN wH wB wC wL wK PI p1 0 900 hT (by omega) (by omega) (by omega) (by omega)) (va_cwS 3 hts (goodIn_app (goodIn_r _ [4, 5, 6] (by decide +kernel) (by decide +kernel)) (goodIn_ca (goodIn_r _ [3] (by decide +kernel) (by decide +kernel)) (bs_in _ _))) rfl rfl rfl (by decide +kernel) ⟨(Nat.le_of_ble_eq_true rfl), (Nat.le_of_ble_eq_true rfl)⟩) ⟨fun a U g mk q => by obtain ⟨q0, q1, qK, qE⟩ := q; exact ⟨q0, q1, va_K.moved (u := U) (U := U.calling g mk a) (Vm.Alike.refl U.vm) qK, EV.blind g mk a qE⟩, fun U hU hW => ⟨rfl, hU, va_K.moved hW.alike hK, hE.call hS hFc hU hW⟩⟩ rfl rfl hl.1 rfl (lv_room (Nat.le_of_ble_eq_true rfl)) dX12_fill_23 ⟨(Nat.le_of_ble_eq_true rfl), (Nat.le_of_ble_eq_true rfl)⟩) hS (fun q _ h => hFc q h) hFc (fun r16 u t H locs ht hvm hw17 hB _ _ hS => ?_)
    obtain ⟨hT, hF1⟩ := hB
    rw [ht] at hT hF1
    have hF := hF.more hF1 (by decide)
    try dsimp only at hw17
    obtain ⟨h18, hi19, hi20⟩ := hw17
    refine lv_if_eq (tgt := 39) hx hb dX12_fill_26 (by decide) (fun c21 => ?_) (fun c21 => ?_)
    · have t22 : r16.toInt = 0 := ti_eq c21 rfl (by decide)
      have t23 : (0 : Int32).toInt = 0 := by decide
      have t24 : (900 : Int32).toInt = 900 := by decide
      have t25 : p1.toInt < (0 : Int32).toInt ∨ (900 : Int32).toInt < p1.toInt := hi20 c21
      refine lv_iconst (v := 1) hx hb dX12_fill_39 (by decide) ?_
      refine lv_goto (tgt := 44) hx hb dX12_fill_40 (by decide) ?_
      refine lv_iconst (v := 2) hx hb dX12_fill_44 (by decide) ?_
      have hFc := gA_free hG hA hS
      refine va_calli (va_runV (As := [.int 1, .int 2]) (rest := []) ⟨hx, hb, hml, hown, hts⟩ (s_throwsIf l dC dI kA G H q wN wH wB wC wL wK PI o0 1 2 hT hr_o0 (rg_t (a := 1) (by decide) (by omega) (by omega)) (by omega) (by omega) (by omega) (by omega)) (cwV 2 hts (goodIn_app (goodIn_r _ [10, 11, 12, 6] (by decide +kernel) (by decide +kernel)) (goodIn_ca (goodIn_r _ [9, 1] (by decide +kernel) (by decide +kernel)) (bs_in _ _))) rfl rfl rfl (by decide +kernel) ⟨(Nat.le_of_ble_eq_true rfl), (Nat.le_of_ble_eq_true rfl)⟩) ⟨fun a U g mk q => by obtain ⟨q0, q1, qK, qE⟩ := q; exact ⟨q0, q1, va_K.moved (u := U) (U := U.calling g mk a) (Vm.Alike.refl U.vm) qK, EV.blind g mk a qE⟩, gH_recv hK hT hr_o0 shm_0 rfl, fun U hU hW => ⟨rfl, hU, va_K.moved hW.alike hK, hE.call hS hFc hU hW⟩⟩ rfl rfl hl.1 rfl (lv_room (Nat.le_of_ble_eq_true rfl)) dX12_fill_45 ⟨(Nat.le_of_ble_eq_true rfl), (Nat.le_of_ble_eq_true rfl)⟩) hS (fun q _ h => hFc q h) hFc (fun r26 u t H locs ht hvm hw27 hB _ _ hS => ?_)
      obtain ⟨hT, hF1⟩ := hB
      rw [ht] at hT hF1
      have hF := hF.more hF1 (by decide)
      try dsimp only at hw27
      obtain ⟨h28, hd29⟩ := hw27
      obtain rfl : (1 : Int32) = r26 := hd29.symm
      refine lv_if_ne (tgt := 59) hx hb dX12_fill_48 (by decide) (fun c30 => ?_) (fun c30 => absurd c30 (by decide))
      refine lv_iconst (v := 0) hx hb dX12_fill_59 (by decide) ?_
      exact W.zret (v := 0) hx hb hr (by decide) (fun t ht hW => ⟨⟨0, (), rfl, (by exact (rg_t (a := 0) (by decide) (by omega) (by omega))), by (try dsimp only); rw [ht]; exact ⟨hT, hF⟩⟩, hS.F ht⟩) hS.2.2 dX12_fill_60
    · have t31 : r16.toInt ≠ 0 := ti_ne c21 rfl (by decide)
      have t32 : (0 : Int32).toInt = 0 := by decide
      have t33 : (900 : Int32).toInt = 900 := by decide
      have t34 : (0 : Int32).toInt ≤ p1.toInt ∧ p1.toInt ≤ (900 : Int32).toInt := hi19 ((bit_of ⟨by omega, by omega⟩).resolve_left c21)
      refine lv_iload_n hx hb dX12_fill_29 rfl (lv_at hl 3 rfl) ?_
      refine lv_iconst (v := 0) hx hb dX12_fill_30 (by decide) ?_
      refine lv_ldc (v := 100000) hx hb hown (ht_at hts 12 rfl) dX12_fill_31 ?_
      have hFc := gA_free hG hA hS
      refine va_calli (va_runS (As := [.int p2, .int 0, .int 100000]) (rest := [.ref o0]) ⟨hx, hb, hml, hown, hts⟩ (s_in l dC dI kA G H q wN wH wB wC wL wK PI p2 0 100000 hT (by omega) (by omega) (by omega) (by omega)) (va_cwS 3 hts (goodIn_app (goodIn_r _ [4, 5, 6] (by decide +kernel) (by decide +kernel)) (goodIn_ca (goodIn_r _ [3] (by decide +kernel) (by decide +kernel)) (bs_in _ _))) rfl rfl rfl (by decide +kernel) ⟨(Nat.le_of_ble_eq_true rfl), (Nat.le_of_ble_eq_true rfl)⟩) ⟨fun a U g mk q => by obtain ⟨q0, q1, qK, qE⟩ := q; exact ⟨q0, q1, va_K.moved (u := U) (U := U.calling g mk a) (Vm.Alike.refl U.vm) qK, EV.blind g mk a qE⟩, fun U hU hW => ⟨rfl, hU, va_K.moved hW.alike hK, hE.call hS hFc hU hW⟩⟩ rfl rfl hl.1 rfl (lv_room (Nat.le_of_ble_eq_true rfl)) dX12_fill_33 ⟨(Nat.le_of_ble_eq_true rfl), (Nat.le_of_ble_eq_true rfl)⟩) hS (fun q _ h => hFc q h) hFc (fun r35 u t H locs ht hvm hw36 hB _ _ hS => ?_)
      obtain ⟨hT, hF1⟩ := hB
      rw [ht] at hT hF1
      have hF := hF.more hF1 (by decide)
      try dsimp only at hw36
      obtain ⟨h37, hi38, hi39⟩ := hw36
      refine lv_if_ne (tgt := 43) hx hb dX12_fill_36 (by decide) (fun c40 => ?_) (fun c40 => ?_)
      · have t41 : r35.toInt ≠ 0 := ti_ne c40 rfl (by decide)
        have t42 : (0 : Int32).toInt = 0 := by decide
        have t43 : (100000 : Int32).toInt = 100000 := by decide
        have t44 : (0 : Int32).toInt ≤ p2.toInt ∧ p2.toInt ≤ (100000 : Int32).toInt := hi38 ((bit_of ⟨by omega, by omega⟩).resolve_left c40)
        refine lv_iconst (v := 0) hx hb dX12_fill_43 (by decide) ?_
        refine lv_iconst (v := 2) hx hb dX12_fill_44 (by decide) ?_
        have hFc := gA_free hG hA hS
        refine va_calli (va_runV (As := [.int 0, .int 2]) (rest := []) ⟨hx, hb, hml, hown, hts⟩ (s_throwsIf l dC dI kA G H q wN wH wB wC wL wK PI o0 0 2 hT hr_o0 (rg_t (a := 0) (by decide) (by omega) (by omega)) (by omega) (by omega) (by omega) (by omega)) (cwV 2 hts (goodIn_app (goodIn_r _ [10, 11, 12, 6] (by decide +kernel) (by decide +kernel)) (goodIn_ca (goodIn_r _ [9, 1] (by decide +kernel) (by decide +kernel)) (bs_in _ _))) rfl rfl rfl (by decide +kernel) ⟨(Nat.le_of_ble_eq_true rfl), (Nat.le_of_ble_eq_true rfl)⟩) ⟨fun a U g mk q => by obtain ⟨q0, q1, qK, qE⟩ := q; exact ⟨q0, q1, va_K.moved (u := U) (U := U.calling g mk a) (Vm.Alike.refl U.vm) qK, EV.blind g mk a qE⟩, gH_recv hK hT hr_o0 shm_0 rfl, fun U hU hW => ⟨rfl, hU, va_K.moved hW.alike hK, hE.call hS hFc hU hW⟩⟩ rfl rfl hl.1 rfl (lv_room (Nat.le_of_ble_eq_true rfl)) dX12_fill_45 ⟨(Nat.le_of_ble_eq_true rfl), (Nat.le_of_ble_eq_true rfl)⟩) hS (fun q _ h => hFc q h) hFc (fun r45 u t H locs ht hvm hw46 hB _ _ hS => ?_)
        obtain ⟨hT, hF1⟩ := hB
        rw [ht] at hT hF1
        have hF := hF.more hF1 (by decide)
        try dsimp only at hw46
        obtain ⟨h47, hd48⟩ := hw46
        obtain rfl : (0 : Int32) = r45 := hd48.symm
        refine lv_if_ne (tgt := 59) hx hb dX12_fill_48 (by decide) (fun c49 => absurd c49 (by decide)) (fun c49 => ?_)
        refine lv_aload_n hx hb dX12_fill_51 rfl (lv_at hl 0 rfl) ?_
        refine lv_iload_n hx hb dX12_fill_52 rfl (lv_at hl 1 rfl) ?_
        have hFc := gA_free hG hA hS
        refine va_calli (va_runV (As := [.int p0]) (rest := []) ⟨hx, hb, hml, hown, hts⟩ (s_isLand l dC dI kA G H q wN wH wB wC wL wK PI o0 p0 hT hr_o0 (rg_t (a := p0.toInt) rfl (by have q8 := ti_all p0; omega) (by have q8 := ti_all p0; omega)) (by omega) (by omega) (by omega) (by omega)) (cwV 1 hts (goodIn_app (goodIn_r _ [16, 17, 18, 6] (by decide +kernel) (by decide +kernel)) (goodIn_ca (goodIn_r _ [14, 15] (by decide +kernel) (by decide +kernel)) (bs_in _ _))) rfl rfl rfl (by decide +kernel) ⟨(Nat.le_of_ble_eq_true rfl), (Nat.le_of_ble_eq_true rfl)⟩) ⟨fun a U g mk q => by obtain ⟨q0, q1, qK, qE⟩ := q; exact ⟨q0, q1, va_K.moved (u := U) (U := U.calling g mk a) (Vm.Alike.refl U.vm) qK, EV.blind g mk a qE⟩, gH_recv hK hT hr_o0 shm_0 rfl, fun U hU hW => ⟨rfl, hU, va_K.moved hW.alike hK, hE.call hS hFc hU hW⟩⟩ rfl rfl hl.1 rfl (lv_room (Nat.le_of_ble_eq_true rfl)) dX12_fill_53 ⟨(Nat.le_of_ble_eq_true rfl), (Nat.le_of_ble_eq_true rfl)⟩) hS (fun q _ h => hFc q h) hFc (fun r50 u t H locs ht hvm hw51 hB _ _ hS => ?_)
        obtain ⟨hT, hF1⟩ := hB
        rw [ht] at hT hF1
        have hF := hF.more hF1 (by decide)
        try dsimp only at hw51
        have h52 := hw51
        refine lv_if_ne (tgt := 61) hx hb dX12_fill_56 (by decide) (fun c53 => ?_) (fun c53 => ?_)
        · have t54 : r50.toInt ≠ 0 := ti_ne c53 rfl (by decide)
          refine lv_aload_n hx hb dX12_fill_61 rfl (lv_at hl 0 rfl) ?_
          refine tw_get hx hb hts bF_X12 hown hK hT hr_o0 shm_0 rfl 1 (by decide) (ht_at hts 14 rfl) (fun _ h9 => h9) dX12_fill_62 (fun v9 m55 h9 => ?_)
          obtain ⟨rfl, hg56⟩ := h9 _ rfl
          refine lv_sipush (v := 1748) hx hb dX12_fill_65 (by decide) ?_
          refine lv_dup2_11 hx hb dX12_fill_68 rfl rfl ?_
          refine tw_iald (i := 1748) hx hb hK hT hg56 shm_2 rfl (by unfold vp_in; decide) dX12_fill_69 (fun v9 m57 h9 => ?_)
          obtain ⟨x58, rfl, gx58, kx58⟩ := (gp_at h9 (w_fre (by have q9 := tn_of (show (1748 : Int32).toInt = 1748 from (by decide)) (show (0 : Int) ≤ 1748 from by omega); omega)))
          refine lv_iload_n hx hb dX12_fill_70 rfl (lv_at hl 2 rfl) ?_
          refine lv_aload_n hx hb dX12_fill_71 rfl (lv_at hl 0 rfl) ?_
          refine tw_get hx hb hts bF_X12 hown hK hT hr_o0 shm_0 rfl 1 (by decide) (ht_at hts 14 rfl) (fun _ h9 => h9) dX12_fill_72 (fun v9 m59 h9 => ?_)
          obtain ⟨rfl, hg60⟩ := h9 _ rfl
          refine lv_sipush (v := 384) hx hb dX12_fill_75 (by decide) ?_
          refine lv_iload_n hx hb dX12_fill_78 rfl (lv_at hl 1 rfl) ?_
          refine lv_iadd hx hb dX12_fill_79 ?_
          refine lv_topi (fun x61 ex61 => ?_)
          have t62 : x61.toInt = 384 + p0.toInt := ti_add ex61 (by decide) rfl (by omega) (by omega)
          refine tw_iald (i := x61) hx hb hK hT hg56 shm_2 rfl (vin_t (a := x61.toInt) rfl (by omega) (by omega)) dX12_fill_80 (fun v9 m63 h9 => ?_)
          obtain ⟨x64, rfl, gx64, kx64⟩ := (gp_at h9 (w_wat (by have q9 := tn_of (show x61.toInt = x61.toInt from rfl) (show (0 : Int) ≤ x61.toInt from by omega); omega)))
          refine lv_isub hx hb dX12_fill_81 ?_
          refine lv_topi (fun x65 ex65 => ?_)
          have t66 : x65.toInt = p1.toInt - x64.toInt := ti_sub ex65 rfl rfl (by omega) (by omega)
          refine lv_iadd hx hb dX12_fill_82 ?_
          refine lv_topi (fun x67 ex67 => ?_)
          refine tw_iast (i := 1748) (x := x67) hx hb hK hT hG hS hg56 shm_2 rfl (by unfold vp_in; decide) (gp_of (gi_all _) (w_fre (by have q9 := tn_of (show (1748 : Int32).toInt = 1748 from (by decide)) (show (0 : Int) ≤ 1748 from by omega); omega)) (wX_o (by have q9 := tn_of (show (1748 : Int32).toInt = 1748 from (by decide)) (show (0 : Int) ≤ 1748 from by omega); omega) (by omega))) dX12_fill_83 (fun H locs hT oq m68 oi hS => ?_)
          have hF := hF.ast hg56 skm_2 oq (by decide)
          have m69 := (oi _ (tn_ne (show x61.toInt = x61.toInt from rfl) (show (1748 : Int32).toInt = 1748 from (by decide)) (by omega) (by omega) (by omega))).trans m63
          refine lv_aload_n hx hb dX12_fill_84 rfl (lv_at hl 0 rfl) ?_
          refine tw_get hx hb hts bF_X12 hown hK hT hr_o0 shm_0 rfl 1 (by decide) (ht_at hts 14 rfl) (fun _ h9 => h9) dX12_fill_85 (fun v9 m70 h9 => ?_)
          obtain ⟨rfl, hg71⟩ := h9 _ rfl
          refine lv_sipush (v := 384) hx hb dX12_fill_88 (by decide) ?_
          refine lv_iload_n hx hb dX12_fill_91 rfl (lv_at hl 1 rfl) ?_
          refine lv_iadd hx hb dX12_fill_92 ?_
          refine lv_topi (fun x72 ex72 => ?_)
          have t73 : x72.toInt = 384 + p0.toInt := ti_add ex72 (by decide) rfl (by omega) (by omega)
          refine lv_iload_n hx hb dX12_fill_93 rfl (lv_at hl 2 rfl) ?_
          refine tw_iast (i := x72) (x := p1) hx hb hK hT hG hS hg56 shm_2 rfl (vin_t (a := x72.toInt) rfl (by omega) (by omega)) (gp_of (gi_of (show p1.toInt = p1.toInt from rfl) (by omega) (by omega)) (w_wat (by have q9 := tn_of (show x72.toInt = x72.toInt from rfl) (show (0 : Int) ≤ x72.toInt from by omega); omega)) (wX_o (by have q9 := tn_of (show x72.toInt = x72.toInt from rfl) (show (0 : Int) ≤ x72.toInt from by omega); omega) (by omega))) dX12_fill_94 (fun H locs hT oq m74 oi hS => ?_)
          have hF := hF.ast hg56 skm_2 oq (by decide)
          have m75 := (oi _ (tn_ne (show (1748 : Int32).toInt = 1748 from (by decide)) (show x72.toInt = x72.toInt from rfl) (by omega) (by omega) (by omega))).trans m68
          refine lv_aload_n hx hb dX12_fill_95 rfl (lv_at hl 0 rfl) ?_
          refine tw_get hx hb hts bF_X12 hown hK hT hr_o0 shm_0 rfl 1 (by decide) (ht_at hts 14 rfl) (fun _ h9 => h9) dX12_fill_96 (fun v9 m76 h9 => ?_)
          obtain ⟨rfl, hg77⟩ := h9 _ rfl
          refine lv_sipush (v := 480) hx hb dX12_fill_99 (by decide) ?_
          refine lv_iload_n hx hb dX12_fill_102 rfl (lv_at hl 1 rfl) ?_
          refine lv_iadd hx hb dX12_fill_103 ?_
          refine lv_topi (fun x78 ex78 => ?_)
          have t79 : x78.toInt = 480 + p0.toInt := ti_add ex78 (by decide) rfl (by omega) (by omega)
          refine lv_iload_n hx hb dX12_fill_104 rfl (lv_at hl 3 rfl) ?_
          refine tw_iast (i := x78) (x := p2) hx hb hK hT hG hS hg56 shm_2 rfl (vin_t (a := x78.toInt) rfl (by omega) (by omega)) (gp_of (gi_all _) (w_fre (by have q9 := tn_of (show x78.toInt = x78.toInt from rfl) (show (0 : Int) ≤ x78.toInt from by omega); omega)) (wX_o (by have q9 := tn_of (show x78.toInt = x78.toInt from rfl) (show (0 : Int) ≤ x78.toInt from by omega); omega) (by omega))) dX12_fill_105 (fun H locs hT oq m80 oi hS => ?_)
          have hF := hF.ast hg56 skm_2 oq (by decide)
          have m81 := (oi _ (tn_ne (show (1748 : Int32).toInt = 1748 from (by decide)) (show x78.toInt = x78.toInt from rfl) (by omega) (by omega) (by omega))).trans m75
          have m82 := (oi _ (tn_ne (show x72.toInt = x72.toInt from rfl) (show x78.toInt = x78.toInt from rfl) (by omega) (by omega) (by omega))).trans m74
          refine lv_aload_n hx hb dX12_fill_106 rfl (lv_at hl 0 rfl) ?_
          refine lv_iconst (v := 0) hx hb dX12_fill_107 (by decide) ?_
          refine tw_put (v := .int 0) (ty := .int) hx hb hts bF_X12 tyX12 tyX12_ok nmX12 hown hK hT hG hS hr_o0 shm_0 rfl 9 (by decide) (ht_at hts 18 rfl) (fun _ h9 => h9) rfl (by decide +kernel) rfl rfl (gl_at rfl (gi_of (show (0 : Int32).toInt = 0 from (by decide)) (by omega) (by omega))) dX12_fill_108 (fun H locs hT oq m83 oj hS => ?_)
          have hF := hF.put hr_o0 skm_0 oq oj (by decide)
          have m84 := (el_kept (oq _ (gne hg56 hr_o0 (by decide)))).trans m81
          have m85 := (el_kept (oq _ (gne hg56 hr_o0 (by decide)))).trans m82
          have m86 := (el_kept (oq _ (gne hg56 hr_o0 (by decide)))).trans m80
          refine lv_iconst (v := 1) hx hb dX12_fill_111 (by decide) ?_
          exact W.zret (v := 1) hx hb hr (by decide) (fun t ht hW => ⟨⟨1, (), rfl, (by exact (rg_t (a := 1) (by decide) (by omega) (by omega))), by (try dsimp only); rw [ht]; exact ⟨hT, hF⟩⟩, hS.F ht⟩) hS.2.2 dX12_fill_112
        · have t87 : r50.toInt = 0 := ti_eq c53 rfl (by decide)
          refine lv_iconst (v := 0) hx hb dX12_fill_59 (by decide) ?_
          exact W.zret (v := 0) hx hb hr (by decide) (fun t ht hW => ⟨⟨0, (), rfl, (by exact (rg_t (a := 0) (by decide) (by omega) (by omega))), by (try dsimp only); rw [ht]; exact ⟨hT, hF⟩⟩, hS.F ht⟩) hS.2.2 dX12_fill_60
      · have t88 : r35.toInt = 0 := ti_eq c40 rfl (by decide)
        have t89 : (0 : Int32).toInt = 0 := by decide
        have t90 : (100000 : Int32).toInt = 100000 := by decide
        have t91 : p2.toInt < (0 : Int32).toInt ∨ (100000 : Int32).toInt < p2.toInt := hi39 c40
        refine lv_iconst (v := 1) hx hb dX12_fill_39 (by decide) ?_
        refine lv_goto (tgt := 44) hx hb dX12_fill_40 (by decide) ?_
        refine lv_iconst (v := 2) hx hb dX12_fill_44 (by decide) ?_
        have hFc := gA_free hG hA hS
        refine va_calli (va_runV (As := [.int 1, .int 2]) (rest := []) ⟨hx, hb, hml, hown, hts⟩ (s_throwsIf l dC dI kA G H q wN wH wB wC wL wK PI o0 1 2 hT hr_o0 (rg_t (a := 1) (by decide) (by omega) (by omega)) (by omega) (by omega) (by omega) (by omega)) (cwV 2 hts (goodIn_app (goodIn_r _ [10, 11, 12, 6] (by decide +kernel) (by decide +kernel)) (goodIn_ca (goodIn_r _ [9, 1] (by decide +kernel) (by decide +kernel)) (bs_in _ _))) rfl rfl rfl (by decide +kernel) ⟨(Nat.le_of_ble_eq_true rfl), (Nat.le_of_ble_eq_true rfl)⟩) ⟨fun a U g mk q => by obtain ⟨q0, q1, qK, qE⟩ := q; exact ⟨q0, q1, va_K.moved (u := U) (U := U.calling g mk a) (Vm.Alike.refl U.vm) qK, EV.blind g mk a qE⟩, gH_recv hK hT hr_o0 shm_0 rfl, fun U hU hW => ⟨rfl, hU, va_K.moved hW.alike hK, hE.call hS hFc hU hW⟩⟩ rfl rfl hl.1 rfl (lv_room (Nat.le_of_ble_eq_true rfl)) dX12_fill_45 ⟨(Nat.le_of_ble_eq_true rfl), (Nat.le_of_ble_eq_true rfl)⟩) hS (fun q _ h => hFc q h) hFc (fun r92 u t H locs ht hvm hw93 hB _ _ hS => ?_)
        obtain ⟨hT, hF1⟩ := hB
        rw [ht] at hT hF1
        have hF := hF.more hF1 (by decide)
        try dsimp only at hw93
        obtain ⟨h94, hd95⟩ := hw93
        obtain rfl : (1 : Int32) = r92 := hd95.symm
        refine lv_if_ne (tgt := 59) hx hb dX12_fill_48 (by decide) (fun c96 => ?_) (fun c96 => absurd c96 (by decide))
        refine lv_iconst (v := 0) hx hb dX12_fill_59 (by decide) ?_
        exact W.zret (v := 0) hx hb hr (by decide) (fun t ht hW => ⟨⟨0, (), rfl, (by exact (rg_t (a := 0) (by decide) (by omega) (by omega))), by (try dsimp only); rw [ht]; exact ⟨hT, hF⟩⟩, hS.F ht⟩) hS.2.2 dX12_fill_60
def w_s_coal : List Cond := .code yX12_coal cX12_coal 3 (some .int) :: ([.fieldLink RX12 194 "SeaLandModel" "thrown" "I", .code yX12_noWork cX12_noWork 2 (some .boolean), .fieldLink RX12 9 "SeaLandModel" "world" "[I", .code yX12_in cX12_in 3 (some .boolean), .methodLink RX12 197 yX12_in, .static yX12_in, .initialized RX12, .methodLink RX12 269 yX12_noWork, .instanceMethod yX12_noWork, .selects RX12 yX12_noWork yX12_noWork, .code yX12_throwsIf cX12_throwsIf 3 (some .boolean), .methodLink RX12 224 yX12_throwsIf, .instanceMethod yX12_throwsIf, .selects RX12 yX12_throwsIf yX12_throwsIf, .code yX12_of cX12_of 3 (some .int), .code yX12_at cX12_at 2 (some .int), .methodLink RX12 214 yX12_at, .static yX12_at, .methodLink RX12 217 yX12_of, .instanceMethod yX12_of, .selects RX12 yX12_of yX12_of, .fieldLink RX12 238 "SeaLandModel" "rows" "I", .constant RX12 241 100000] ++ bs)
set_option maxHeartbeats 4000000 in
set_option maxRecDepth 100000 in
theorem s_coal (l : Launch) (dC : Nat → ClassId) (dI : Nat → Nat → Nat) (kA : Nat → ClassId) (G : gT) (H0 : Heap) (q : Nat → Nat) (wN wH wB wC : Int) (wL wK : Nat → Prop) (PI : Nat → Int → Prop) (o0 : Nat) (p0 : Int32) (p1 : Int32) (hT : gH (dC, dI) kA (SHm q (wP wN wH wB wC wC wL wK) PI) G H0) (hr_o0 : G o0 = some 0) (hgn : 6500000 ≤ wN ∧ wN ≤ 400000000) (hgh : 0 ≤ wH ∧ wH ≤ 40000) (hgb : 0 ≤ wB ∧ wB ≤ 3850000) (hgc : 0 ≤ wC ∧ wC ≤ 30) : Met l yX12_coal w_s_coal ({ frames := 2, cells := 0, slots := 0, locals := 43 }) (va_Pc [.ref o0, .int p0, .int p1] (fun U => U.heap = H0 ∧ va_K (dC, dI) vwCl (tyl kA) U ∧ EV (gA G H0.size) U U.heap)) (va_Qi (fun (r : Int32) (u : Unit) => True) (fun (_ : Unit) (t : State) => gH (dC, dI) kA (SHm q (wP wN wH wB wC wC wL wK) PI) G t.heap ∧ gF (dC, dI) SKm G ([(0, 0), (0, 9), (2, 0)] : List (Nat × Nat)) H0 t.heap) (gA G H0.size)) 0 0 (gA G H0.size) := by
  refine Met.ofW (cc := cX12_coal) (maxL := 3) (ret := (some .int)) (by decide) rfl ?_
  intro p e s m args below meth c s₁ B hml hv
  obtain ⟨rfl, hH0, hK, hE⟩ := hv
  have hx := B.exec
  have hb := B.bytes
  have hr := B.returns
  have hts := atoms_spec (ws := w_s_coal) B.pre
  have hown : s.vm.findClass RX12 = some m.cls := findClass_of_methodNamed B.named
  have hlocks := B.notSynchronized
  subst hH0
  generalize hAe : gA G s.heap.size = A at hE ⊢
  have hA : ∀ q : Nat, s.heap.size ≤ q → A q := fun q h => by rw [← hAe]; exact Or.inr h
  have hG := gA_of hAe
  have hS : va_S A s.heap s.heap [] := va_S.rf
  have hF : gF (dC, dI) SKm G ([(0, 0), (0, 9), (2, 0)] : List (Nat × Nat)) s.heap s.heap := gF.rf
  have hl := lv_entry ([.ref o0, .int p0, .int p1]) (n := 3) (Nat.le_of_ble_eq_true rfl)
  rw [lg_entry_eq]
  generalize (lg_sl ([.ref o0, .int p0, .int p1]) ++ List.replicate (3 - (lg_sl ([.ref o0, .int p0, .int p1])).length) Slot.unset).toArray = ls at hl ⊢
  have hl : lv_has ls 3 [(0, .ref o0), (1, .int p0), (2, .int p1)] := hl
  refine lv_aload_n hx hb dX12_coal_0 rfl (lv_at hl 0 rfl) ?_
  refine lv_iconst (v := 0) hx hb dX12_coal_1 (by decide) ?_
  refine tw_put (v := .int 0) (ty := .int) hx hb hts bF_X12 tyX12 tyX12_ok nmX12 hown hK hT hG hS hr_o0 shm_0 rfl 0 (by decide) (ht_at hts 0 rfl) (fun _ h9 => h9) rfl (by decide +kernel) rfl rfl (gl_at rfl (gi_all _)) dX12_coal_2 (fun H locs hT oq m1 oj hS => ?_)
  have hF := hF.put hr_o0 skm_0 oq oj (by decide)
  refine lv_aload_n hx hb dX12_coal_5 rfl (lv_at hl 0 rfl) ?_
  refine lv_aload_n hx hb dX12_coal_6 rfl (lv_at hl 0 rfl) ?_
  refine lv_iload_n hx hb dX12_coal_7 rfl (lv_at hl 1 rfl) ?_
  have hFc := gA_free hG hA hS
  refine va_calli (va_runV (As := [.int p0]) (rest := [.ref o0]) ⟨hx, hb, hml, hown, hts⟩ (s_noWork l dC dI kA G H q wN wH wB wC wL wK PI o0 p0 hT hr_o0 (by omega) (by omega) (by omega) (by omega)) (cwV 1 hts (goodIn_app (goodIn_r _ [8, 9, 10, 7] (by decide +kernel) (by decide +kernel)) (goodIn_ca (goodIn_r _ [2, 3, 4, 5, 6, 7] (by decide +kernel) (by decide +kernel)) (bs_in _ _))) rfl rfl rfl (by decide +kernel) ⟨(Nat.le_of_ble_eq_true rfl), (Nat.le_of_ble_eq_true rfl)⟩) ⟨fun a U g mk q => by obtain ⟨q0, q1, qK, qE⟩ := q; exact ⟨q0, q1, va_K.moved (u := U) (U := U.calling g mk a) (Vm.Alike.refl U.vm) qK, EV.blind g mk a qE⟩, gH_recv hK hT hr_o0 shm_0 rfl, fun U hU hW => ⟨rfl, hU, va_K.moved hW.alike hK, hE.call hS hFc hU hW⟩⟩ rfl rfl hl.1 rfl (lv_room (Nat.le_of_ble_eq_true rfl)) dX12_coal_8 ⟨(Nat.le_of_ble_eq_true rfl), (Nat.le_of_ble_eq_true rfl)⟩) hS (fun q _ h => hFc q h) hFc (fun r2 u t H locs ht hvm hw3 hB _ _ hS => ?_)
  obtain ⟨hT, hF1⟩ := hB
  rw [ht] at hT hF1
  have m4 := (hF1.fld hr_o0 skm_0 (k := 0) (by decide) (by decide)).trans m1
  have hF := hF.more hF1 (by decide)
  try dsimp only at hw3
  obtain ⟨h5, hi6⟩ := hw3
  refine lv_iconst (v := 1) hx hb dX12_coal_11 (by decide) ?_
  have hFc := gA_free hG hA hS
  refine va_calli (va_runV (As := [.int r2, .int 1]) (rest := []) ⟨hx, hb, hml, hown, hts⟩ (s_throwsIf l dC dI kA G H q wN wH wB wC wL wK PI o0 r2 1 hT hr_o0 (rg_t (a := r2.toInt) rfl (by have q8 := ti_all r2; omega) (by have q8 := ti_all r2; omega)) (by omega) (by omega) (by omega) (by omega)) (cwV 2 hts (goodIn_app (goodIn_r _ [12, 13, 14, 7] (by decide +kernel) (by decide +kernel)) (goodIn_ca (goodIn_r _ [11, 1] (by decide +kernel) (by decide +kernel)) (bs_in _ _))) rfl rfl rfl (by decide +kernel) ⟨(Nat.le_of_ble_eq_true rfl), (Nat.le_of_ble_eq_true rfl)⟩) ⟨fun a U g mk q => by obtain ⟨q0, q1, qK, qE⟩ := q; exact ⟨q0, q1, va_K.moved (u := U) (U := U.calling g mk a) (Vm.Alike.refl U.vm) qK, EV.blind g mk a qE⟩, gH_recv hK hT hr_o0 shm_0 rfl, fun U hU hW => ⟨rfl, hU, va_K.moved hW.alike hK, hE.call hS hFc hU hW⟩⟩ rfl rfl hl.1 rfl (lv_room (Nat.le_of_ble_eq_true rfl)) dX12_coal_12 ⟨(Nat.le_of_ble_eq_true rfl), (Nat.le_of_ble_eq_true rfl)⟩) hS (fun q _ h => hFc q h) hFc (fun r7 u t H locs ht hvm hw8 hB _ _ hS => ?_)
  obtain ⟨hT, hF1⟩ := hB
  rw [ht] at hT hF1
  have hF := hF.more hF1 (by decide)
  try dsimp only at hw8
  obtain ⟨h10, hd11⟩ := hw8
  obtain rfl : r2 = r7 := hd11.symm
  refine lv_if_ne (tgt := 89) hx hb dX12_coal_15 (by decide) (fun c12 => ?_) (fun c12 => ?_)
  · have t13 : r2.toInt ≠ 0 := ti_ne c12 rfl (by decide)
    refine lv_iconst (v := 0) hx hb dX12_coal_89 (by decide) ?_
    exact W.iret (v := 0) hx hb hr (fun t ht hW => ⟨⟨0, (), rfl, (by exact trivial), by (try dsimp only); rw [ht]; exact ⟨hT, hF⟩⟩, hS.F ht⟩) hS.2.2 dX12_coal_90
  · have t14 : r2.toInt = 0 := ti_eq c12 rfl (by decide)
    have t15 : 0 ≤ p0.toInt ∧ p0.toInt ≤ 29 ∧ p0.toInt < wC := hi6 c12
    refine lv_aload_n hx hb dX12_coal_18 rfl (lv_at hl 0 rfl) ?_
    refine lv_iload_n hx hb dX12_coal_19 rfl (lv_at hl 2 rfl) ?_
    refine lv_iconst (v := 0) hx hb dX12_coal_20 (by decide) ?_
    refine lv_sipush (v := 10000) hx hb dX12_coal_21 (by decide) ?_
    have hFc := gA_free hG hA hS
    refine va_calli (va_runS (As := [.int p1, .int 0, .int 10000]) (rest := [.ref o0]) ⟨hx, hb, hml, hown, hts⟩ (s_in l dC dI kA G H q wN wH wB wC wL wK PI p1 0 10000 hT (by omega) (by omega) (by omega) (by omega)) (va_cwS 3 hts (goodIn_app (goodIn_r _ [5, 6, 7] (by decide +kernel) (by decide +kernel)) (goodIn_ca (goodIn_r _ [4] (by decide +kernel) (by decide +kernel)) (bs_in _ _))) rfl rfl rfl (by decide +kernel) ⟨(Nat.le_of_ble_eq_true rfl), (Nat.le_of_ble_eq_true rfl)⟩) ⟨fun a U g mk q => by obtain ⟨q0, q1, qK, qE⟩ := q; exact ⟨q0, q1, va_K.moved (u := U) (U := U.calling g mk a) (Vm.Alike.refl U.vm) qK, EV.blind g mk a qE⟩, fun U hU hW => ⟨rfl, hU, va_K.moved hW.alike hK, hE.call hS hFc hU hW⟩⟩ rfl rfl hl.1 rfl (lv_room (Nat.le_of_ble_eq_true rfl)) dX12_coal_24 ⟨(Nat.le_of_ble_eq_true rfl), (Nat.le_of_ble_eq_true rfl)⟩) hS (fun q _ h => hFc q h) hFc (fun r16 u t H locs ht hvm hw17 hB _ _ hS => ?_)
    obtain ⟨hT, hF1⟩ := hB
    rw [ht] at hT hF1
    have hF := hF.more hF1 (by decide)
    try dsimp only at hw17
    obtain ⟨h18, hi19, hi20⟩ := hw17
    refine lv_if_eq (tgt := 54) hx hb dX12_coal_27 (by decide) (fun c21 => ?_) (fun c21 => ?_)
    · have t22 : r16.toInt = 0 := ti_eq c21 rfl (by decide)
      have t23 : (0 : Int32).toInt = 0 := by decide
      have t24 : (10000 : Int32).toInt = 10000 := by decide
      have t25 : p1.toInt < (0 : Int32).toInt ∨ (10000 : Int32).toInt < p1.toInt := hi20 c21
      refine lv_iconst (v := 1) hx hb dX12_coal_54 (by decide) ?_
      refine lv_goto (tgt := 59) hx hb dX12_coal_55 (by decide) ?_
      refine lv_iconst (v := 2) hx hb dX12_coal_59 (by decide) ?_
      have hFc := gA_free hG hA hS
      refine va_calli (va_runV (As := [.int 1, .int 2]) (rest := []) ⟨hx, hb, hml, hown, hts⟩ (s_throwsIf l dC dI kA G H q wN wH wB wC wL wK PI o0 1 2 hT hr_o0 (rg_t (a := 1) (by decide) (by omega) (by omega)) (by omega) (by omega) (by omega) (by omega)) (cwV 2 hts (goodIn_app (goodIn_r _ [12, 13, 14, 7] (by decide +kernel) (by decide +kernel)) (goodIn_ca (goodIn_r _ [11, 1] (by decide +kernel) (by decide +kernel)) (bs_in _ _))) rfl rfl rfl (by decide +kernel) ⟨(Nat.le_of_ble_eq_true rfl), (Nat.le_of_ble_eq_true rfl)⟩) ⟨fun a U g mk q => by obtain ⟨q0, q1, qK, qE⟩ := q; exact ⟨q0, q1, va_K.moved (u := U) (U := U.calling g mk a) (Vm.Alike.refl U.vm) qK, EV.blind g mk a qE⟩, gH_recv hK hT hr_o0 shm_0 rfl, fun U hU hW => ⟨rfl, hU, va_K.moved hW.alike hK, hE.call hS hFc hU hW⟩⟩ rfl rfl hl.1 rfl (lv_room (Nat.le_of_ble_eq_true rfl)) dX12_coal_60 ⟨(Nat.le_of_ble_eq_true rfl), (Nat.le_of_ble_eq_true rfl)⟩) hS (fun q _ h => hFc q h) hFc (fun r26 u t H locs ht hvm hw27 hB _ _ hS => ?_)
      obtain ⟨hT, hF1⟩ := hB
      rw [ht] at hT hF1
      have hF := hF.more hF1 (by decide)
      try dsimp only at hw27
      obtain ⟨h28, hd29⟩ := hw27
      obtain rfl : (1 : Int32) = r26 := hd29.symm
      refine lv_if_ne (tgt := 89) hx hb dX12_coal_63 (by decide) (fun c30 => ?_) (fun c30 => absurd c30 (by decide))
      refine lv_iconst (v := 0) hx hb dX12_coal_89 (by decide) ?_
      exact W.iret (v := 0) hx hb hr (fun t ht hW => ⟨⟨0, (), rfl, (by exact trivial), by (try dsimp only); rw [ht]; exact ⟨hT, hF⟩⟩, hS.F ht⟩) hS.2.2 dX12_coal_90
    · have t31 : r16.toInt ≠ 0 := ti_ne c21 rfl (by decide)
      have t32 : (0 : Int32).toInt = 0 := by decide
      have t33 : (10000 : Int32).toInt = 10000 := by decide
      have t34 : (0 : Int32).toInt ≤ p1.toInt ∧ p1.toInt ≤ (10000 : Int32).toInt := hi19 ((bit_of ⟨by omega, by omega⟩).resolve_left c21)
      refine lv_aload_n hx hb dX12_coal_30 rfl (lv_at hl 0 rfl) ?_
      refine lv_iload_n hx hb dX12_coal_31 rfl (lv_at hl 1 rfl) ?_
      refine lv_iconst (v := 0) hx hb dX12_coal_32 (by decide) ?_
      have hFc := gA_free hG hA hS
      refine va_calli (va_runV (As := [.int p0, .int 0]) (rest := [.ref o0]) ⟨hx, hb, hml, hown, hts⟩ (s_of0 l dC dI kA G H q wN wH wB wC wL wK PI o0 p0 hT hr_o0 (rg_t (a := p0.toInt) rfl (by have q8 := ti_all p0; omega) (by have q8 := ti_all p0; omega)) (by omega) (by omega) (by omega) (by omega)) (cwV 2 hts (goodIn_app (goodIn_r _ [19, 20, 21, 7] (by decide +kernel) (by decide +kernel)) (goodIn_ca (goodIn_r _ [15, 3, 16, 17, 18, 7] (by decide +kernel) (by decide +kernel)) (bs_in _ _))) rfl rfl rfl (by decide +kernel) ⟨(Nat.le_of_ble_eq_true rfl), (Nat.le_of_ble_eq_true rfl)⟩) ⟨fun a U g mk q => by obtain ⟨q0, q1, qK, qE⟩ := q; exact ⟨q0, q1, va_K.moved (u := U) (U := U.calling g mk a) (Vm.Alike.refl U.vm) qK, EV.blind g mk a qE⟩, gH_recv hK hT hr_o0 shm_0 rfl, fun U hU hW => ⟨rfl, hU, va_K.moved hW.alike hK, hE.call hS hFc hU hW⟩⟩ rfl rfl hl.1 rfl (lv_room (Nat.le_of_ble_eq_true rfl)) dX12_coal_33 ⟨(Nat.le_of_ble_eq_true rfl), (Nat.le_of_ble_eq_true rfl)⟩) hS (fun q _ h => hFc q h) hFc (fun r35 u t H locs ht hvm hw36 hB _ _ hS => ?_)
      obtain ⟨hT, hF1⟩ := hB
      rw [ht] at hT hF1
      have hF := hF.more hF1 (by decide)
      try dsimp only at hw36
      have ⟨ix37, hix37, m38⟩ := hw36
      have hg39 : G (q 1) = some 2 := gx_of hT hr_o0 shm_0 (k := 1) (by decide) rfl
      have m40 := (el_kept (hF1.arr hg39 skm_2 (by decide))).trans m38
      refine lv_iconst (v := 3) hx hb dX12_coal_36 (by decide) ?_
      refine lv_icmp_ne (tgt := 58) hx hb dX12_coal_37 (by decide) (fun c41 => ?_) (fun c41 => ?_)
      · have t42 : r35.toInt ≠ 3 := ti_ne c41 rfl (by decide)
        refine lv_iconst (v := 0) hx hb dX12_coal_58 (by decide) ?_
        refine lv_iconst (v := 2) hx hb dX12_coal_59 (by decide) ?_
        have hFc := gA_free hG hA hS
        refine va_calli (va_runV (As := [.int 0, .int 2]) (rest := []) ⟨hx, hb, hml, hown, hts⟩ (s_throwsIf l dC dI kA G H q wN wH wB wC wL wK PI o0 0 2 hT hr_o0 (rg_t (a := 0) (by decide) (by omega) (by omega)) (by omega) (by omega) (by omega) (by omega)) (cwV 2 hts (goodIn_app (goodIn_r _ [12, 13, 14, 7] (by decide +kernel) (by decide +kernel)) (goodIn_ca (goodIn_r _ [11, 1] (by decide +kernel) (by decide +kernel)) (bs_in _ _))) rfl rfl rfl (by decide +kernel) ⟨(Nat.le_of_ble_eq_true rfl), (Nat.le_of_ble_eq_true rfl)⟩) ⟨fun a U g mk q => by obtain ⟨q0, q1, qK, qE⟩ := q; exact ⟨q0, q1, va_K.moved (u := U) (U := U.calling g mk a) (Vm.Alike.refl U.vm) qK, EV.blind g mk a qE⟩, gH_recv hK hT hr_o0 shm_0 rfl, fun U hU hW => ⟨rfl, hU, va_K.moved hW.alike hK, hE.call hS hFc hU hW⟩⟩ rfl rfl hl.1 rfl (lv_room (Nat.le_of_ble_eq_true rfl)) dX12_coal_60 ⟨(Nat.le_of_ble_eq_true rfl), (Nat.le_of_ble_eq_true rfl)⟩) hS (fun q _ h => hFc q h) hFc (fun r43 u t H locs ht hvm hw44 hB _ _ hS => ?_)
        obtain ⟨hT, hF1⟩ := hB
        rw [ht] at hT hF1
        have m45 := (el_kept (hF1.arr hg39 skm_2 (by decide))).trans m40
        have hF := hF.more hF1 (by decide)
        try dsimp only at hw44
        obtain ⟨h46, hd47⟩ := hw44
        obtain rfl : (0 : Int32) = r43 := hd47.symm
        refine lv_if_ne (tgt := 89) hx hb dX12_coal_63 (by decide) (fun c48 => absurd c48 (by decide)) (fun c48 => ?_)
        refine lv_aload_n hx hb dX12_coal_66 rfl (lv_at hl 0 rfl) ?_
        refine lv_aload_n hx hb dX12_coal_67 rfl (lv_at hl 0 rfl) ?_
        refine lv_iload_n hx hb dX12_coal_68 rfl (lv_at hl 1 rfl) ?_
        refine lv_iconst (v := 0) hx hb dX12_coal_69 (by decide) ?_
        have hFc := gA_free hG hA hS
        refine va_calli (va_runV (As := [.int p0, .int 0]) (rest := [.ref o0]) ⟨hx, hb, hml, hown, hts⟩ (s_of0 l dC dI kA G H q wN wH wB wC wL wK PI o0 p0 hT hr_o0 (rg_t (a := p0.toInt) rfl (by have q8 := ti_all p0; omega) (by have q8 := ti_all p0; omega)) (by omega) (by omega) (by omega) (by omega)) (cwV 2 hts (goodIn_app (goodIn_r _ [19, 20, 21, 7] (by decide +kernel) (by decide +kernel)) (goodIn_ca (goodIn_r _ [15, 3, 16, 17, 18, 7] (by decide +kernel) (by decide +kernel)) (bs_in _ _))) rfl rfl rfl (by decide +kernel) ⟨(Nat.le_of_ble_eq_true rfl), (Nat.le_of_ble_eq_true rfl)⟩) ⟨fun a U g mk q => by obtain ⟨q0, q1, qK, qE⟩ := q; exact ⟨q0, q1, va_K.moved (u := U) (U := U.calling g mk a) (Vm.Alike.refl U.vm) qK, EV.blind g mk a qE⟩, gH_recv hK hT hr_o0 shm_0 rfl, fun U hU hW => ⟨rfl, hU, va_K.moved hW.alike hK, hE.call hS hFc hU hW⟩⟩ rfl rfl hl.1 rfl (lv_room (Nat.le_of_ble_eq_true rfl)) dX12_coal_70 ⟨(Nat.le_of_ble_eq_true rfl), (Nat.le_of_ble_eq_true rfl)⟩) hS (fun q _ h => hFc q h) hFc (fun r49 u t H locs ht hvm hw50 hB _ _ hS => ?_)
        obtain ⟨hT, hF1⟩ := hB
        rw [ht] at hT hF1
        have m51 := (el_kept (hF1.arr hg39 skm_2 (by decide))).trans m45
        have hF := hF.more hF1 (by decide)
        try dsimp only at hw50
        have ⟨ix52, hix52, m53⟩ := hw50
        have m54 := (el_kept (hF1.arr hg39 skm_2 (by decide))).trans m53
        obtain rfl : r35 = r49 := (el_same m54 m51 (by have q8 := (show ix37.toInt = ix37.toInt from rfl); omega)).symm
        refine lv_iconst (v := 3) hx hb dX12_coal_73 (by decide) ?_
        refine lv_icmp_eq (tgt := 81) hx hb dX12_coal_74 (by decide) (fun c55 => ?_) (fun c55 => ?_)
        · have t56 : r35.toInt = 3 := ti_eq c55 rfl (by decide)
          refine lv_iconst (v := 0) hx hb dX12_coal_81 (by decide) ?_
          refine lv_iconst (v := 3) hx hb dX12_coal_82 (by decide) ?_
          have hFc := gA_free hG hA hS
          refine va_calli (va_runV (As := [.int 0, .int 3]) (rest := []) ⟨hx, hb, hml, hown, hts⟩ (s_throwsIf l dC dI kA G H q wN wH wB wC wL wK PI o0 0 3 hT hr_o0 (rg_t (a := 0) (by decide) (by omega) (by omega)) (by omega) (by omega) (by omega) (by omega)) (cwV 2 hts (goodIn_app (goodIn_r _ [12, 13, 14, 7] (by decide +kernel) (by decide +kernel)) (goodIn_ca (goodIn_r _ [11, 1] (by decide +kernel) (by decide +kernel)) (bs_in _ _))) rfl rfl rfl (by decide +kernel) ⟨(Nat.le_of_ble_eq_true rfl), (Nat.le_of_ble_eq_true rfl)⟩) ⟨fun a U g mk q => by obtain ⟨q0, q1, qK, qE⟩ := q; exact ⟨q0, q1, va_K.moved (u := U) (U := U.calling g mk a) (Vm.Alike.refl U.vm) qK, EV.blind g mk a qE⟩, gH_recv hK hT hr_o0 shm_0 rfl, fun U hU hW => ⟨rfl, hU, va_K.moved hW.alike hK, hE.call hS hFc hU hW⟩⟩ rfl rfl hl.1 rfl (lv_room (Nat.le_of_ble_eq_true rfl)) dX12_coal_83 ⟨(Nat.le_of_ble_eq_true rfl), (Nat.le_of_ble_eq_true rfl)⟩) hS (fun q _ h => hFc q h) hFc (fun r57 u t H locs ht hvm hw58 hB _ _ hS => ?_)
          obtain ⟨hT, hF1⟩ := hB
          rw [ht] at hT hF1
          have m59 := (el_kept (hF1.arr hg39 skm_2 (by decide))).trans m51
          have hF := hF.more hF1 (by decide)
          try dsimp only at hw58
          obtain ⟨h60, hd61⟩ := hw58
          obtain rfl : (0 : Int32) = r57 := hd61.symm
          refine lv_if_eq (tgt := 91) hx hb dX12_coal_86 (by decide) (fun c62 => ?_) (fun c62 => absurd c62 (by decide))
          refine lv_aload_n hx hb dX12_coal_91 rfl (lv_at hl 0 rfl) ?_
          refine tw_get hx hb hts bF_X12 hown hK hT hr_o0 shm_0 rfl 1 (by decide) (ht_at hts 2 rfl) (fun _ h9 => h9) dX12_coal_92 (fun v9 m63 h9 => ?_)
          obtain ⟨rfl, hg64⟩ := h9 _ rfl
          refine lv_iload_n hx hb dX12_coal_95 rfl (lv_at hl 1 rfl) ?_
          refine lv_bipush (v := 18) hx hb dX12_coal_96 (by decide) ?_
          have hFc := gA_free hG hA hS
          refine va_calli (va_runS (As := [.int p0, .int 18]) (rest := [.ref (q 1)]) ⟨hx, hb, hml, hown, hts⟩ (s_at l dC dI kA G H q wN wH wB wC wL wK PI p0 18 hT (rg_t (a := p0.toInt) rfl (by have q8 := ti_all p0; omega) (by have q8 := ti_all p0; omega)) (rg_t (a := 18) (by decide) (by omega) (by omega)) (by omega) (by omega) (by omega) (by omega)) (va_cwS 2 hts (goodIn_app (goodIn_r _ [17, 18, 7] (by decide +kernel) (by decide +kernel)) (goodIn_ca (goodIn_r _ [16] (by decide +kernel) (by decide +kernel)) (bs_in _ _))) rfl rfl rfl (by decide +kernel) ⟨(Nat.le_of_ble_eq_true rfl), (Nat.le_of_ble_eq_true rfl)⟩) ⟨fun a U g mk q => by obtain ⟨q0, q1, qK, qE⟩ := q; exact ⟨q0, q1, va_K.moved (u := U) (U := U.calling g mk a) (Vm.Alike.refl U.vm) qK, EV.blind g mk a qE⟩, fun U hU hW => ⟨rfl, hU, va_K.moved hW.alike hK, hE.call hS hFc hU hW⟩⟩ rfl rfl hl.1 rfl (lv_room (Nat.le_of_ble_eq_true rfl)) dX12_coal_98 ⟨(Nat.le_of_ble_eq_true rfl), (Nat.le_of_ble_eq_true rfl)⟩) hS (fun q _ h => hFc q h) hFc (fun r65 u t H locs ht hvm hw66 hB _ _ hS => ?_)
          obtain ⟨hT, hF1⟩ := hB
          rw [ht] at hT hF1
          have m67 := (el_kept (hF1.arr hg39 skm_2 (by decide))).trans m59
          have hF := hF.more hF1 (by decide)
          try dsimp only at hw66
          obtain ⟨h68, hf69⟩ := hw66
          have t70 : (18 : Int32).toInt = 18 := by decide
          refine lv_dup2_11 hx hb dX12_coal_101 rfl rfl ?_
          refine tw_iald (i := r65) hx hb hK hT hg39 shm_2 rfl (vin_t (a := r65.toInt) rfl (by omega) (by omega)) dX12_coal_102 (fun v9 m71 h9 => ?_)
          obtain ⟨x72, rfl, gx72, kx72⟩ := (gp_at h9 (w_fre (by have q9 := tn_of (show r65.toInt = r65.toInt from rfl) (show (0 : Int) ≤ r65.toInt from by omega); omega)))
          refine lv_iload_n hx hb dX12_coal_103 rfl (lv_at hl 2 rfl) ?_
          refine lv_iadd hx hb dX12_coal_104 ?_
          refine lv_topi (fun x73 ex73 => ?_)
          refine tw_iast (i := r65) (x := x73) hx hb hK hT hG hS hg39 shm_2 rfl (vin_t (a := r65.toInt) rfl (by omega) (by omega)) (gp_of (gi_all _) (w_fre (by have q9 := tn_of (show r65.toInt = r65.toInt from rfl) (show (0 : Int) ≤ r65.toInt from by omega); omega)) (wX_o (by have q9 := tn_of (show r65.toInt = r65.toInt from rfl) (show (0 : Int) ≤ r65.toInt from by omega); omega) (by omega))) dX12_coal_105 (fun H locs hT oq m74 oi hS => ?_)
          have hF := hF.ast hg39 skm_2 oq (by decide)
          have m75 := (oi _ (tn_ne (show ix37.toInt = ix37.toInt from rfl) (show r65.toInt = r65.toInt from rfl) (by omega) (by omega) (by omega))).trans m67
          refine lv_aload_n hx hb dX12_coal_106 rfl (lv_at hl 0 rfl) ?_
          refine lv_iconst (v := 0) hx hb dX12_coal_107 (by decide) ?_
          refine tw_put (v := .int 0) (ty := .int) hx hb hts bF_X12 tyX12 tyX12_ok nmX12 hown hK hT hG hS hr_o0 shm_0 rfl 9 (by decide) (ht_at hts 21 rfl) (fun _ h9 => h9) rfl (by decide +kernel) rfl rfl (gl_at rfl (gi_of (show (0 : Int32).toInt = 0 from (by decide)) (by omega) (by omega))) dX12_coal_108 (fun H locs hT oq m76 oj hS => ?_)
          have hF := hF.put hr_o0 skm_0 oq oj (by decide)
          have m77 := (el_kept (oq _ (gne hg39 hr_o0 (by decide)))).trans m75
          have m78 := (el_kept (oq _ (gne hg39 hr_o0 (by decide)))).trans m74
          refine lv_aload_n hx hb dX12_coal_111 rfl (lv_at hl 0 rfl) ?_
          refine lv_iload_n hx hb dX12_coal_112 rfl (lv_at hl 1 rfl) ?_
          refine lv_bipush (v := 18) hx hb dX12_coal_113 (by decide) ?_
          have hFc := gA_free hG hA hS
          refine va_calli (va_runV (As := [.int p0, .int 18]) (rest := []) ⟨hx, hb, hml, hown, hts⟩ (s_of18 l dC dI kA G H q wN wH wB wC wL wK PI o0 p0 hT hr_o0 (rg_t (a := p0.toInt) rfl (by have q8 := ti_all p0; omega) (by have q8 := ti_all p0; omega)) (by omega) (by omega) (by omega) (by omega)) (cwV 2 hts (goodIn_app (goodIn_r _ [19, 20, 21, 7] (by decide +kernel) (by decide +kernel)) (goodIn_ca (goodIn_r _ [15, 3, 16, 17, 18, 7] (by decide +kernel) (by decide +kernel)) (bs_in _ _))) rfl rfl rfl (by decide +kernel) ⟨(Nat.le_of_ble_eq_true rfl), (Nat.le_of_ble_eq_true rfl)⟩) ⟨fun a U g mk q => by obtain ⟨q0, q1, qK, qE⟩ := q; exact ⟨q0, q1, va_K.moved (u := U) (U := U.calling g mk a) (Vm.Alike.refl U.vm) qK, EV.blind g mk a qE⟩, gH_recv hK hT hr_o0 shm_0 rfl, fun U hU hW => ⟨rfl, hU, va_K.moved hW.alike hK, hE.call hS hFc hU hW⟩⟩ rfl rfl hl.1 rfl (lv_room (Nat.le_of_ble_eq_true rfl)) dX12_coal_115 ⟨(Nat.le_of_ble_eq_true rfl), (Nat.le_of_ble_eq_true rfl)⟩) hS (fun q _ h => hFc q h) hFc (fun r79 u t H locs ht hvm hw80 hB _ _ hS => ?_)
          obtain ⟨hT, hF1⟩ := hB
          rw [ht] at hT hF1
          have m81 := (el_kept (hF1.arr hg39 skm_2 (by decide))).trans m77
          have m82 := (el_kept (hF1.arr hg39 skm_2 (by decide))).trans m78
          have m83 := (hF1.fld hr_o0 skm_0 (k := 9) (by decide) (by decide)).trans m76
          have hF := hF.more hF1 (by decide)
          try dsimp only at hw80
          have ⟨ix84, hix84, m85⟩ := hw80
          have m86 := (el_kept (hF1.arr hg39 skm_2 (by decide))).trans m85
          obtain rfl : x73 = r79 := (el_same m86 m82 (by have q8 := (show r65.toInt = r65.toInt from rfl); omega)).symm
          exact W.iret (v := x73) hx hb hr (fun t ht hW => ⟨⟨x73, (), rfl, (by exact trivial), by (try dsimp only); rw [ht]; exact ⟨hT, hF⟩⟩, hS.F ht⟩) hS.2.2 dX12_coal_118
        · have t87 : r35.toInt ≠ 3 := ti_ne c55 rfl (by decide)
          refine lv_iconst (v := 1) hx hb dX12_coal_77 (by decide) ?_
          refine lv_goto (tgt := 82) hx hb dX12_coal_78 (by decide) ?_
          refine lv_iconst (v := 3) hx hb dX12_coal_82 (by decide) ?_
          have hFc := gA_free hG hA hS
          refine va_calli (va_runV (As := [.int 1, .int 3]) (rest := []) ⟨hx, hb, hml, hown, hts⟩ (s_throwsIf l dC dI kA G H q wN wH wB wC wL wK PI o0 1 3 hT hr_o0 (rg_t (a := 1) (by decide) (by omega) (by omega)) (by omega) (by omega) (by omega) (by omega)) (cwV 2 hts (goodIn_app (goodIn_r _ [12, 13, 14, 7] (by decide +kernel) (by decide +kernel)) (goodIn_ca (goodIn_r _ [11, 1] (by decide +kernel) (by decide +kernel)) (bs_in _ _))) rfl rfl rfl (by decide +kernel) ⟨(Nat.le_of_ble_eq_true rfl), (Nat.le_of_ble_eq_true rfl)⟩) ⟨fun a U g mk q => by obtain ⟨q0, q1, qK, qE⟩ := q; exact ⟨q0, q1, va_K.moved (u := U) (U := U.calling g mk a) (Vm.Alike.refl U.vm) qK, EV.blind g mk a qE⟩, gH_recv hK hT hr_o0 shm_0 rfl, fun U hU hW => ⟨rfl, hU, va_K.moved hW.alike hK, hE.call hS hFc hU hW⟩⟩ rfl rfl hl.1 rfl (lv_room (Nat.le_of_ble_eq_true rfl)) dX12_coal_83 ⟨(Nat.le_of_ble_eq_true rfl), (Nat.le_of_ble_eq_true rfl)⟩) hS (fun q _ h => hFc q h) hFc (fun r88 u t H locs ht hvm hw89 hB _ _ hS => ?_)
          obtain ⟨hT, hF1⟩ := hB
          rw [ht] at hT hF1
          have m90 := (el_kept (hF1.arr hg39 skm_2 (by decide))).trans m51
          have hF := hF.more hF1 (by decide)
          try dsimp only at hw89
          obtain ⟨h91, hd92⟩ := hw89
          obtain rfl : (1 : Int32) = r88 := hd92.symm
          refine lv_if_eq (tgt := 91) hx hb dX12_coal_86 (by decide) (fun c93 => absurd c93 (by decide)) (fun c93 => ?_)
          refine lv_iconst (v := 0) hx hb dX12_coal_89 (by decide) ?_
          exact W.iret (v := 0) hx hb hr (fun t ht hW => ⟨⟨0, (), rfl, (by exact trivial), by (try dsimp only); rw [ht]; exact ⟨hT, hF⟩⟩, hS.F ht⟩) hS.2.2 dX12_coal_90
      · have t94 : r35.toInt = 3 := ti_eq c41 rfl (by decide)
        refine lv_aload_n hx hb dX12_coal_40 rfl (lv_at hl 0 rfl) ?_
        refine lv_iload_n hx hb dX12_coal_41 rfl (lv_at hl 1 rfl) ?_
        refine lv_bipush (v := 18) hx hb dX12_coal_42 (by decide) ?_
        have hFc := gA_free hG hA hS
        refine va_calli (va_runV (As := [.int p0, .int 18]) (rest := [.ref o0]) ⟨hx, hb, hml, hown, hts⟩ (s_of18 l dC dI kA G H q wN wH wB wC wL wK PI o0 p0 hT hr_o0 (rg_t (a := p0.toInt) rfl (by have q8 := ti_all p0; omega) (by have q8 := ti_all p0; omega)) (by omega) (by omega) (by omega) (by omega)) (cwV 2 hts (goodIn_app (goodIn_r _ [19, 20, 21, 7] (by decide +kernel) (by decide +kernel)) (goodIn_ca (goodIn_r _ [15, 3, 16, 17, 18, 7] (by decide +kernel) (by decide +kernel)) (bs_in _ _))) rfl rfl rfl (by decide +kernel) ⟨(Nat.le_of_ble_eq_true rfl), (Nat.le_of_ble_eq_true rfl)⟩) ⟨fun a U g mk q => by obtain ⟨q0, q1, qK, qE⟩ := q; exact ⟨q0, q1, va_K.moved (u := U) (U := U.calling g mk a) (Vm.Alike.refl U.vm) qK, EV.blind g mk a qE⟩, gH_recv hK hT hr_o0 shm_0 rfl, fun U hU hW => ⟨rfl, hU, va_K.moved hW.alike hK, hE.call hS hFc hU hW⟩⟩ rfl rfl hl.1 rfl (lv_room (Nat.le_of_ble_eq_true rfl)) dX12_coal_44 ⟨(Nat.le_of_ble_eq_true rfl), (Nat.le_of_ble_eq_true rfl)⟩) hS (fun q _ h => hFc q h) hFc (fun r95 u t H locs ht hvm hw96 hB _ _ hS => ?_)
        obtain ⟨hT, hF1⟩ := hB
        rw [ht] at hT hF1
        have m97 := (el_kept (hF1.arr hg39 skm_2 (by decide))).trans m40
        have hF := hF.more hF1 (by decide)
        try dsimp only at hw96
        have ⟨ix98, hix98, m99⟩ := hw96
        have m100 := (el_kept (hF1.arr hg39 skm_2 (by decide))).trans m99
        refine lv_iload_n hx hb dX12_coal_47 rfl (lv_at hl 2 rfl) ?_
        refine lv_iadd hx hb dX12_coal_48 ?_
        refine lv_topi (fun x101 ex101 => ?_)
        refine lv_ldc (v := 100000) hx hb hown (ht_at hts 22 rfl) dX12_coal_49 ?_
        refine lv_icmp_le (tgt := 58) hx hb dX12_coal_51 (by decide) (fun c102 => ?_) (fun c102 => ?_)
        · have t103 : x101.toInt ≤ 100000 := ti_le c102 rfl (by decide)
          refine lv_iconst (v := 0) hx hb dX12_coal_58 (by decide) ?_
          refine lv_iconst (v := 2) hx hb dX12_coal_59 (by decide) ?_
          have hFc := gA_free hG hA hS
          refine va_calli (va_runV (As := [.int 0, .int 2]) (rest := []) ⟨hx, hb, hml, hown, hts⟩ (s_throwsIf l dC dI kA G H q wN wH wB wC wL wK PI o0 0 2 hT hr_o0 (rg_t (a := 0) (by decide) (by omega) (by omega)) (by omega) (by omega) (by omega) (by omega)) (cwV 2 hts (goodIn_app (goodIn_r _ [12, 13, 14, 7] (by decide +kernel) (by decide +kernel)) (goodIn_ca (goodIn_r _ [11, 1] (by decide +kernel) (by decide +kernel)) (bs_in _ _))) rfl rfl rfl (by decide +kernel) ⟨(Nat.le_of_ble_eq_true rfl), (Nat.le_of_ble_eq_true rfl)⟩) ⟨fun a U g mk q => by obtain ⟨q0, q1, qK, qE⟩ := q; exact ⟨q0, q1, va_K.moved (u := U) (U := U.calling g mk a) (Vm.Alike.refl U.vm) qK, EV.blind g mk a qE⟩, gH_recv hK hT hr_o0 shm_0 rfl, fun U hU hW => ⟨rfl, hU, va_K.moved hW.alike hK, hE.call hS hFc hU hW⟩⟩ rfl rfl hl.1 rfl (lv_room (Nat.le_of_ble_eq_true rfl)) dX12_coal_60 ⟨(Nat.le_of_ble_eq_true rfl), (Nat.le_of_ble_eq_true rfl)⟩) hS (fun q _ h => hFc q h) hFc (fun r104 u t H locs ht hvm hw105 hB _ _ hS => ?_)
          obtain ⟨hT, hF1⟩ := hB
          rw [ht] at hT hF1
          have m106 := (el_kept (hF1.arr hg39 skm_2 (by decide))).trans m97
          have m107 := (el_kept (hF1.arr hg39 skm_2 (by decide))).trans m100
          have hF := hF.more hF1 (by decide)
          try dsimp only at hw105
          obtain ⟨h108, hd109⟩ := hw105
          obtain rfl : (0 : Int32) = r104 := hd109.symm
          refine lv_if_ne (tgt := 89) hx hb dX12_coal_63 (by decide) (fun c110 => absurd c110 (by decide)) (fun c110 => ?_)
          refine lv_aload_n hx hb dX12_coal_66 rfl (lv_at hl 0 rfl) ?_
          refine lv_aload_n hx hb dX12_coal_67 rfl (lv_at hl 0 rfl) ?_
          refine lv_iload_n hx hb dX12_coal_68 rfl (lv_at hl 1 rfl) ?_
          refine lv_iconst (v := 0) hx hb dX12_coal_69 (by decide) ?_
          have hFc := gA_free hG hA hS
          refine va_calli (va_runV (As := [.int p0, .int 0]) (rest := [.ref o0]) ⟨hx, hb, hml, hown, hts⟩ (s_of0 l dC dI kA G H q wN wH wB wC wL wK PI o0 p0 hT hr_o0 (rg_t (a := p0.toInt) rfl (by have q8 := ti_all p0; omega) (by have q8 := ti_all p0; omega)) (by omega) (by omega) (by omega) (by omega)) (cwV 2 hts (goodIn_app (goodIn_r _ [19, 20, 21, 7] (by decide +kernel) (by decide +kernel)) (goodIn_ca (goodIn_r _ [15, 3, 16, 17, 18, 7] (by decide +kernel) (by decide +kernel)) (bs_in _ _))) rfl rfl rfl (by decide +kernel) ⟨(Nat.le_of_ble_eq_true rfl), (Nat.le_of_ble_eq_true rfl)⟩) ⟨fun a U g mk q => by obtain ⟨q0, q1, qK, qE⟩ := q; exact ⟨q0, q1, va_K.moved (u := U) (U := U.calling g mk a) (Vm.Alike.refl U.vm) qK, EV.blind g mk a qE⟩, gH_recv hK hT hr_o0 shm_0 rfl, fun U hU hW => ⟨rfl, hU, va_K.moved hW.alike hK, hE.call hS hFc hU hW⟩⟩ rfl rfl hl.1 rfl (lv_room (Nat.le_of_ble_eq_true rfl)) dX12_coal_70 ⟨(Nat.le_of_ble_eq_true rfl), (Nat.le_of_ble_eq_true rfl)⟩) hS (fun q _ h => hFc q h) hFc (fun r111 u t H locs ht hvm hw112 hB _ _ hS => ?_)
          obtain ⟨hT, hF1⟩ := hB
          rw [ht] at hT hF1
          have m113 := (el_kept (hF1.arr hg39 skm_2 (by decide))).trans m106
          have m114 := (el_kept (hF1.arr hg39 skm_2 (by decide))).trans m107
          have hF := hF.more hF1 (by decide)
          try dsimp only at hw112
          have ⟨ix115, hix115, m116⟩ := hw112
          have m117 := (el_kept (hF1.arr hg39 skm_2 (by decide))).trans m116
          obtain rfl : r35 = r111 := (el_same m117 m113 (by have q8 := (show ix37.toInt = ix37.toInt from rfl); omega)).symm
          refine lv_iconst (v := 3) hx hb dX12_coal_73 (by decide) ?_
          refine lv_icmp_eq (tgt := 81) hx hb dX12_coal_74 (by decide) (fun c118 => ?_) (fun c118 => (by exfalso; have q9 : r35.toInt ≠ 3 := ti_ne c118 rfl (by decide); omega))
          have t119 : r35.toInt = 3 := ti_eq c118 rfl (by decide)
          refine lv_iconst (v := 0) hx hb dX12_coal_81 (by decide) ?_
          refine lv_iconst (v := 3) hx hb dX12_coal_82 (by decide) ?_
          have hFc := gA_free hG hA hS
          refine va_calli (va_runV (As := [.int 0, .int 3]) (rest := []) ⟨hx, hb, hml, hown, hts⟩ (s_throwsIf l dC dI kA G H q wN wH wB wC wL wK PI o0 0 3 hT hr_o0 (rg_t (a := 0) (by decide) (by omega) (by omega)) (by omega) (by omega) (by omega) (by omega)) (cwV 2 hts (goodIn_app (goodIn_r _ [12, 13, 14, 7] (by decide +kernel) (by decide +kernel)) (goodIn_ca (goodIn_r _ [11, 1] (by decide +kernel) (by decide +kernel)) (bs_in _ _))) rfl rfl rfl (by decide +kernel) ⟨(Nat.le_of_ble_eq_true rfl), (Nat.le_of_ble_eq_true rfl)⟩) ⟨fun a U g mk q => by obtain ⟨q0, q1, qK, qE⟩ := q; exact ⟨q0, q1, va_K.moved (u := U) (U := U.calling g mk a) (Vm.Alike.refl U.vm) qK, EV.blind g mk a qE⟩, gH_recv hK hT hr_o0 shm_0 rfl, fun U hU hW => ⟨rfl, hU, va_K.moved hW.alike hK, hE.call hS hFc hU hW⟩⟩ rfl rfl hl.1 rfl (lv_room (Nat.le_of_ble_eq_true rfl)) dX12_coal_83 ⟨(Nat.le_of_ble_eq_true rfl), (Nat.le_of_ble_eq_true rfl)⟩) hS (fun q _ h => hFc q h) hFc (fun r120 u t H locs ht hvm hw121 hB _ _ hS => ?_)
          obtain ⟨hT, hF1⟩ := hB
          rw [ht] at hT hF1
          have m122 := (el_kept (hF1.arr hg39 skm_2 (by decide))).trans m113
          have m123 := (el_kept (hF1.arr hg39 skm_2 (by decide))).trans m114
          have hF := hF.more hF1 (by decide)
          try dsimp only at hw121
          obtain ⟨h124, hd125⟩ := hw121
          obtain rfl : (0 : Int32) = r120 := hd125.symm
          refine lv_if_eq (tgt := 91) hx hb dX12_coal_86 (by decide) (fun c126 => ?_) (fun c126 => absurd c126 (by decide))
          refine lv_aload_n hx hb dX12_coal_91 rfl (lv_at hl 0 rfl) ?_
          refine tw_get hx hb hts bF_X12 hown hK hT hr_o0 shm_0 rfl 1 (by decide) (ht_at hts 2 rfl) (fun _ h9 => h9) dX12_coal_92 (fun v9 m127 h9 => ?_)
          obtain ⟨rfl, hg128⟩ := h9 _ rfl
          refine lv_iload_n hx hb dX12_coal_95 rfl (lv_at hl 1 rfl) ?_
          refine lv_bipush (v := 18) hx hb dX12_coal_96 (by decide) ?_
          have hFc := gA_free hG hA hS
          refine va_calli (va_runS (As := [.int p0, .int 18]) (rest := [.ref (q 1)]) ⟨hx, hb, hml, hown, hts⟩ (s_at l dC dI kA G H q wN wH wB wC wL wK PI p0 18 hT (rg_t (a := p0.toInt) rfl (by have q8 := ti_all p0; omega) (by have q8 := ti_all p0; omega)) (rg_t (a := 18) (by decide) (by omega) (by omega)) (by omega) (by omega) (by omega) (by omega)) (va_cwS 2 hts (goodIn_app (goodIn_r _ [17, 18, 7] (by decide +kernel) (by decide +kernel)) (goodIn_ca (goodIn_r _ [16] (by decide +kernel) (by decide +kernel)) (bs_in _ _))) rfl rfl rfl (by decide +kernel) ⟨(Nat.le_of_ble_eq_true rfl), (Nat.le_of_ble_eq_true rfl)⟩) ⟨fun a U g mk q => by obtain ⟨q0, q1, qK, qE⟩ := q; exact ⟨q0, q1, va_K.moved (u := U) (U := U.calling g mk a) (Vm.Alike.refl U.vm) qK, EV.blind g mk a qE⟩, fun U hU hW => ⟨rfl, hU, va_K.moved hW.alike hK, hE.call hS hFc hU hW⟩⟩ rfl rfl hl.1 rfl (lv_room (Nat.le_of_ble_eq_true rfl)) dX12_coal_98 ⟨(Nat.le_of_ble_eq_true rfl), (Nat.le_of_ble_eq_true rfl)⟩) hS (fun q _ h => hFc q h) hFc (fun r129 u t H locs ht hvm hw130 hB _ _ hS => ?_)
          obtain ⟨hT, hF1⟩ := hB
          rw [ht] at hT hF1
          have m131 := (el_kept (hF1.arr hg39 skm_2 (by decide))).trans m122
          have m132 := (el_kept (hF1.arr hg39 skm_2 (by decide))).trans m123
          have hF := hF.more hF1 (by decide)
          try dsimp only at hw130
          obtain ⟨h133, hf134⟩ := hw130
          have t135 : (18 : Int32).toInt = 18 := by decide
          refine lv_dup2_11 hx hb dX12_coal_101 rfl rfl ?_
          refine tw_iald (i := r129) hx hb hK hT hg39 shm_2 rfl (vin_t (a := r129.toInt) rfl (by omega) (by omega)) dX12_coal_102 (fun v9 m136 h9 => ?_)
          obtain ⟨x137, rfl, gx137, kx137⟩ := (gp_at h9 (w_fre (by have q9 := tn_of (show r129.toInt = r129.toInt from rfl) (show (0 : Int) ≤ r129.toInt from by omega); omega)))
          obtain rfl : r95 = x137 := (el_same m136 m132 (show r129.toInt = ix98.toInt from by rw []; try omega)).symm
          refine lv_iload_n hx hb dX12_coal_103 rfl (lv_at hl 2 rfl) ?_
          refine lv_iadd hx hb dX12_coal_104 ?_
          refine lv_topi (fun x138 ex138 => ?_)
          refine tw_iast (i := r129) (x := x138) hx hb hK hT hG hS hg39 shm_2 rfl (vin_t (a := r129.toInt) rfl (by omega) (by omega)) (gp_of (gi_all _) (w_fre (by have q9 := tn_of (show r129.toInt = r129.toInt from rfl) (show (0 : Int) ≤ r129.toInt from by omega); omega)) (wX_o (by have q9 := tn_of (show r129.toInt = r129.toInt from rfl) (show (0 : Int) ≤ r129.toInt from by omega); omega) (by omega))) dX12_coal_105 (fun H locs hT oq m139 oi hS => ?_)
          have hF := hF.ast hg39 skm_2 oq (by decide)
          have m140 := (oi _ (tn_ne (show ix37.toInt = ix37.toInt from rfl) (show r129.toInt = r129.toInt from rfl) (by omega) (by omega) (by omega))).trans m131
          refine lv_aload_n hx hb dX12_coal_106 rfl (lv_at hl 0 rfl) ?_
          refine lv_iconst (v := 0) hx hb dX12_coal_107 (by decide) ?_
          refine tw_put (v := .int 0) (ty := .int) hx hb hts bF_X12 tyX12 tyX12_ok nmX12 hown hK hT hG hS hr_o0 shm_0 rfl 9 (by decide) (ht_at hts 21 rfl) (fun _ h9 => h9) rfl (by decide +kernel) rfl rfl (gl_at rfl (gi_of (show (0 : Int32).toInt = 0 from (by decide)) (by omega) (by omega))) dX12_coal_108 (fun H locs hT oq m141 oj hS => ?_)
          have hF := hF.put hr_o0 skm_0 oq oj (by decide)
          have m142 := (el_kept (oq _ (gne hg39 hr_o0 (by decide)))).trans m140
          have m143 := (el_kept (oq _ (gne hg39 hr_o0 (by decide)))).trans m139
          refine lv_aload_n hx hb dX12_coal_111 rfl (lv_at hl 0 rfl) ?_
          refine lv_iload_n hx hb dX12_coal_112 rfl (lv_at hl 1 rfl) ?_
          refine lv_bipush (v := 18) hx hb dX12_coal_113 (by decide) ?_
          have hFc := gA_free hG hA hS
          refine va_calli (va_runV (As := [.int p0, .int 18]) (rest := []) ⟨hx, hb, hml, hown, hts⟩ (s_of18 l dC dI kA G H q wN wH wB wC wL wK PI o0 p0 hT hr_o0 (rg_t (a := p0.toInt) rfl (by have q8 := ti_all p0; omega) (by have q8 := ti_all p0; omega)) (by omega) (by omega) (by omega) (by omega)) (cwV 2 hts (goodIn_app (goodIn_r _ [19, 20, 21, 7] (by decide +kernel) (by decide +kernel)) (goodIn_ca (goodIn_r _ [15, 3, 16, 17, 18, 7] (by decide +kernel) (by decide +kernel)) (bs_in _ _))) rfl rfl rfl (by decide +kernel) ⟨(Nat.le_of_ble_eq_true rfl), (Nat.le_of_ble_eq_true rfl)⟩) ⟨fun a U g mk q => by obtain ⟨q0, q1, qK, qE⟩ := q; exact ⟨q0, q1, va_K.moved (u := U) (U := U.calling g mk a) (Vm.Alike.refl U.vm) qK, EV.blind g mk a qE⟩, gH_recv hK hT hr_o0 shm_0 rfl, fun U hU hW => ⟨rfl, hU, va_K.moved hW.alike hK, hE.call hS hFc hU hW⟩⟩ rfl rfl hl.1 rfl (lv_room (Nat.le_of_ble_eq_true rfl)) dX12_coal_115 ⟨(Nat.le_of_ble_eq_true rfl), (Nat.le_of_ble_eq_true rfl)⟩) hS (fun q _ h => hFc q h) hFc (fun r144 u t H locs ht hvm hw145 hB _ _ hS => ?_)
          obtain ⟨hT, hF1⟩ := hB
          rw [ht] at hT hF1
          have m146 := (el_kept (hF1.arr hg39 skm_2 (by decide))).trans m142
          have m147 := (el_kept (hF1.arr hg39 skm_2 (by decide))).trans m143
          have m148 := (hF1.fld hr_o0 skm_0 (k := 9) (by decide) (by decide)).trans m141
          have hF := hF.more hF1 (by decide)
          try dsimp only at hw145
          have ⟨ix149, hix149, m150⟩ := hw145
          have m151 := (el_kept (hF1.arr hg39 skm_2 (by decide))).trans m150
          obtain rfl : x138 = r144 := (el_same m151 m147 (by have q8 := (show r129.toInt = r129.toInt from rfl); omega)).symm
          exact W.iret (v := x138) hx hb hr (fun t ht hW => ⟨⟨x138, (), rfl, (by exact trivial), by (try dsimp only); rw [ht]; exact ⟨hT, hF⟩⟩, hS.F ht⟩) hS.2.2 dX12_coal_118
        · have t152 : 100000 < x101.toInt := ti_nle c102 rfl (by decide)
          refine lv_iconst (v := 1) hx hb dX12_coal_54 (by decide) ?_
          refine lv_goto (tgt := 59) hx hb dX12_coal_55 (by decide) ?_
          refine lv_iconst (v := 2) hx hb dX12_coal_59 (by decide) ?_
          have hFc := gA_free hG hA hS
          refine va_calli (va_runV (As := [.int 1, .int 2]) (rest := []) ⟨hx, hb, hml, hown, hts⟩ (s_throwsIf l dC dI kA G H q wN wH wB wC wL wK PI o0 1 2 hT hr_o0 (rg_t (a := 1) (by decide) (by omega) (by omega)) (by omega) (by omega) (by omega) (by omega)) (cwV 2 hts (goodIn_app (goodIn_r _ [12, 13, 14, 7] (by decide +kernel) (by decide +kernel)) (goodIn_ca (goodIn_r _ [11, 1] (by decide +kernel) (by decide +kernel)) (bs_in _ _))) rfl rfl rfl (by decide +kernel) ⟨(Nat.le_of_ble_eq_true rfl), (Nat.le_of_ble_eq_true rfl)⟩) ⟨fun a U g mk q => by obtain ⟨q0, q1, qK, qE⟩ := q; exact ⟨q0, q1, va_K.moved (u := U) (U := U.calling g mk a) (Vm.Alike.refl U.vm) qK, EV.blind g mk a qE⟩, gH_recv hK hT hr_o0 shm_0 rfl, fun U hU hW => ⟨rfl, hU, va_K.moved hW.alike hK, hE.call hS hFc hU hW⟩⟩ rfl rfl hl.1 rfl (lv_room (Nat.le_of_ble_eq_true rfl)) dX12_coal_60 ⟨(Nat.le_of_ble_eq_true rfl), (Nat.le_of_ble_eq_true rfl)⟩) hS (fun q _ h => hFc q h) hFc (fun r153 u t H locs ht hvm hw154 hB _ _ hS => ?_)
          obtain ⟨hT, hF1⟩ := hB
          rw [ht] at hT hF1
          have m155 := (el_kept (hF1.arr hg39 skm_2 (by decide))).trans m97
          have m156 := (el_kept (hF1.arr hg39 skm_2 (by decide))).trans m100
          have hF := hF.more hF1 (by decide)
          try dsimp only at hw154
          obtain ⟨h157, hd158⟩ := hw154
          obtain rfl : (1 : Int32) = r153 := hd158.symm
          refine lv_if_ne (tgt := 89) hx hb dX12_coal_63 (by decide) (fun c159 => ?_) (fun c159 => absurd c159 (by decide))
          refine lv_iconst (v := 0) hx hb dX12_coal_89 (by decide) ?_
          exact W.iret (v := 0) hx hb hr (fun t ht hW => ⟨⟨0, (), rfl, (by exact trivial), by (try dsimp only); rw [ht]; exact ⟨hT, hF⟩⟩, hS.F ht⟩) hS.2.2 dX12_coal_90
def w_s_row : List Cond := .code yX12_row cX12_row 3 (some .int) :: ([.fieldLink RX12 194 "SeaLandModel" "thrown" "I", .code yX12_noSquare cX12_noSquare 1 (some .boolean), .code yX12_in cX12_in 3 (some .boolean), .methodLink RX12 197 yX12_in, .static yX12_in, .initialized RX12, .methodLink RX12 220 yX12_noSquare, .static yX12_noSquare, .code yX12_throwsIf cX12_throwsIf 3 (some .boolean), .methodLink RX12 224 yX12_throwsIf, .instanceMethod yX12_throwsIf, .selects RX12 yX12_throwsIf yX12_throwsIf, .fieldLink RX12 238 "SeaLandModel" "rows" "I", .fieldLink RX12 25 "SeaLandModel" "rowTold" "[I"] ++ bs)
set_option maxHeartbeats 4000000 in
set_option maxRecDepth 100000 in
theorem s_row (l : Launch) (dC : Nat → ClassId) (dI : Nat → Nat → Nat) (kA : Nat → ClassId) (G : gT) (H0 : Heap) (q : Nat → Nat) (wN wH wB wC : Int) (wL wK : Nat → Prop) (PI : Nat → Int → Prop) (o0 : Nat) (p0 : Int32) (p1 : Int32) (hT : gH (dC, dI) kA (SHm q (wP wN wH wB wC wC wL wK) PI) G H0) (hr_o0 : G o0 = some 0) (hgn : 6500000 ≤ wN ∧ wN ≤ 400000000) (hgh : 0 ≤ wH ∧ wH ≤ 40000) (hgb : 0 ≤ wB ∧ wB ≤ 3850000) (hgc : 0 ≤ wC ∧ wC ≤ 30) : Met l yX12_row w_s_row ({ frames := 2, cells := 0, slots := 0, locals := 42 }) (va_Pc [.ref o0, .int p0, .int p1] (fun U => U.heap = H0 ∧ va_K (dC, dI) vwCl (tyl kA) U ∧ EV (gA G H0.size) U U.heap)) (va_Qi (fun (r : Int32) (u : Unit) => True) (fun (_ : Unit) (t : State) => gH (dC, dI) kA (SHm q (wP wN wH wB wC wC wL wK) PI) G t.heap ∧ gF (dC, dI) SKm G ([(0, 0)] : List (Nat × Nat)) H0 t.heap) (gA G H0.size)) 0 0 (gA G H0.size) := by
  refine Met.ofW (cc := cX12_row) (maxL := 3) (ret := (some .int)) (by decide) rfl ?_
  intro p e s m args below meth c s₁ B hml hv
  obtain ⟨rfl, hH0, hK, hE⟩ := hv
  have hx := B.exec
  have hb := B.bytes
  have hr := B.returns
  have hts := atoms_spec (ws := w_s_row) B.pre
  have hown : s.vm.findClass RX12 = some m.cls := findClass_of_methodNamed B.named
  have hlocks := B.notSynchronized
  subst hH0
  generalize hAe : gA G s.heap.size = A at hE ⊢
  have hA : ∀ q : Nat, s.heap.size ≤ q → A q := fun q h => by rw [← hAe]; exact Or.inr h
  have hG := gA_of hAe
  have hS : va_S A s.heap s.heap [] := va_S.rf
  have hF : gF (dC, dI) SKm G ([(0, 0)] : List (Nat × Nat)) s.heap s.heap := gF.rf
  have hl := lv_entry ([.ref o0, .int p0, .int p1]) (n := 3) (Nat.le_of_ble_eq_true rfl)
  rw [lg_entry_eq]
  generalize (lg_sl ([.ref o0, .int p0, .int p1]) ++ List.replicate (3 - (lg_sl ([.ref o0, .int p0, .int p1])).length) Slot.unset).toArray = ls at hl ⊢
  have hl : lv_has ls 3 [(0, .ref o0), (1, .int p0), (2, .int p1)] := hl
  refine lv_aload_n hx hb dX12_row_0 rfl (lv_at hl 0 rfl) ?_
  refine lv_iconst (v := 0) hx hb dX12_row_1 (by decide) ?_
  refine tw_put (v := .int 0) (ty := .int) hx hb hts bF_X12 tyX12 tyX12_ok nmX12 hown hK hT hG hS hr_o0 shm_0 rfl 0 (by decide) (ht_at hts 0 rfl) (fun _ h9 => h9) rfl (by decide +kernel) rfl rfl (gl_at rfl (gi_all _)) dX12_row_2 (fun H locs hT oq m1 oj hS => ?_)
  have hF := hF.put hr_o0 skm_0 oq oj (by decide)
  refine lv_aload_n hx hb dX12_row_5 rfl (lv_at hl 0 rfl) ?_
  refine lv_iload_n hx hb dX12_row_6 rfl (lv_at hl 2 rfl) ?_
  have hFc := gA_free hG hA hS
  refine va_calli (va_runS (As := [.int p1]) (rest := [.ref o0]) ⟨hx, hb, hml, hown, hts⟩ (s_noSquare l dC dI kA G H q wN wH wB wC wL wK PI p1 hT (by omega) (by omega) (by omega) (by omega)) (va_cwS 1 hts (goodIn_app (goodIn_r _ [7, 8, 6] (by decide +kernel) (by decide +kernel)) (goodIn_ca (goodIn_r _ [2, 3, 4, 5, 6] (by decide +kernel) (by decide +kernel)) (bs_in _ _))) rfl rfl rfl (by decide +kernel) ⟨(Nat.le_of_ble_eq_true rfl), (Nat.le_of_ble_eq_true rfl)⟩) ⟨fun a U g mk q => by obtain ⟨q0, q1, qK, qE⟩ := q; exact ⟨q0, q1, va_K.moved (u := U) (U := U.calling g mk a) (Vm.Alike.refl U.vm) qK, EV.blind g mk a qE⟩, fun U hU hW => ⟨rfl, hU, va_K.moved hW.alike hK, hE.call hS hFc hU hW⟩⟩ rfl rfl hl.1 rfl (lv_room (Nat.le_of_ble_eq_true rfl)) dX12_row_7 ⟨(Nat.le_of_ble_eq_true rfl), (Nat.le_of_ble_eq_true rfl)⟩) hS (fun q _ h => hFc q h) hFc (fun r2 u t H locs ht hvm hw3 hB _ _ hS => ?_)
  obtain ⟨hT, hF1⟩ := hB
  rw [ht] at hT hF1
  have m4 := (hF1.fld hr_o0 skm_0 (k := 0) (by decide) (by decide)).trans m1
  have hF := hF.more hF1 (by decide)
  try dsimp only at hw3
  obtain ⟨h5, hi6⟩ := hw3
  refine lv_iconst (v := 1) hx hb dX12_row_10 (by decide) ?_
  have hFc := gA_free hG hA hS
  refine va_calli (va_runV (As := [.int r2, .int 1]) (rest := []) ⟨hx, hb, hml, hown, hts⟩ (s_throwsIf l dC dI kA G H q wN wH wB wC wL wK PI o0 r2 1 hT hr_o0 (rg_t (a := r2.toInt) rfl (by have q8 := ti_all r2; omega) (by have q8 := ti_all r2; omega)) (by omega) (by omega) (by omega) (by omega)) (cwV 2 hts (goodIn_app (goodIn_r _ [10, 11, 12, 6] (by decide +kernel) (by decide +kernel)) (goodIn_ca (goodIn_r _ [9, 1] (by decide +kernel) (by decide +kernel)) (bs_in _ _))) rfl rfl rfl (by decide +kernel) ⟨(Nat.le_of_ble_eq_true rfl), (Nat.le_of_ble_eq_true rfl)⟩) ⟨fun a U g mk q => by obtain ⟨q0, q1, qK, qE⟩ := q; exact ⟨q0, q1, va_K.moved (u := U) (U := U.calling g mk a) (Vm.Alike.refl U.vm) qK, EV.blind g mk a qE⟩, gH_recv hK hT hr_o0 shm_0 rfl, fun U hU hW => ⟨rfl, hU, va_K.moved hW.alike hK, hE.call hS hFc hU hW⟩⟩ rfl rfl hl.1 rfl (lv_room (Nat.le_of_ble_eq_true rfl)) dX12_row_11 ⟨(Nat.le_of_ble_eq_true rfl), (Nat.le_of_ble_eq_true rfl)⟩) hS (fun q _ h => hFc q h) hFc (fun r7 u t H locs ht hvm hw8 hB _ _ hS => ?_)
  obtain ⟨hT, hF1⟩ := hB
  rw [ht] at hT hF1
  have hF := hF.more hF1 (by decide)
  try dsimp only at hw8
  obtain ⟨h10, hd11⟩ := hw8
  obtain rfl : r2 = r7 := hd11.symm
  refine lv_if_ne (tgt := 44) hx hb dX12_row_14 (by decide) (fun c12 => ?_) (fun c12 => ?_)
  · have t13 : r2.toInt ≠ 0 := ti_ne c12 rfl (by decide)
    refine lv_iconst (v := 0) hx hb dX12_row_44 (by decide) ?_
    refine lv_goto (tgt := 59) hx hb dX12_row_45 (by decide) ?_
    exact W.iret (v := 0) hx hb hr (fun t ht hW => ⟨⟨0, (), rfl, (by exact trivial), by (try dsimp only); rw [ht]; exact ⟨hT, hF⟩⟩, hS.F ht⟩) hS.2.2 dX12_row_59
  · have t14 : r2.toInt = 0 := ti_eq c12 rfl (by decide)
    have t15 : 0 ≤ p1.toInt ∧ p1.toInt ≤ 95 := hi6 c12
    refine lv_aload_n hx hb dX12_row_17 rfl (lv_at hl 0 rfl) ?_
    refine lv_iload_n hx hb dX12_row_18 rfl (lv_at hl 1 rfl) ?_
    refine lv_iconst (v := 0) hx hb dX12_row_19 (by decide) ?_
    refine lv_aload_n hx hb dX12_row_20 rfl (lv_at hl 0 rfl) ?_
    refine tw_get hx hb hts bF_X12 hown hK hT hr_o0 shm_0 rfl 9 (by decide) (ht_at hts 12 rfl) (fun _ h9 => h9) dX12_row_21 (fun v9 m16 h9 => ?_)
    obtain ⟨x17, rfl, gx17, kx17⟩ := h9 _ rfl
    refine lv_iconst (v := 1) hx hb dX12_row_24 (by decide) ?_
    refine lv_isub hx hb dX12_row_25 ?_
    refine lv_topi (fun x18 ex18 => ?_)
    have t19 : x18.toInt = x17.toInt - 1 := ti_sub ex18 rfl (by decide) (by omega) (by omega)
    have hFc := gA_free hG hA hS
    refine va_calli (va_runS (As := [.int p0, .int 0, .int x18]) (rest := [.ref o0]) ⟨hx, hb, hml, hown, hts⟩ (s_in l dC dI kA G H q wN wH wB wC wL wK PI p0 0 x18 hT (by omega) (by omega) (by omega) (by omega)) (va_cwS 3 hts (goodIn_app (goodIn_r _ [4, 5, 6] (by decide +kernel) (by decide +kernel)) (goodIn_ca (goodIn_r _ [3] (by decide +kernel) (by decide +kernel)) (bs_in _ _))) rfl rfl rfl (by decide +kernel) ⟨(Nat.le_of_ble_eq_true rfl), (Nat.le_of_ble_eq_true rfl)⟩) ⟨fun a U g mk q => by obtain ⟨q0, q1, qK, qE⟩ := q; exact ⟨q0, q1, va_K.moved (u := U) (U := U.calling g mk a) (Vm.Alike.refl U.vm) qK, EV.blind g mk a qE⟩, fun U hU hW => ⟨rfl, hU, va_K.moved hW.alike hK, hE.call hS hFc hU hW⟩⟩ rfl rfl hl.1 rfl (lv_room (Nat.le_of_ble_eq_true rfl)) dX12_row_26 ⟨(Nat.le_of_ble_eq_true rfl), (Nat.le_of_ble_eq_true rfl)⟩) hS (fun q _ h => hFc q h) hFc (fun r20 u t H locs ht hvm hw21 hB _ _ hS => ?_)
    obtain ⟨hT, hF1⟩ := hB
    rw [ht] at hT hF1
    have m22 := (hF1.fld hr_o0 skm_0 (k := 9) (by decide) (by decide)).trans m16
    have hF := hF.more hF1 (by decide)
    try dsimp only at hw21
    obtain ⟨h23, hi24, hi25⟩ := hw21
    refine lv_if_ne (tgt := 36) hx hb dX12_row_29 (by decide) (fun c26 => ?_) (fun c26 => ?_)
    · have t27 : r20.toInt ≠ 0 := ti_ne c26 rfl (by decide)
      have t28 : (0 : Int32).toInt = 0 := by decide
      have t29 : (0 : Int32).toInt ≤ p0.toInt ∧ p0.toInt ≤ x18.toInt := hi24 ((bit_of ⟨by omega, by omega⟩).resolve_left c26)
      refine lv_iconst (v := 0) hx hb dX12_row_36 (by decide) ?_
      refine lv_iconst (v := 2) hx hb dX12_row_37 (by decide) ?_
      have hFc := gA_free hG hA hS
      refine va_calli (va_runV (As := [.int 0, .int 2]) (rest := []) ⟨hx, hb, hml, hown, hts⟩ (s_throwsIf l dC dI kA G H q wN wH wB wC wL wK PI o0 0 2 hT hr_o0 (rg_t (a := 0) (by decide) (by omega) (by omega)) (by omega) (by omega) (by omega) (by omega)) (cwV 2 hts (goodIn_app (goodIn_r _ [10, 11, 12, 6] (by decide +kernel) (by decide +kernel)) (goodIn_ca (goodIn_r _ [9, 1] (by decide +kernel) (by decide +kernel)) (bs_in _ _))) rfl rfl rfl (by decide +kernel) ⟨(Nat.le_of_ble_eq_true rfl), (Nat.le_of_ble_eq_true rfl)⟩) ⟨fun a U g mk q => by obtain ⟨q0, q1, qK, qE⟩ := q; exact ⟨q0, q1, va_K.moved (u := U) (U := U.calling g mk a) (Vm.Alike.refl U.vm) qK, EV.blind g mk a qE⟩, gH_recv hK hT hr_o0 shm_0 rfl, fun U hU hW => ⟨rfl, hU, va_K.moved hW.alike hK, hE.call hS hFc hU hW⟩⟩ rfl rfl hl.1 rfl (lv_room (Nat.le_of_ble_eq_true rfl)) dX12_row_38 ⟨(Nat.le_of_ble_eq_true rfl), (Nat.le_of_ble_eq_true rfl)⟩) hS (fun q _ h => hFc q h) hFc (fun r30 u t H locs ht hvm hw31 hB _ _ hS => ?_)
      obtain ⟨hT, hF1⟩ := hB
      rw [ht] at hT hF1
      have m32 := (hF1.fld hr_o0 skm_0 (k := 9) (by decide) (by decide)).trans m22
      have hF := hF.more hF1 (by decide)
      try dsimp only at hw31
      obtain ⟨h33, hd34⟩ := hw31
      obtain rfl : (0 : Int32) = r30 := hd34.symm
      refine lv_if_eq (tgt := 48) hx hb dX12_row_41 (by decide) (fun c35 => ?_) (fun c35 => absurd c35 (by decide))
      refine lv_aload_n hx hb dX12_row_48 rfl (lv_at hl 0 rfl) ?_
      refine tw_get hx hb hts bF_X12 hown hK hT hr_o0 shm_0 rfl 7 (by decide) (ht_at hts 13 rfl) (fun _ h9 => h9) dX12_row_49 (fun v9 m36 h9 => ?_)
      obtain ⟨rfl, hg37⟩ := h9 _ rfl
      refine lv_bipush (v := 96) hx hb dX12_row_52 (by decide) ?_
      refine lv_iload_n hx hb dX12_row_54 rfl (lv_at hl 1 rfl) ?_
      refine lv_imul hx hb dX12_row_55 ?_
      refine lv_topi (fun x38 ex38 => ?_)
      have t39 : x38.toInt = 96 * p0.toInt := ti_mul ex38 (by decide) rfl (by omega) (by omega)
      refine lv_iload_n hx hb dX12_row_56 rfl (lv_at hl 2 rfl) ?_
      refine lv_iadd hx hb dX12_row_57 ?_
      refine lv_topi (fun x40 ex40 => ?_)
      have t41 : x40.toInt = x38.toInt + p1.toInt := ti_add ex40 rfl rfl (by omega) (by omega)
      refine tw_iald (i := x40) hx hb hK hT hg37 shm_8 rfl (vin_t (a := x40.toInt) rfl (by omega) (by omega)) dX12_row_58 (fun v9 m42 h9 => ?_)
      obtain ⟨x43, rfl, gx43, kx43⟩ := h9
      exact W.iret (v := x43) hx hb hr (fun t ht hW => ⟨⟨x43, (), rfl, (by exact trivial), by (try dsimp only); rw [ht]; exact ⟨hT, hF⟩⟩, hS.F ht⟩) hS.2.2 dX12_row_59
    · have t44 : r20.toInt = 0 := ti_eq c26 rfl (by decide)
      have t45 : (0 : Int32).toInt = 0 := by decide
      have t46 : p0.toInt < (0 : Int32).toInt ∨ x18.toInt < p0.toInt := hi25 c26
      refine lv_iconst (v := 1) hx hb dX12_row_32 (by decide) ?_
      refine lv_goto (tgt := 37) hx hb dX12_row_33 (by decide) ?_
      refine lv_iconst (v := 2) hx hb dX12_row_37 (by decide) ?_
      have hFc := gA_free hG hA hS
      refine va_calli (va_runV (As := [.int 1, .int 2]) (rest := []) ⟨hx, hb, hml, hown, hts⟩ (s_throwsIf l dC dI kA G H q wN wH wB wC wL wK PI o0 1 2 hT hr_o0 (rg_t (a := 1) (by decide) (by omega) (by omega)) (by omega) (by omega) (by omega) (by omega)) (cwV 2 hts (goodIn_app (goodIn_r _ [10, 11, 12, 6] (by decide +kernel) (by decide +kernel)) (goodIn_ca (goodIn_r _ [9, 1] (by decide +kernel) (by decide +kernel)) (bs_in _ _))) rfl rfl rfl (by decide +kernel) ⟨(Nat.le_of_ble_eq_true rfl), (Nat.le_of_ble_eq_true rfl)⟩) ⟨fun a U g mk q => by obtain ⟨q0, q1, qK, qE⟩ := q; exact ⟨q0, q1, va_K.moved (u := U) (U := U.calling g mk a) (Vm.Alike.refl U.vm) qK, EV.blind g mk a qE⟩, gH_recv hK hT hr_o0 shm_0 rfl, fun U hU hW => ⟨rfl, hU, va_K.moved hW.alike hK, hE.call hS hFc hU hW⟩⟩ rfl rfl hl.1 rfl (lv_room (Nat.le_of_ble_eq_true rfl)) dX12_row_38 ⟨(Nat.le_of_ble_eq_true rfl), (Nat.le_of_ble_eq_true rfl)⟩) hS (fun q _ h => hFc q h) hFc (fun r47 u t H locs ht hvm hw48 hB _ _ hS => ?_)
      obtain ⟨hT, hF1⟩ := hB
      rw [ht] at hT hF1
      have m49 := (hF1.fld hr_o0 skm_0 (k := 9) (by decide) (by decide)).trans m22
      have hF := hF.more hF1 (by decide)
      try dsimp only at hw48
      obtain ⟨h50, hd51⟩ := hw48
      obtain rfl : (1 : Int32) = r47 := hd51.symm
      refine lv_if_eq (tgt := 48) hx hb dX12_row_41 (by decide) (fun c52 => absurd c52 (by decide)) (fun c52 => ?_)
      refine lv_iconst (v := 0) hx hb dX12_row_44 (by decide) ?_
      refine lv_goto (tgt := 59) hx hb dX12_row_45 (by decide) ?_
      exact W.iret (v := 0) hx hb hr (fun t ht hW => ⟨⟨0, (), rfl, (by exact trivial), by (try dsimp only); rw [ht]; exact ⟨hT, hF⟩⟩, hS.F ht⟩) hS.2.2 dX12_row_59
def w_s_settler : List Cond := .code yX12_settler cX12_settler 9 (some .int) :: ([.fieldLink RX12 194 "SeaLandModel" "thrown" "I", .code yX12_in cX12_in 3 (some .boolean), .methodLink RX12 197 yX12_in, .static yX12_in, .initialized RX12, .code yX12_throwsIf cX12_throwsIf 3 (some .boolean), .methodLink RX12 224 yX12_throwsIf, .instanceMethod yX12_throwsIf, .selects RX12 yX12_throwsIf yX12_throwsIf, .constant RX12 241 100000, .constant RX12 501 999999, .fieldLink RX12 495 "SeaLandModel" "settlers" "I", .fieldLink RX12 79 "SeaLandModel" "age" "[I", .fieldLink RX12 82 "SeaLandModel" "sons" "[I", .fieldLink RX12 85 "SeaLandModel" "coin" "[I", .fieldLink RX12 88 "SeaLandModel" "cattle" "[I", .fieldLink RX12 91 "SeaLandModel" "isKin" "[Z", .fieldLink RX12 95 "SeaLandModel" "isBoard" "[Z", .fieldLink RX12 98 "SeaLandModel" "drawn" "[I", .fieldLink RX12 101 "SeaLandModel" "holds" "[I"] ++ bs)
set_option maxHeartbeats 4000000 in
set_option maxRecDepth 100000 in
theorem s_settler (l : Launch) (dC : Nat → ClassId) (dI : Nat → Nat → Nat) (kA : Nat → ClassId) (G : gT) (H0 : Heap) (q : Nat → Nat) (wN wH wB wC : Int) (wL wK : Nat → Prop) (PI : Nat → Int → Prop) (o0 : Nat) (p0 : Int32) (p1 : Int32) (p2 : Int32) (p3 : Int32) (p4 : Int32) (p5 : Int32) (p6 : Int32) (hT : gH (dC, dI) kA (SHm q (wP wN wH wB wC wC wL wK) PI) G H0) (hr_o0 : G o0 = some 0) (hq0 : 0 ≤ p4.toInt ∧ p4.toInt ≤ 1) (hq1 : 0 ≤ p5.toInt ∧ p5.toInt ≤ 1) (hgn : 6500000 ≤ wN ∧ wN ≤ 400000000) (hgh : 0 ≤ wH ∧ wH ≤ 40000) (hgb : 0 ≤ wB ∧ wB ≤ 3850000) (hgc : 0 ≤ wC ∧ wC ≤ 30) : Met l yX12_settler w_s_settler ({ frames := 1, cells := 0, slots := 0, locals := 22 }) (va_Pc [.ref o0, .int p0, .int p1, .int p2, .int p3, .int p4, .int p5, .int p6] (fun U => U.heap = H0 ∧ va_K (dC, dI) vwCl (tyl kA) U ∧ EV (gA G H0.size) U U.heap)) (va_Qi (fun (r : Int32) (u : Unit) => (0 ≤ r.toInt ∧ r.toInt ≤ 59)) (fun (_ : Unit) (t : State) => gH (dC, dI) kA (SHm q (wP wN wH wB wC wC wL wK) PI) G t.heap ∧ gF (dC, dI) SKm G ([(0, 0), (0, 42), (32, 0), (33, 0), (34, 0), (35, 0), (36, 0), (37, 0), (38, 0), (39, 0)] : List (Nat × Nat)) H0 t.heap) (gA G H0.size)) 0 0 (gA G H0.size) := by
  refine Met.ofW (cc := cX12_settler) (maxL := 9) (ret := (some .int)) (by decide) rfl ?_
  intro p e s m args below meth c s₁ B hml hv
  obtain ⟨rfl, hH0, hK, hE⟩ := hv
  have hx := B.exec
  have hb := B.bytes
  have hr := B.returns
  have hts := atoms_spec (ws := w_s_settler) B.pre
  have hown : s.vm.findClass RX12 = some m.cls := findClass_of_methodNamed B.named
  have hlocks := B.notSynchronized
  subst hH0
  generalize hAe : gA G s.heap.size = A at hE ⊢
  have hA : ∀ q : Nat, s.heap.size ≤ q → A q := fun q h => by rw [← hAe]; exact Or.inr h
  have hG := gA_of hAe
  have hS : va_S A s.heap s.heap [] := va_S.rf
  have hF : gF (dC, dI) SKm G ([(0, 0), (0, 42), (32, 0), (33, 0), (34, 0), (35, 0), (36, 0), (37, 0), (38, 0), (39, 0)] : List (Nat × Nat)) s.heap s.heap := gF.rf
  have hl := lv_entry ([.ref o0, .int p0, .int p1, .int p2, .int p3, .int p4, .int p5, .int p6]) (n := 9) (Nat.le_of_ble_eq_true rfl)
  rw [lg_entry_eq]
  generalize (lg_sl ([.ref o0, .int p0, .int p1, .int p2, .int p3, .int p4, .int p5, .int p6]) ++ List.replicate (9 - (lg_sl ([.ref o0, .int p0, .int p1, .int p2, .int p3, .int p4, .int p5, .int p6])).length) Slot.unset).toArray = ls at hl ⊢
  have hl : lv_has ls 9 [(0, .ref o0), (1, .int p0), (2, .int p1), (3, .int p2), (4, .int p3), (5, .int p4), (6, .int p5), (7, .int p6)] := hl
  refine lv_aload_n hx hb dX12_settler_0 rfl (lv_at hl 0 rfl) ?_
  refine lv_iconst (v := 0) hx hb dX12_settler_1 (by decide) ?_
  refine tw_put (v := .int 0) (ty := .int) hx hb hts bF_X12 tyX12 tyX12_ok nmX12 hown hK hT hG hS hr_o0 shm_0 rfl 0 (by decide) (ht_at hts 0 rfl) (fun _ h9 => h9) rfl (by decide +kernel) rfl rfl (gl_at rfl (gi_all _)) dX12_settler_2 (fun H locs hT oq m1 oj hS => ?_)
  have hF := hF.put hr_o0 skm_0 oq oj (by decide)
  refine lv_aload_n hx hb dX12_settler_5 rfl (lv_at hl 0 rfl) ?_
  refine lv_iload_n hx hb dX12_settler_6 rfl (lv_at hl 1 rfl) ?_
  refine lv_iconst (v := 0) hx hb dX12_settler_7 (by decide) ?_
  refine lv_bipush (v := 99) hx hb dX12_settler_8 (by decide) ?_
  have hFc := gA_free hG hA hS
  refine va_calli (va_runS (As := [.int p0, .int 0, .int 99]) (rest := [.ref o0]) ⟨hx, hb, hml, hown, hts⟩ (s_in l dC dI kA G H q wN wH wB wC wL wK PI p0 0 99 hT (by omega) (by omega) (by omega) (by omega)) (va_cwS 3 hts (goodIn_app (goodIn_r _ [3, 4, 5] (by decide +kernel) (by decide +kernel)) (goodIn_ca (goodIn_r _ [2] (by decide +kernel) (by decide +kernel)) (bs_in _ _))) rfl rfl rfl (by decide +kernel) ⟨(Nat.le_of_ble_eq_true rfl), (Nat.le_of_ble_eq_true rfl)⟩) ⟨fun a U g mk q => by obtain ⟨q0, q1, qK, qE⟩ := q; exact ⟨q0, q1, va_K.moved (u := U) (U := U.calling g mk a) (Vm.Alike.refl U.vm) qK, EV.blind g mk a qE⟩, fun U hU hW => ⟨rfl, hU, va_K.moved hW.alike hK, hE.call hS hFc hU hW⟩⟩ rfl rfl hl.1 rfl (lv_room (Nat.le_of_ble_eq_true rfl)) dX12_settler_10 ⟨(Nat.le_of_ble_eq_true rfl), (Nat.le_of_ble_eq_true rfl)⟩) hS (fun q _ h => hFc q h) hFc (fun r2 u t H locs ht hvm hw3 hB _ _ hS => ?_)
  obtain ⟨hT, hF1⟩ := hB
  rw [ht] at hT hF1
  have m4 := (hF1.fld hr_o0 skm_0 (k := 0) (by decide) (by decide)).trans m1
  have hF := hF.more hF1 (by decide)
  try dsimp only at hw3
  obtain ⟨h5, hi6, hi7⟩ := hw3
  refine lv_if_eq (tgt := 59) hx hb dX12_settler_13 (by decide) (fun c8 => ?_) (fun c8 => ?_)
  · have t9 : r2.toInt = 0 := ti_eq c8 rfl (by decide)
    have t10 : (0 : Int32).toInt = 0 := by decide
    have t11 : (99 : Int32).toInt = 99 := by decide
    have t12 : p0.toInt < (0 : Int32).toInt ∨ (99 : Int32).toInt < p0.toInt := hi7 c8
    refine lv_iconst (v := 1) hx hb dX12_settler_59 (by decide) ?_
    refine lv_goto (tgt := 64) hx hb dX12_settler_60 (by decide) ?_
    refine lv_iconst (v := 1) hx hb dX12_settler_64 (by decide) ?_
    have hFc := gA_free hG hA hS
    refine va_calli (va_runV (As := [.int 1, .int 1]) (rest := []) ⟨hx, hb, hml, hown, hts⟩ (s_throwsIf l dC dI kA G H q wN wH wB wC wL wK PI o0 1 1 hT hr_o0 (rg_t (a := 1) (by decide) (by omega) (by omega)) (by omega) (by omega) (by omega) (by omega)) (cwV 2 hts (goodIn_app (goodIn_r _ [7, 8, 9, 5] (by decide +kernel) (by decide +kernel)) (goodIn_ca (goodIn_r _ [6, 1] (by decide +kernel) (by decide +kernel)) (bs_in _ _))) rfl rfl rfl (by decide +kernel) ⟨(Nat.le_of_ble_eq_true rfl), (Nat.le_of_ble_eq_true rfl)⟩) ⟨fun a U g mk q => by obtain ⟨q0, q1, qK, qE⟩ := q; exact ⟨q0, q1, va_K.moved (u := U) (U := U.calling g mk a) (Vm.Alike.refl U.vm) qK, EV.blind g mk a qE⟩, gH_recv hK hT hr_o0 shm_0 rfl, fun U hU hW => ⟨rfl, hU, va_K.moved hW.alike hK, hE.call hS hFc hU hW⟩⟩ rfl rfl hl.1 rfl (lv_room (Nat.le_of_ble_eq_true rfl)) dX12_settler_65 ⟨(Nat.le_of_ble_eq_true rfl), (Nat.le_of_ble_eq_true rfl)⟩) hS (fun q _ h => hFc q h) hFc (fun r13 u t H locs ht hvm hw14 hB _ _ hS => ?_)
    obtain ⟨hT, hF1⟩ := hB
    rw [ht] at hT hF1
    have hF := hF.more hF1 (by decide)
    try dsimp only at hw14
    obtain ⟨h16, hd17⟩ := hw14
    obtain rfl : (1 : Int32) = r13 := hd17.symm
    refine lv_if_ne (tgt := 93) hx hb dX12_settler_68 (by decide) (fun c18 => ?_) (fun c18 => absurd c18 (by decide))
    refine lv_iconst (v := 0) hx hb dX12_settler_93 (by decide) ?_
    exact W.iret (v := 0) hx hb hr (fun t ht hW => ⟨⟨0, (), rfl, (by exact (rg_t (a := 0) (by decide) (by omega) (by omega))), by (try dsimp only); rw [ht]; exact ⟨hT, hF⟩⟩, hS.F ht⟩) hS.2.2 dX12_settler_94
  · have t19 : r2.toInt ≠ 0 := ti_ne c8 rfl (by decide)
    have t20 : (0 : Int32).toInt = 0 := by decide
    have t21 : (99 : Int32).toInt = 99 := by decide
    have t22 : (0 : Int32).toInt ≤ p0.toInt ∧ p0.toInt ≤ (99 : Int32).toInt := hi6 ((bit_of ⟨by omega, by omega⟩).resolve_left c8)
    refine lv_iload_n hx hb dX12_settler_16 rfl (lv_at hl 2 rfl) ?_
    refine lv_iconst (v := 0) hx hb dX12_settler_17 (by decide) ?_
    refine lv_bipush (v := 20) hx hb dX12_settler_18 (by decide) ?_
    have hFc := gA_free hG hA hS
    refine va_calli (va_runS (As := [.int p1, .int 0, .int 20]) (rest := [.ref o0]) ⟨hx, hb, hml, hown, hts⟩ (s_in l dC dI kA G H q wN wH wB wC wL wK PI p1 0 20 hT (by omega) (by omega) (by omega) (by omega)) (va_cwS 3 hts (goodIn_app (goodIn_r _ [3, 4, 5] (by decide +kernel) (by decide +kernel)) (goodIn_ca (goodIn_r _ [2] (by decide +kernel) (by decide +kernel)) (bs_in _ _))) rfl rfl rfl (by decide +kernel) ⟨(Nat.le_of_ble_eq_true rfl), (Nat.le_of_ble_eq_true rfl)⟩) ⟨fun a U g mk q => by obtain ⟨q0, q1, qK, qE⟩ := q; exact ⟨q0, q1, va_K.moved (u := U) (U := U.calling g mk a) (Vm.Alike.refl U.vm) qK, EV.blind g mk a qE⟩, fun U hU hW => ⟨rfl, hU, va_K.moved hW.alike hK, hE.call hS hFc hU hW⟩⟩ rfl rfl hl.1 rfl (lv_room (Nat.le_of_ble_eq_true rfl)) dX12_settler_20 ⟨(Nat.le_of_ble_eq_true rfl), (Nat.le_of_ble_eq_true rfl)⟩) hS (fun q _ h => hFc q h) hFc (fun r23 u t H locs ht hvm hw24 hB _ _ hS => ?_)
    obtain ⟨hT, hF1⟩ := hB
    rw [ht] at hT hF1
    have m25 := (hF1.fld hr_o0 skm_0 (k := 0) (by decide) (by decide)).trans m4
    have hF := hF.more hF1 (by decide)
    try dsimp only at hw24
    obtain ⟨h26, hi27, hi28⟩ := hw24
    refine lv_if_eq (tgt := 59) hx hb dX12_settler_23 (by decide) (fun c29 => ?_) (fun c29 => ?_)
    · have t30 : r23.toInt = 0 := ti_eq c29 rfl (by decide)
      have t31 : (0 : Int32).toInt = 0 := by decide
      have t32 : (20 : Int32).toInt = 20 := by decide
      have t33 : p1.toInt < (0 : Int32).toInt ∨ (20 : Int32).toInt < p1.toInt := hi28 c29
      refine lv_iconst (v := 1) hx hb dX12_settler_59 (by decide) ?_
      refine lv_goto (tgt := 64) hx hb dX12_settler_60 (by decide) ?_
      refine lv_iconst (v := 1) hx hb dX12_settler_64 (by decide) ?_
      have hFc := gA_free hG hA hS
      refine va_calli (va_runV (As := [.int 1, .int 1]) (rest := []) ⟨hx, hb, hml, hown, hts⟩ (s_throwsIf l dC dI kA G H q wN wH wB wC wL wK PI o0 1 1 hT hr_o0 (rg_t (a := 1) (by decide) (by omega) (by omega)) (by omega) (by omega) (by omega) (by omega)) (cwV 2 hts (goodIn_app (goodIn_r _ [7, 8, 9, 5] (by decide +kernel) (by decide +kernel)) (goodIn_ca (goodIn_r _ [6, 1] (by decide +kernel) (by decide +kernel)) (bs_in _ _))) rfl rfl rfl (by decide +kernel) ⟨(Nat.le_of_ble_eq_true rfl), (Nat.le_of_ble_eq_true rfl)⟩) ⟨fun a U g mk q => by obtain ⟨q0, q1, qK, qE⟩ := q; exact ⟨q0, q1, va_K.moved (u := U) (U := U.calling g mk a) (Vm.Alike.refl U.vm) qK, EV.blind g mk a qE⟩, gH_recv hK hT hr_o0 shm_0 rfl, fun U hU hW => ⟨rfl, hU, va_K.moved hW.alike hK, hE.call hS hFc hU hW⟩⟩ rfl rfl hl.1 rfl (lv_room (Nat.le_of_ble_eq_true rfl)) dX12_settler_65 ⟨(Nat.le_of_ble_eq_true rfl), (Nat.le_of_ble_eq_true rfl)⟩) hS (fun q _ h => hFc q h) hFc (fun r34 u t H locs ht hvm hw35 hB _ _ hS => ?_)
      obtain ⟨hT, hF1⟩ := hB
      rw [ht] at hT hF1
      have hF := hF.more hF1 (by decide)
      try dsimp only at hw35
      obtain ⟨h37, hd38⟩ := hw35
      obtain rfl : (1 : Int32) = r34 := hd38.symm
      refine lv_if_ne (tgt := 93) hx hb dX12_settler_68 (by decide) (fun c39 => ?_) (fun c39 => absurd c39 (by decide))
      refine lv_iconst (v := 0) hx hb dX12_settler_93 (by decide) ?_
      exact W.iret (v := 0) hx hb hr (fun t ht hW => ⟨⟨0, (), rfl, (by exact (rg_t (a := 0) (by decide) (by omega) (by omega))), by (try dsimp only); rw [ht]; exact ⟨hT, hF⟩⟩, hS.F ht⟩) hS.2.2 dX12_settler_94
    · have t40 : r23.toInt ≠ 0 := ti_ne c29 rfl (by decide)
      have t41 : (0 : Int32).toInt = 0 := by decide
      have t42 : (20 : Int32).toInt = 20 := by decide
      have t43 : (0 : Int32).toInt ≤ p1.toInt ∧ p1.toInt ≤ (20 : Int32).toInt := hi27 ((bit_of ⟨by omega, by omega⟩).resolve_left c29)
      refine lv_iload_n hx hb dX12_settler_26 rfl (lv_at hl 3 rfl) ?_
      refine lv_iconst (v := 0) hx hb dX12_settler_27 (by decide) ?_
      refine lv_ldc (v := 100000) hx hb hown (ht_at hts 9 rfl) dX12_settler_28 ?_
      have hFc := gA_free hG hA hS
      refine va_calli (va_runS (As := [.int p2, .int 0, .int 100000]) (rest := [.ref o0]) ⟨hx, hb, hml, hown, hts⟩ (s_in l dC dI kA G H q wN wH wB wC wL wK PI p2 0 100000 hT (by omega) (by omega) (by omega) (by omega)) (va_cwS 3 hts (goodIn_app (goodIn_r _ [3, 4, 5] (by decide +kernel) (by decide +kernel)) (goodIn_ca (goodIn_r _ [2] (by decide +kernel) (by decide +kernel)) (bs_in _ _))) rfl rfl rfl (by decide +kernel) ⟨(Nat.le_of_ble_eq_true rfl), (Nat.le_of_ble_eq_true rfl)⟩) ⟨fun a U g mk q => by obtain ⟨q0, q1, qK, qE⟩ := q; exact ⟨q0, q1, va_K.moved (u := U) (U := U.calling g mk a) (Vm.Alike.refl U.vm) qK, EV.blind g mk a qE⟩, fun U hU hW => ⟨rfl, hU, va_K.moved hW.alike hK, hE.call hS hFc hU hW⟩⟩ rfl rfl hl.1 rfl (lv_room (Nat.le_of_ble_eq_true rfl)) dX12_settler_30 ⟨(Nat.le_of_ble_eq_true rfl), (Nat.le_of_ble_eq_true rfl)⟩) hS (fun q _ h => hFc q h) hFc (fun r44 u t H locs ht hvm hw45 hB _ _ hS => ?_)
      obtain ⟨hT, hF1⟩ := hB
      rw [ht] at hT hF1
      have m46 := (hF1.fld hr_o0 skm_0 (k := 0) (by decide) (by decide)).trans m25
      have hF := hF.more hF1 (by decide)
      try dsimp only at hw45
      obtain ⟨h47, hi48, hi49⟩ := hw45
      refine lv_if_eq (tgt := 59) hx hb dX12_settler_33 (by decide) (fun c50 => ?_) (fun c50 => ?_)
      · have t51 : r44.toInt = 0 := ti_eq c50 rfl (by decide)
        have t52 : (0 : Int32).toInt = 0 := by decide
        have t53 : (100000 : Int32).toInt = 100000 := by decide
        have t54 : p2.toInt < (0 : Int32).toInt ∨ (100000 : Int32).toInt < p2.toInt := hi49 c50
        refine lv_iconst (v := 1) hx hb dX12_settler_59 (by decide) ?_
        refine lv_goto (tgt := 64) hx hb dX12_settler_60 (by decide) ?_
        refine lv_iconst (v := 1) hx hb dX12_settler_64 (by decide) ?_
        have hFc := gA_free hG hA hS
        refine va_calli (va_runV (As := [.int 1, .int 1]) (rest := []) ⟨hx, hb, hml, hown, hts⟩ (s_throwsIf l dC dI kA G H q wN wH wB wC wL wK PI o0 1 1 hT hr_o0 (rg_t (a := 1) (by decide) (by omega) (by omega)) (by omega) (by omega) (by omega) (by omega)) (cwV 2 hts (goodIn_app (goodIn_r _ [7, 8, 9, 5] (by decide +kernel) (by decide +kernel)) (goodIn_ca (goodIn_r _ [6, 1] (by decide +kernel) (by decide +kernel)) (bs_in _ _))) rfl rfl rfl (by decide +kernel) ⟨(Nat.le_of_ble_eq_true rfl), (Nat.le_of_ble_eq_true rfl)⟩) ⟨fun a U g mk q => by obtain ⟨q0, q1, qK, qE⟩ := q; exact ⟨q0, q1, va_K.moved (u := U) (U := U.calling g mk a) (Vm.Alike.refl U.vm) qK, EV.blind g mk a qE⟩, gH_recv hK hT hr_o0 shm_0 rfl, fun U hU hW => ⟨rfl, hU, va_K.moved hW.alike hK, hE.call hS hFc hU hW⟩⟩ rfl rfl hl.1 rfl (lv_room (Nat.le_of_ble_eq_true rfl)) dX12_settler_65 ⟨(Nat.le_of_ble_eq_true rfl), (Nat.le_of_ble_eq_true rfl)⟩) hS (fun q _ h => hFc q h) hFc (fun r55 u t H locs ht hvm hw56 hB _ _ hS => ?_)
        obtain ⟨hT, hF1⟩ := hB
        rw [ht] at hT hF1
        have hF := hF.more hF1 (by decide)
        try dsimp only at hw56
        obtain ⟨h58, hd59⟩ := hw56
        obtain rfl : (1 : Int32) = r55 := hd59.symm
        refine lv_if_ne (tgt := 93) hx hb dX12_settler_68 (by decide) (fun c60 => ?_) (fun c60 => absurd c60 (by decide))
        refine lv_iconst (v := 0) hx hb dX12_settler_93 (by decide) ?_
        exact W.iret (v := 0) hx hb hr (fun t ht hW => ⟨⟨0, (), rfl, (by exact (rg_t (a := 0) (by decide) (by omega) (by omega))), by (try dsimp only); rw [ht]; exact ⟨hT, hF⟩⟩, hS.F ht⟩) hS.2.2 dX12_settler_94
      · have t61 : r44.toInt ≠ 0 := ti_ne c50 rfl (by decide)
        have t62 : (0 : Int32).toInt = 0 := by decide
        have t63 : (100000 : Int32).toInt = 100000 := by decide
        have t64 : (0 : Int32).toInt ≤ p2.toInt ∧ p2.toInt ≤ (100000 : Int32).toInt := hi48 ((bit_of ⟨by omega, by omega⟩).resolve_left c50)
        refine lv_iload hx hb dX12_settler_36 (lv_at hl 4 rfl) ?_
        refine lv_iconst (v := 0) hx hb dX12_settler_38 (by decide) ?_
        refine lv_bipush (v := 100) hx hb dX12_settler_39 (by decide) ?_
        have hFc := gA_free hG hA hS
        refine va_calli (va_runS (As := [.int p3, .int 0, .int 100]) (rest := [.ref o0]) ⟨hx, hb, hml, hown, hts⟩ (s_in l dC dI kA G H q wN wH wB wC wL wK PI p3 0 100 hT (by omega) (by omega) (by omega) (by omega)) (va_cwS 3 hts (goodIn_app (goodIn_r _ [3, 4, 5] (by decide +kernel) (by decide +kernel)) (goodIn_ca (goodIn_r _ [2] (by decide +kernel) (by decide +kernel)) (bs_in _ _))) rfl rfl rfl (by decide +kernel) ⟨(Nat.le_of_ble_eq_true rfl), (Nat.le_of_ble_eq_true rfl)⟩) ⟨fun a U g mk q => by obtain ⟨q0, q1, qK, qE⟩ := q; exact ⟨q0, q1, va_K.moved (u := U) (U := U.calling g mk a) (Vm.Alike.refl U.vm) qK, EV.blind g mk a qE⟩, fun U hU hW => ⟨rfl, hU, va_K.moved hW.alike hK, hE.call hS hFc hU hW⟩⟩ rfl rfl hl.1 rfl (lv_room (Nat.le_of_ble_eq_true rfl)) dX12_settler_41 ⟨(Nat.le_of_ble_eq_true rfl), (Nat.le_of_ble_eq_true rfl)⟩) hS (fun q _ h => hFc q h) hFc (fun r65 u t H locs ht hvm hw66 hB _ _ hS => ?_)
        obtain ⟨hT, hF1⟩ := hB
        rw [ht] at hT hF1
        have m67 := (hF1.fld hr_o0 skm_0 (k := 0) (by decide) (by decide)).trans m46
        have hF := hF.more hF1 (by decide)
        try dsimp only at hw66
        obtain ⟨h68, hi69, hi70⟩ := hw66
        refine lv_if_eq (tgt := 59) hx hb dX12_settler_44 (by decide) (fun c71 => ?_) (fun c71 => ?_)
        · have t72 : r65.toInt = 0 := ti_eq c71 rfl (by decide)
          have t73 : (0 : Int32).toInt = 0 := by decide
          have t74 : (100 : Int32).toInt = 100 := by decide
          have t75 : p3.toInt < (0 : Int32).toInt ∨ (100 : Int32).toInt < p3.toInt := hi70 c71
          refine lv_iconst (v := 1) hx hb dX12_settler_59 (by decide) ?_
          refine lv_goto (tgt := 64) hx hb dX12_settler_60 (by decide) ?_
          refine lv_iconst (v := 1) hx hb dX12_settler_64 (by decide) ?_
          have hFc := gA_free hG hA hS
          refine va_calli (va_runV (As := [.int 1, .int 1]) (rest := []) ⟨hx, hb, hml, hown, hts⟩ (s_throwsIf l dC dI kA G H q wN wH wB wC wL wK PI o0 1 1 hT hr_o0 (rg_t (a := 1) (by decide) (by omega) (by omega)) (by omega) (by omega) (by omega) (by omega)) (cwV 2 hts (goodIn_app (goodIn_r _ [7, 8, 9, 5] (by decide +kernel) (by decide +kernel)) (goodIn_ca (goodIn_r _ [6, 1] (by decide +kernel) (by decide +kernel)) (bs_in _ _))) rfl rfl rfl (by decide +kernel) ⟨(Nat.le_of_ble_eq_true rfl), (Nat.le_of_ble_eq_true rfl)⟩) ⟨fun a U g mk q => by obtain ⟨q0, q1, qK, qE⟩ := q; exact ⟨q0, q1, va_K.moved (u := U) (U := U.calling g mk a) (Vm.Alike.refl U.vm) qK, EV.blind g mk a qE⟩, gH_recv hK hT hr_o0 shm_0 rfl, fun U hU hW => ⟨rfl, hU, va_K.moved hW.alike hK, hE.call hS hFc hU hW⟩⟩ rfl rfl hl.1 rfl (lv_room (Nat.le_of_ble_eq_true rfl)) dX12_settler_65 ⟨(Nat.le_of_ble_eq_true rfl), (Nat.le_of_ble_eq_true rfl)⟩) hS (fun q _ h => hFc q h) hFc (fun r76 u t H locs ht hvm hw77 hB _ _ hS => ?_)
          obtain ⟨hT, hF1⟩ := hB
          rw [ht] at hT hF1
          have hF := hF.more hF1 (by decide)
          try dsimp only at hw77
          obtain ⟨h79, hd80⟩ := hw77
          obtain rfl : (1 : Int32) = r76 := hd80.symm
          refine lv_if_ne (tgt := 93) hx hb dX12_settler_68 (by decide) (fun c81 => ?_) (fun c81 => absurd c81 (by decide))
          refine lv_iconst (v := 0) hx hb dX12_settler_93 (by decide) ?_
          exact W.iret (v := 0) hx hb hr (fun t ht hW => ⟨⟨0, (), rfl, (by exact (rg_t (a := 0) (by decide) (by omega) (by omega))), by (try dsimp only); rw [ht]; exact ⟨hT, hF⟩⟩, hS.F ht⟩) hS.2.2 dX12_settler_94
        · have t82 : r65.toInt ≠ 0 := ti_ne c71 rfl (by decide)
          have t83 : (0 : Int32).toInt = 0 := by decide
          have t84 : (100 : Int32).toInt = 100 := by decide
          have t85 : (0 : Int32).toInt ≤ p3.toInt ∧ p3.toInt ≤ (100 : Int32).toInt := hi69 ((bit_of ⟨by omega, by omega⟩).resolve_left c71)
          refine lv_iload hx hb dX12_settler_47 (lv_at hl 7 rfl) ?_
          refine lv_iconst (v := 0) hx hb dX12_settler_49 (by decide) ?_
          refine lv_ldcw (v := 999999) hx hb hown (ht_at hts 10 rfl) dX12_settler_50 ?_
          have hFc := gA_free hG hA hS
          refine va_calli (va_runS (As := [.int p6, .int 0, .int 999999]) (rest := [.ref o0]) ⟨hx, hb, hml, hown, hts⟩ (s_in l dC dI kA G H q wN wH wB wC wL wK PI p6 0 999999 hT (by omega) (by omega) (by omega) (by omega)) (va_cwS 3 hts (goodIn_app (goodIn_r _ [3, 4, 5] (by decide +kernel) (by decide +kernel)) (goodIn_ca (goodIn_r _ [2] (by decide +kernel) (by decide +kernel)) (bs_in _ _))) rfl rfl rfl (by decide +kernel) ⟨(Nat.le_of_ble_eq_true rfl), (Nat.le_of_ble_eq_true rfl)⟩) ⟨fun a U g mk q => by obtain ⟨q0, q1, qK, qE⟩ := q; exact ⟨q0, q1, va_K.moved (u := U) (U := U.calling g mk a) (Vm.Alike.refl U.vm) qK, EV.blind g mk a qE⟩, fun U hU hW => ⟨rfl, hU, va_K.moved hW.alike hK, hE.call hS hFc hU hW⟩⟩ rfl rfl hl.1 rfl (lv_room (Nat.le_of_ble_eq_true rfl)) dX12_settler_53 ⟨(Nat.le_of_ble_eq_true rfl), (Nat.le_of_ble_eq_true rfl)⟩) hS (fun q _ h => hFc q h) hFc (fun r86 u t H locs ht hvm hw87 hB _ _ hS => ?_)
          obtain ⟨hT, hF1⟩ := hB
          rw [ht] at hT hF1
          have m88 := (hF1.fld hr_o0 skm_0 (k := 0) (by decide) (by decide)).trans m67
          have hF := hF.more hF1 (by decide)
          try dsimp only at hw87
          obtain ⟨h89, hi90, hi91⟩ := hw87
          refine lv_if_ne (tgt := 63) hx hb dX12_settler_56 (by decide) (fun c92 => ?_) (fun c92 => ?_)
          · have t93 : r86.toInt ≠ 0 := ti_ne c92 rfl (by decide)
            have t94 : (0 : Int32).toInt = 0 := by decide
            have t95 : (999999 : Int32).toInt = 999999 := by decide
            have t96 : (0 : Int32).toInt ≤ p6.toInt ∧ p6.toInt ≤ (999999 : Int32).toInt := hi90 ((bit_of ⟨by omega, by omega⟩).resolve_left c92)
            refine lv_iconst (v := 0) hx hb dX12_settler_63 (by decide) ?_
            refine lv_iconst (v := 1) hx hb dX12_settler_64 (by decide) ?_
            have hFc := gA_free hG hA hS
            refine va_calli (va_runV (As := [.int 0, .int 1]) (rest := []) ⟨hx, hb, hml, hown, hts⟩ (s_throwsIf l dC dI kA G H q wN wH wB wC wL wK PI o0 0 1 hT hr_o0 (rg_t (a := 0) (by decide) (by omega) (by omega)) (by omega) (by omega) (by omega) (by omega)) (cwV 2 hts (goodIn_app (goodIn_r _ [7, 8, 9, 5] (by decide +kernel) (by decide +kernel)) (goodIn_ca (goodIn_r _ [6, 1] (by decide +kernel) (by decide +kernel)) (bs_in _ _))) rfl rfl rfl (by decide +kernel) ⟨(Nat.le_of_ble_eq_true rfl), (Nat.le_of_ble_eq_true rfl)⟩) ⟨fun a U g mk q => by obtain ⟨q0, q1, qK, qE⟩ := q; exact ⟨q0, q1, va_K.moved (u := U) (U := U.calling g mk a) (Vm.Alike.refl U.vm) qK, EV.blind g mk a qE⟩, gH_recv hK hT hr_o0 shm_0 rfl, fun U hU hW => ⟨rfl, hU, va_K.moved hW.alike hK, hE.call hS hFc hU hW⟩⟩ rfl rfl hl.1 rfl (lv_room (Nat.le_of_ble_eq_true rfl)) dX12_settler_65 ⟨(Nat.le_of_ble_eq_true rfl), (Nat.le_of_ble_eq_true rfl)⟩) hS (fun q _ h => hFc q h) hFc (fun r97 u t H locs ht hvm hw98 hB _ _ hS => ?_)
            obtain ⟨hT, hF1⟩ := hB
            rw [ht] at hT hF1
            have hF := hF.more hF1 (by decide)
            try dsimp only at hw98
            obtain ⟨h100, hd101⟩ := hw98
            obtain rfl : (0 : Int32) = r97 := hd101.symm
            refine lv_if_ne (tgt := 93) hx hb dX12_settler_68 (by decide) (fun c102 => absurd c102 (by decide)) (fun c102 => ?_)
            refine lv_aload_n hx hb dX12_settler_71 rfl (lv_at hl 0 rfl) ?_
            refine lv_aload_n hx hb dX12_settler_72 rfl (lv_at hl 0 rfl) ?_
            refine tw_get hx hb hts bF_X12 hown hK hT hr_o0 shm_0 rfl 42 (by decide) (ht_at hts 11 rfl) (fun _ h9 => h9) dX12_settler_73 (fun v9 m103 h9 => ?_)
            obtain ⟨x104, rfl, gx104, kx104⟩ := h9 _ rfl
            refine lv_bipush (v := 60) hx hb dX12_settler_76 (by decide) ?_
            refine lv_icmp_ne (tgt := 85) hx hb dX12_settler_78 (by decide) (fun c105 => ?_) (fun c105 => ?_)
            · have t106 : x104.toInt ≠ 60 := ti_ne c105 rfl (by decide)
              refine lv_iconst (v := 0) hx hb dX12_settler_85 (by decide) ?_
              refine lv_iconst (v := 2) hx hb dX12_settler_86 (by decide) ?_
              have hFc := gA_free hG hA hS
              refine va_calli (va_runV (As := [.int 0, .int 2]) (rest := []) ⟨hx, hb, hml, hown, hts⟩ (s_throwsIf l dC dI kA G H q wN wH wB wC wL wK PI o0 0 2 hT hr_o0 (rg_t (a := 0) (by decide) (by omega) (by omega)) (by omega) (by omega) (by omega) (by omega)) (cwV 2 hts (goodIn_app (goodIn_r _ [7, 8, 9, 5] (by decide +kernel) (by decide +kernel)) (goodIn_ca (goodIn_r _ [6, 1] (by decide +kernel) (by decide +kernel)) (bs_in _ _))) rfl rfl rfl (by decide +kernel) ⟨(Nat.le_of_ble_eq_true rfl), (Nat.le_of_ble_eq_true rfl)⟩) ⟨fun a U g mk q => by obtain ⟨q0, q1, qK, qE⟩ := q; exact ⟨q0, q1, va_K.moved (u := U) (U := U.calling g mk a) (Vm.Alike.refl U.vm) qK, EV.blind g mk a qE⟩, gH_recv hK hT hr_o0 shm_0 rfl, fun U hU hW => ⟨rfl, hU, va_K.moved hW.alike hK, hE.call hS hFc hU hW⟩⟩ rfl rfl hl.1 rfl (lv_room (Nat.le_of_ble_eq_true rfl)) dX12_settler_87 ⟨(Nat.le_of_ble_eq_true rfl), (Nat.le_of_ble_eq_true rfl)⟩) hS (fun q _ h => hFc q h) hFc (fun r107 u t H locs ht hvm hw108 hB _ _ hS => ?_)
              obtain ⟨hT, hF1⟩ := hB
              rw [ht] at hT hF1
              have m109 := (hF1.fld hr_o0 skm_0 (k := 42) (by decide) (by decide)).trans m103
              have hF := hF.more hF1 (by decide)
              try dsimp only at hw108
              obtain ⟨h110, hd111⟩ := hw108
              obtain rfl : (0 : Int32) = r107 := hd111.symm
              refine lv_if_eq (tgt := 95) hx hb dX12_settler_90 (by decide) (fun c112 => ?_) (fun c112 => absurd c112 (by decide))
              refine lv_aload_n hx hb dX12_settler_95 rfl (lv_at hl 0 rfl) ?_
              refine tw_getM (v := .int x104) hx hb hts bF_X12 hown hK hT hr_o0 shm_0 rfl 42 (by decide) (ht_at hts 11 rfl) (fun _ h9 => h9) m109 dX12_settler_96 ?_
              refine lv_istore (lv' := [(8, .int x104), (0, .ref o0), (1, .int p0), (2, .int p1), (3, .int p2), (4, .int p3), (5, .int p4), (6, .int p5), (7, .int p6)]) hx hb dX12_settler_99 hl (by decide) rfl (fun ls hl => ?_)
              refine lv_aload_n hx hb dX12_settler_101 rfl (lv_at hl 1 rfl) ?_
              refine lv_dup hx hb dX12_settler_102 rfl ?_
              refine tw_getM (v := .int x104) hx hb hts bF_X12 hown hK hT hr_o0 shm_0 rfl 42 (by decide) (ht_at hts 11 rfl) (fun _ h9 => h9) m109 dX12_settler_103 ?_
              refine lv_iconst (v := 1) hx hb dX12_settler_106 (by decide) ?_
              refine lv_iadd hx hb dX12_settler_107 ?_
              refine lv_topi (fun x113 ex113 => ?_)
              have t114 : x113.toInt = x104.toInt + 1 := ti_add ex113 rfl (by decide) (by omega) (by omega)
              refine tw_put (v := .int x113) (ty := .int) hx hb hts bF_X12 tyX12 tyX12_ok nmX12 hown hK hT hG hS hr_o0 shm_0 rfl 42 (by decide) (ht_at hts 11 rfl) (fun _ h9 => h9) rfl (by decide +kernel) rfl rfl (gl_at rfl (gi_of (show x113.toInt = x113.toInt from rfl) (by omega) (by omega))) dX12_settler_108 (fun H locs hT oq m115 oj hS => ?_)
              have hF := hF.put hr_o0 skm_0 oq oj (by decide)
              refine lv_aload_n hx hb dX12_settler_111 rfl (lv_at hl 1 rfl) ?_
              refine tw_get hx hb hts bF_X12 hown hK hT hr_o0 shm_0 rfl 31 (by decide) (ht_at hts 12 rfl) (fun _ h9 => h9) dX12_settler_112 (fun v9 m116 h9 => ?_)
              obtain ⟨rfl, hg117⟩ := h9 _ rfl
              refine lv_iload hx hb dX12_settler_115 (lv_at hl 0 rfl) ?_
              refine lv_iload_n hx hb dX12_settler_117 rfl (lv_at hl 2 rfl) ?_
              refine tw_iast (i := x104) (x := p0) hx hb hK hT hG hS hg117 shm_32 rfl (vin_t (a := x104.toInt) rfl (by omega) (by omega)) (gi_all _) dX12_settler_118 (fun H locs hT oq m118 oi hS => ?_)
              have hF := hF.ast hg117 skm_32 oq (by decide)
              have m119 := (el_kept (oq _ (gne hr_o0 hg117 (by decide)))).trans m115
              refine lv_aload_n hx hb dX12_settler_119 rfl (lv_at hl 1 rfl) ?_
              refine tw_get hx hb hts bF_X12 hown hK hT hr_o0 shm_0 rfl 32 (by decide) (ht_at hts 13 rfl) (fun _ h9 => h9) dX12_settler_120 (fun v9 m120 h9 => ?_)
              obtain ⟨rfl, hg121⟩ := h9 _ rfl
              refine lv_iload hx hb dX12_settler_123 (lv_at hl 0 rfl) ?_
              refine lv_iload_n hx hb dX12_settler_125 rfl (lv_at hl 3 rfl) ?_
              refine tw_iast (i := x104) (x := p1) hx hb hK hT hG hS hg121 shm_33 rfl (vin_t (a := x104.toInt) rfl (by omega) (by omega)) (gi_all _) dX12_settler_126 (fun H locs hT oq m122 oi hS => ?_)
              have hF := hF.ast hg121 skm_33 oq (by decide)
              have m123 := (el_kept (oq _ (gne hr_o0 hg121 (by decide)))).trans m119
              have m124 := (el_kept (oq _ (gne hg117 hg121 (by decide)))).trans m118
              refine lv_aload_n hx hb dX12_settler_127 rfl (lv_at hl 1 rfl) ?_
              refine tw_get hx hb hts bF_X12 hown hK hT hr_o0 shm_0 rfl 33 (by decide) (ht_at hts 14 rfl) (fun _ h9 => h9) dX12_settler_128 (fun v9 m125 h9 => ?_)
              obtain ⟨rfl, hg126⟩ := h9 _ rfl
              refine lv_iload hx hb dX12_settler_131 (lv_at hl 0 rfl) ?_
              refine lv_iload_n hx hb dX12_settler_133 rfl (lv_at hl 4 rfl) ?_
              refine tw_iast (i := x104) (x := p2) hx hb hK hT hG hS hg126 shm_34 rfl (vin_t (a := x104.toInt) rfl (by omega) (by omega)) (gi_all _) dX12_settler_134 (fun H locs hT oq m127 oi hS => ?_)
              have hF := hF.ast hg126 skm_34 oq (by decide)
              have m128 := (el_kept (oq _ (gne hr_o0 hg126 (by decide)))).trans m123
              have m129 := (el_kept (oq _ (gne hg117 hg126 (by decide)))).trans m124
              have m130 := (el_kept (oq _ (gne hg121 hg126 (by decide)))).trans m122
              refine lv_aload_n hx hb dX12_settler_135 rfl (lv_at hl 1 rfl) ?_
              refine tw_get hx hb hts bF_X12 hown hK hT hr_o0 shm_0 rfl 34 (by decide) (ht_at hts 15 rfl) (fun _ h9 => h9) dX12_settler_136 (fun v9 m131 h9 => ?_)
              obtain ⟨rfl, hg132⟩ := h9 _ rfl
              refine lv_iload hx hb dX12_settler_139 (lv_at hl 0 rfl) ?_
              refine lv_iload hx hb dX12_settler_141 (lv_at hl 5 rfl) ?_
              refine tw_iast (i := x104) (x := p3) hx hb hK hT hG hS hg132 shm_35 rfl (vin_t (a := x104.toInt) rfl (by omega) (by omega)) (gi_all _) dX12_settler_143 (fun H locs hT oq m133 oi hS => ?_)
              have hF := hF.ast hg132 skm_35 oq (by decide)
              have m134 := (el_kept (oq _ (gne hr_o0 hg132 (by decide)))).trans m128
              have m135 := (el_kept (oq _ (gne hg117 hg132 (by decide)))).trans m129
              have m136 := (el_kept (oq _ (gne hg121 hg132 (by decide)))).trans m130
              have m137 := (el_kept (oq _ (gne hg126 hg132 (by decide)))).trans m127
              refine lv_aload_n hx hb dX12_settler_144 rfl (lv_at hl 1 rfl) ?_
              refine tw_get hx hb hts bF_X12 hown hK hT hr_o0 shm_0 rfl 35 (by decide) (ht_at hts 16 rfl) (fun _ h9 => h9) dX12_settler_145 (fun v9 m138 h9 => ?_)
              obtain ⟨rfl, hg139⟩ := h9 _ rfl
              refine lv_iload hx hb dX12_settler_148 (lv_at hl 0 rfl) ?_
              refine lv_iload hx hb dX12_settler_150 (lv_at hl 6 rfl) ?_
              refine tw_zast (i := x104) (x := p4) hx hb hK hT hG hS hg139 shm_36 rfl (vin_t (a := x104.toInt) rfl (by omega) (by omega)) (gi_z (rg_t (a := p4.toInt) rfl (by have q8 := ti_all p4; omega) (by have q8 := ti_all p4; omega)) (by decide) (by decide)) dX12_settler_152 (fun H locs hT oq m140 oi hS => ?_)
              have hF := hF.ast hg139 skm_36 oq (by decide)
              have m141 := (el_kept (oq _ (gne hr_o0 hg139 (by decide)))).trans m134
              have m142 := (el_kept (oq _ (gne hg117 hg139 (by decide)))).trans m135
              have m143 := (el_kept (oq _ (gne hg121 hg139 (by decide)))).trans m136
              have m144 := (el_kept (oq _ (gne hg126 hg139 (by decide)))).trans m137
              have m145 := (el_kept (oq _ (gne hg132 hg139 (by decide)))).trans m133
              refine lv_aload_n hx hb dX12_settler_153 rfl (lv_at hl 1 rfl) ?_
              refine tw_get hx hb hts bF_X12 hown hK hT hr_o0 shm_0 rfl 36 (by decide) (ht_at hts 17 rfl) (fun _ h9 => h9) dX12_settler_154 (fun v9 m146 h9 => ?_)
              obtain ⟨rfl, hg147⟩ := h9 _ rfl
              refine lv_iload hx hb dX12_settler_157 (lv_at hl 0 rfl) ?_
              refine lv_iload hx hb dX12_settler_159 (lv_at hl 7 rfl) ?_
              refine tw_zast (i := x104) (x := p5) hx hb hK hT hG hS hg147 shm_37 rfl (vin_t (a := x104.toInt) rfl (by omega) (by omega)) (gi_z (rg_t (a := p5.toInt) rfl (by have q8 := ti_all p5; omega) (by have q8 := ti_all p5; omega)) (by decide) (by decide)) dX12_settler_161 (fun H locs hT oq m148 oi hS => ?_)
              have hF := hF.ast hg147 skm_37 oq (by decide)
              have m149 := (el_kept (oq _ (gne hr_o0 hg147 (by decide)))).trans m141
              have m150 := (el_kept (oq _ (gne hg117 hg147 (by decide)))).trans m142
              have m151 := (el_kept (oq _ (gne hg121 hg147 (by decide)))).trans m143
              have m152 := (el_kept (oq _ (gne hg126 hg147 (by decide)))).trans m144
              have m153 := (el_kept (oq _ (gne hg132 hg147 (by decide)))).trans m145
              refine lv_aload_n hx hb dX12_settler_162 rfl (lv_at hl 1 rfl) ?_
              refine tw_get hx hb hts bF_X12 hown hK hT hr_o0 shm_0 rfl 37 (by decide) (ht_at hts 18 rfl) (fun _ h9 => h9) dX12_settler_163 (fun v9 m154 h9 => ?_)
              obtain ⟨rfl, hg155⟩ := h9 _ rfl
              refine lv_iload hx hb dX12_settler_166 (lv_at hl 0 rfl) ?_
              refine lv_iload hx hb dX12_settler_168 (lv_at hl 8 rfl) ?_
              refine tw_iast (i := x104) (x := p6) hx hb hK hT hG hS hg155 shm_38 rfl (vin_t (a := x104.toInt) rfl (by omega) (by omega)) (gi_all _) dX12_settler_170 (fun H locs hT oq m156 oi hS => ?_)
              have hF := hF.ast hg155 skm_38 oq (by decide)
              have m157 := (el_kept (oq _ (gne hr_o0 hg155 (by decide)))).trans m149
              have m158 := (el_kept (oq _ (gne hg117 hg155 (by decide)))).trans m150
              have m159 := (el_kept (oq _ (gne hg121 hg155 (by decide)))).trans m151
              have m160 := (el_kept (oq _ (gne hg126 hg155 (by decide)))).trans m152
              have m161 := (el_kept (oq _ (gne hg132 hg155 (by decide)))).trans m153
              refine lv_aload_n hx hb dX12_settler_171 rfl (lv_at hl 1 rfl) ?_
              refine tw_get hx hb hts bF_X12 hown hK hT hr_o0 shm_0 rfl 38 (by decide) (ht_at hts 19 rfl) (fun _ h9 => h9) dX12_settler_172 (fun v9 m162 h9 => ?_)
              obtain ⟨rfl, hg163⟩ := h9 _ rfl
              refine lv_iload hx hb dX12_settler_175 (lv_at hl 0 rfl) ?_
              refine lv_iconst (v := (-1)) hx hb dX12_settler_177 (by decide) ?_
              refine tw_iast (i := x104) (x := (-1)) hx hb hK hT hG hS hg163 shm_39 rfl (vin_t (a := x104.toInt) rfl (by omega) (by omega)) (gi_of (show (-1 : Int32).toInt = (-1) from (by decide)) (by omega) (by omega)) dX12_settler_178 (fun H locs hT oq m164 oi hS => ?_)
              have hF := hF.ast hg163 skm_39 oq (by decide)
              have m165 := (el_kept (oq _ (gne hr_o0 hg163 (by decide)))).trans m157
              have m166 := (el_kept (oq _ (gne hg117 hg163 (by decide)))).trans m158
              have m167 := (el_kept (oq _ (gne hg121 hg163 (by decide)))).trans m159
              have m168 := (el_kept (oq _ (gne hg126 hg163 (by decide)))).trans m160
              have m169 := (el_kept (oq _ (gne hg132 hg163 (by decide)))).trans m161
              have m170 := (el_kept (oq _ (gne hg155 hg163 (by decide)))).trans m156
              refine lv_iload hx hb dX12_settler_179 (lv_at hl 0 rfl) ?_
              exact W.iret (v := x104) hx hb hr (fun t ht hW => ⟨⟨x104, (), rfl, (by exact (rg_t (a := x104.toInt) rfl (by have q8 := ti_all x104; omega) (by have q8 := ti_all x104; omega))), by (try dsimp only); rw [ht]; exact ⟨hT, hF⟩⟩, hS.F ht⟩) hS.2.2 dX12_settler_181
            · have t171 : x104.toInt = 60 := ti_eq c105 rfl (by decide)
              refine lv_iconst (v := 1) hx hb dX12_settler_81 (by decide) ?_
              refine lv_goto (tgt := 86) hx hb dX12_settler_82 (by decide) ?_
              refine lv_iconst (v := 2) hx hb dX12_settler_86 (by decide) ?_
              have hFc := gA_free hG hA hS
              refine va_calli (va_runV (As := [.int 1, .int 2]) (rest := []) ⟨hx, hb, hml, hown, hts⟩ (s_throwsIf l dC dI kA G H q wN wH wB wC wL wK PI o0 1 2 hT hr_o0 (rg_t (a := 1) (by decide) (by omega) (by omega)) (by omega) (by omega) (by omega) (by omega)) (cwV 2 hts (goodIn_app (goodIn_r _ [7, 8, 9, 5] (by decide +kernel) (by decide +kernel)) (goodIn_ca (goodIn_r _ [6, 1] (by decide +kernel) (by decide +kernel)) (bs_in _ _))) rfl rfl rfl (by decide +kernel) ⟨(Nat.le_of_ble_eq_true rfl), (Nat.le_of_ble_eq_true rfl)⟩) ⟨fun a U g mk q => by obtain ⟨q0, q1, qK, qE⟩ := q; exact ⟨q0, q1, va_K.moved (u := U) (U := U.calling g mk a) (Vm.Alike.refl U.vm) qK, EV.blind g mk a qE⟩, gH_recv hK hT hr_o0 shm_0 rfl, fun U hU hW => ⟨rfl, hU, va_K.moved hW.alike hK, hE.call hS hFc hU hW⟩⟩ rfl rfl hl.1 rfl (lv_room (Nat.le_of_ble_eq_true rfl)) dX12_settler_87 ⟨(Nat.le_of_ble_eq_true rfl), (Nat.le_of_ble_eq_true rfl)⟩) hS (fun q _ h => hFc q h) hFc (fun r172 u t H locs ht hvm hw173 hB _ _ hS => ?_)
              obtain ⟨hT, hF1⟩ := hB
              rw [ht] at hT hF1
              have m174 := (hF1.fld hr_o0 skm_0 (k := 42) (by decide) (by decide)).trans m103
              have hF := hF.more hF1 (by decide)
              try dsimp only at hw173
              obtain ⟨h175, hd176⟩ := hw173
              obtain rfl : (1 : Int32) = r172 := hd176.symm
              refine lv_if_eq (tgt := 95) hx hb dX12_settler_90 (by decide) (fun c177 => absurd c177 (by decide)) (fun c177 => ?_)
              refine lv_iconst (v := 0) hx hb dX12_settler_93 (by decide) ?_
              exact W.iret (v := 0) hx hb hr (fun t ht hW => ⟨⟨0, (), rfl, (by exact (rg_t (a := 0) (by decide) (by omega) (by omega))), by (try dsimp only); rw [ht]; exact ⟨hT, hF⟩⟩, hS.F ht⟩) hS.2.2 dX12_settler_94
          · have t178 : r86.toInt = 0 := ti_eq c92 rfl (by decide)
            have t179 : (0 : Int32).toInt = 0 := by decide
            have t180 : (999999 : Int32).toInt = 999999 := by decide
            have t181 : p6.toInt < (0 : Int32).toInt ∨ (999999 : Int32).toInt < p6.toInt := hi91 c92
            refine lv_iconst (v := 1) hx hb dX12_settler_59 (by decide) ?_
            refine lv_goto (tgt := 64) hx hb dX12_settler_60 (by decide) ?_
            refine lv_iconst (v := 1) hx hb dX12_settler_64 (by decide) ?_
            have hFc := gA_free hG hA hS
            refine va_calli (va_runV (As := [.int 1, .int 1]) (rest := []) ⟨hx, hb, hml, hown, hts⟩ (s_throwsIf l dC dI kA G H q wN wH wB wC wL wK PI o0 1 1 hT hr_o0 (rg_t (a := 1) (by decide) (by omega) (by omega)) (by omega) (by omega) (by omega) (by omega)) (cwV 2 hts (goodIn_app (goodIn_r _ [7, 8, 9, 5] (by decide +kernel) (by decide +kernel)) (goodIn_ca (goodIn_r _ [6, 1] (by decide +kernel) (by decide +kernel)) (bs_in _ _))) rfl rfl rfl (by decide +kernel) ⟨(Nat.le_of_ble_eq_true rfl), (Nat.le_of_ble_eq_true rfl)⟩) ⟨fun a U g mk q => by obtain ⟨q0, q1, qK, qE⟩ := q; exact ⟨q0, q1, va_K.moved (u := U) (U := U.calling g mk a) (Vm.Alike.refl U.vm) qK, EV.blind g mk a qE⟩, gH_recv hK hT hr_o0 shm_0 rfl, fun U hU hW => ⟨rfl, hU, va_K.moved hW.alike hK, hE.call hS hFc hU hW⟩⟩ rfl rfl hl.1 rfl (lv_room (Nat.le_of_ble_eq_true rfl)) dX12_settler_65 ⟨(Nat.le_of_ble_eq_true rfl), (Nat.le_of_ble_eq_true rfl)⟩) hS (fun q _ h => hFc q h) hFc (fun r182 u t H locs ht hvm hw183 hB _ _ hS => ?_)
            obtain ⟨hT, hF1⟩ := hB
            rw [ht] at hT hF1
            have hF := hF.more hF1 (by decide)
            try dsimp only at hw183
            obtain ⟨h185, hd186⟩ := hw183
            obtain rfl : (1 : Int32) = r182 := hd186.symm
            refine lv_if_ne (tgt := 93) hx hb dX12_settler_68 (by decide) (fun c187 => ?_) (fun c187 => absurd c187 (by decide))
            refine lv_iconst (v := 0) hx hb dX12_settler_93 (by decide) ?_
            exact W.iret (v := 0) hx hb hr (fun t ht hW => ⟨⟨0, (), rfl, (by exact (rg_t (a := 0) (by decide) (by omega) (by omega))), by (try dsimp only); rw [ht]; exact ⟨hT, hF⟩⟩, hS.F ht⟩) hS.2.2 dX12_settler_94
def w_s_come : List Cond := .code yX12_come cX12_come 2 (some .boolean) :: ([.fieldLink RX12 194 "SeaLandModel" "thrown" "I", .code yX12_nobody cX12_nobody 2 (some .boolean), .fieldLink RX12 495 "SeaLandModel" "settlers" "I", .code yX12_in cX12_in 3 (some .boolean), .methodLink RX12 197 yX12_in, .static yX12_in, .initialized RX12, .methodLink RX12 486 yX12_nobody, .instanceMethod yX12_nobody, .selects RX12 yX12_nobody yX12_nobody, .code yX12_throwsIf cX12_throwsIf 3 (some .boolean), .methodLink RX12 224 yX12_throwsIf, .instanceMethod yX12_throwsIf, .selects RX12 yX12_throwsIf yX12_throwsIf, .fieldLink RX12 101 "SeaLandModel" "holds" "[I", .fieldLink RX12 110 "SeaLandModel" "came" "[Z"] ++ bs)
set_option maxHeartbeats 4000000 in
set_option maxRecDepth 100000 in
theorem s_come (l : Launch) (dC : Nat → ClassId) (dI : Nat → Nat → Nat) (kA : Nat → ClassId) (G : gT) (H0 : Heap) (q : Nat → Nat) (wN wH wB wC : Int) (wL wK : Nat → Prop) (PI : Nat → Int → Prop) (o0 : Nat) (p0 : Int32) (hT : gH (dC, dI) kA (SHm q (wP wN wH wB wC wC wL wK) PI) G H0) (hr_o0 : G o0 = some 0) (hgn : 6500000 ≤ wN ∧ wN ≤ 400000000) (hgh : 0 ≤ wH ∧ wH ≤ 40000) (hgb : 0 ≤ wB ∧ wB ≤ 3850000) (hgc : 0 ≤ wC ∧ wC ≤ 30) : Met l yX12_come w_s_come ({ frames := 2, cells := 0, slots := 0, locals := 43 }) (va_Pc [.ref o0, .int p0] (fun U => U.heap = H0 ∧ va_K (dC, dI) vwCl (tyl kA) U ∧ EV (gA G H0.size) U U.heap)) (va_Qi (fun (r : Int32) (u : Unit) => (0 ≤ r.toInt ∧ r.toInt ≤ 1)) (fun (_ : Unit) (t : State) => gH (dC, dI) kA (SHm q (wP wN wH wB wC wC wL wK) PI) G t.heap ∧ gF (dC, dI) SKm G ([(0, 0), (42, 0)] : List (Nat × Nat)) H0 t.heap) (gA G H0.size)) 0 0 (gA G H0.size) := by
  refine Met.ofW (cc := cX12_come) (maxL := 2) (ret := (some .boolean)) (by decide) rfl ?_
  intro p e s m args below meth c s₁ B hml hv
  obtain ⟨rfl, hH0, hK, hE⟩ := hv
  have hx := B.exec
  have hb := B.bytes
  have hr := B.returns
  have hts := atoms_spec (ws := w_s_come) B.pre
  have hown : s.vm.findClass RX12 = some m.cls := findClass_of_methodNamed B.named
  have hlocks := B.notSynchronized
  subst hH0
  generalize hAe : gA G s.heap.size = A at hE ⊢
  have hA : ∀ q : Nat, s.heap.size ≤ q → A q := fun q h => by rw [← hAe]; exact Or.inr h
  have hG := gA_of hAe
  have hS : va_S A s.heap s.heap [] := va_S.rf
  have hF : gF (dC, dI) SKm G ([(0, 0), (42, 0)] : List (Nat × Nat)) s.heap s.heap := gF.rf
  have hl := lv_entry ([.ref o0, .int p0]) (n := 2) (Nat.le_of_ble_eq_true rfl)
  rw [lg_entry_eq]
  generalize (lg_sl ([.ref o0, .int p0]) ++ List.replicate (2 - (lg_sl ([.ref o0, .int p0])).length) Slot.unset).toArray = ls at hl ⊢
  have hl : lv_has ls 2 [(0, .ref o0), (1, .int p0)] := hl
  refine lv_aload_n hx hb dX12_come_0 rfl (lv_at hl 0 rfl) ?_
  refine lv_iconst (v := 0) hx hb dX12_come_1 (by decide) ?_
  refine tw_put (v := .int 0) (ty := .int) hx hb hts bF_X12 tyX12 tyX12_ok nmX12 hown hK hT hG hS hr_o0 shm_0 rfl 0 (by decide) (ht_at hts 0 rfl) (fun _ h9 => h9) rfl (by decide +kernel) rfl rfl (gl_at rfl (gi_all _)) dX12_come_2 (fun H locs hT oq m1 oj hS => ?_)
  have hF := hF.put hr_o0 skm_0 oq oj (by decide)
  refine lv_aload_n hx hb dX12_come_5 rfl (lv_at hl 0 rfl) ?_
  refine lv_aload_n hx hb dX12_come_6 rfl (lv_at hl 0 rfl) ?_
  refine lv_iload_n hx hb dX12_come_7 rfl (lv_at hl 1 rfl) ?_
  have hFc := gA_free hG hA hS
  refine va_calli (va_runV (As := [.int p0]) (rest := [.ref o0]) ⟨hx, hb, hml, hown, hts⟩ (s_nobody l dC dI kA G H q wN wH wB wC wL wK PI o0 p0 hT hr_o0 (by omega) (by omega) (by omega) (by omega)) (cwV 1 hts (goodIn_app (goodIn_r _ [8, 9, 10, 7] (by decide +kernel) (by decide +kernel)) (goodIn_ca (goodIn_r _ [2, 3, 4, 5, 6, 7] (by decide +kernel) (by decide +kernel)) (bs_in _ _))) rfl rfl rfl (by decide +kernel) ⟨(Nat.le_of_ble_eq_true rfl), (Nat.le_of_ble_eq_true rfl)⟩) ⟨fun a U g mk q => by obtain ⟨q0, q1, qK, qE⟩ := q; exact ⟨q0, q1, va_K.moved (u := U) (U := U.calling g mk a) (Vm.Alike.refl U.vm) qK, EV.blind g mk a qE⟩, gH_recv hK hT hr_o0 shm_0 rfl, fun U hU hW => ⟨rfl, hU, va_K.moved hW.alike hK, hE.call hS hFc hU hW⟩⟩ rfl rfl hl.1 rfl (lv_room (Nat.le_of_ble_eq_true rfl)) dX12_come_8 ⟨(Nat.le_of_ble_eq_true rfl), (Nat.le_of_ble_eq_true rfl)⟩) hS (fun q _ h => hFc q h) hFc (fun r2 u t H locs ht hvm hw3 hB _ _ hS => ?_)
  obtain ⟨hT, hF1⟩ := hB
  rw [ht] at hT hF1
  have m4 := (hF1.fld hr_o0 skm_0 (k := 0) (by decide) (by decide)).trans m1
  have hF := hF.more hF1 (by decide)
  try dsimp only at hw3
  obtain ⟨h5, hi6⟩ := hw3
  refine lv_iconst (v := 1) hx hb dX12_come_11 (by decide) ?_
  have hFc := gA_free hG hA hS
  refine va_calli (va_runV (As := [.int r2, .int 1]) (rest := []) ⟨hx, hb, hml, hown, hts⟩ (s_throwsIf l dC dI kA G H q wN wH wB wC wL wK PI o0 r2 1 hT hr_o0 (rg_t (a := r2.toInt) rfl (by have q8 := ti_all r2; omega) (by have q8 := ti_all r2; omega)) (by omega) (by omega) (by omega) (by omega)) (cwV 2 hts (goodIn_app (goodIn_r _ [12, 13, 14, 7] (by decide +kernel) (by decide +kernel)) (goodIn_ca (goodIn_r _ [11, 1] (by decide +kernel) (by decide +kernel)) (bs_in _ _))) rfl rfl rfl (by decide +kernel) ⟨(Nat.le_of_ble_eq_true rfl), (Nat.le_of_ble_eq_true rfl)⟩) ⟨fun a U g mk q => by obtain ⟨q0, q1, qK, qE⟩ := q; exact ⟨q0, q1, va_K.moved (u := U) (U := U.calling g mk a) (Vm.Alike.refl U.vm) qK, EV.blind g mk a qE⟩, gH_recv hK hT hr_o0 shm_0 rfl, fun U hU hW => ⟨rfl, hU, va_K.moved hW.alike hK, hE.call hS hFc hU hW⟩⟩ rfl rfl hl.1 rfl (lv_room (Nat.le_of_ble_eq_true rfl)) dX12_come_12 ⟨(Nat.le_of_ble_eq_true rfl), (Nat.le_of_ble_eq_true rfl)⟩) hS (fun q _ h => hFc q h) hFc (fun r7 u t H locs ht hvm hw8 hB _ _ hS => ?_)
  obtain ⟨hT, hF1⟩ := hB
  rw [ht] at hT hF1
  have hF := hF.more hF1 (by decide)
  try dsimp only at hw8
  obtain ⟨h10, hd11⟩ := hw8
  obtain rfl : r2 = r7 := hd11.symm
  refine lv_if_ne (tgt := 36) hx hb dX12_come_15 (by decide) (fun c12 => ?_) (fun c12 => ?_)
  · have t13 : r2.toInt ≠ 0 := ti_ne c12 rfl (by decide)
    refine lv_iconst (v := 0) hx hb dX12_come_36 (by decide) ?_
    exact W.zret (v := 0) hx hb hr (by decide) (fun t ht hW => ⟨⟨0, (), rfl, (by exact (rg_t (a := 0) (by decide) (by omega) (by omega))), by (try dsimp only); rw [ht]; exact ⟨hT, hF⟩⟩, hS.F ht⟩) hS.2.2 dX12_come_37
  · have t14 : r2.toInt = 0 := ti_eq c12 rfl (by decide)
    have t15 : 0 ≤ p0.toInt ∧ p0.toInt ≤ 59 := hi6 c12
    refine lv_aload_n hx hb dX12_come_18 rfl (lv_at hl 0 rfl) ?_
    refine tw_get hx hb hts bF_X12 hown hK hT hr_o0 shm_0 rfl 38 (by decide) (ht_at hts 14 rfl) (fun _ h9 => h9) dX12_come_19 (fun v9 m16 h9 => ?_)
    obtain ⟨rfl, hg17⟩ := h9 _ rfl
    refine lv_iload_n hx hb dX12_come_22 rfl (lv_at hl 1 rfl) ?_
    refine tw_iald (i := p0) hx hb hK hT hg17 shm_39 rfl (vin_t (a := p0.toInt) rfl (by omega) (by omega)) dX12_come_23 (fun v9 m18 h9 => ?_)
    obtain ⟨x19, rfl, gx19, kx19⟩ := h9
    refine lv_if_lt (tgt := 36) hx hb dX12_come_24 (by decide) (fun c20 => ?_) (fun c20 => ?_)
    · have t21 : x19.toInt < 0 := ti_lt c20 rfl (by decide)
      refine lv_iconst (v := 0) hx hb dX12_come_36 (by decide) ?_
      exact W.zret (v := 0) hx hb hr (by decide) (fun t ht hW => ⟨⟨0, (), rfl, (by exact (rg_t (a := 0) (by decide) (by omega) (by omega))), by (try dsimp only); rw [ht]; exact ⟨hT, hF⟩⟩, hS.F ht⟩) hS.2.2 dX12_come_37
    · have t22 : 0 ≤ x19.toInt := ti_nlt c20 rfl (by decide)
      refine lv_aload_n hx hb dX12_come_27 rfl (lv_at hl 0 rfl) ?_
      refine tw_get hx hb hts bF_X12 hown hK hT hr_o0 shm_0 rfl 41 (by decide) (ht_at hts 15 rfl) (fun _ h9 => h9) dX12_come_28 (fun v9 m23 h9 => ?_)
      obtain ⟨rfl, hg24⟩ := h9 _ rfl
      refine lv_iload_n hx hb dX12_come_31 rfl (lv_at hl 1 rfl) ?_
      refine tw_zald (i := p0) hx hb hK hT hg24 shm_42 rfl (vin_t (a := p0.toInt) rfl (by omega) (by omega)) dX12_come_32 (fun v9 m25 h9 => ?_)
      obtain ⟨x26, rfl, gx26, kx26⟩ := h9
      refine lv_if_eq (tgt := 38) hx hb dX12_come_33 (by decide) (fun c27 => ?_) (fun c27 => ?_)
      · have t28 : x26.toInt = 0 := ti_eq c27 rfl (by decide)
        refine lv_aload_n hx hb dX12_come_38 rfl (lv_at hl 0 rfl) ?_
        refine tw_get hx hb hts bF_X12 hown hK hT hr_o0 shm_0 rfl 41 (by decide) (ht_at hts 15 rfl) (fun _ h9 => h9) dX12_come_39 (fun v9 m29 h9 => ?_)
        obtain ⟨rfl, hg30⟩ := h9 _ rfl
        refine lv_iload_n hx hb dX12_come_42 rfl (lv_at hl 1 rfl) ?_
        refine lv_iconst (v := 1) hx hb dX12_come_43 (by decide) ?_
        refine tw_zast (i := p0) (x := 1) hx hb hK hT hG hS hg24 shm_42 rfl (vin_t (a := p0.toInt) rfl (by omega) (by omega)) (gi_z (rg_t (a := 1) (by decide) (by omega) (by omega)) (by decide) (by decide)) dX12_come_44 (fun H locs hT oq m31 oi hS => ?_)
        have hF := hF.ast hg24 skm_42 oq (by decide)
        have m32 := (el_kept (oq _ (gne hg17 hg24 (by decide)))).trans m18
        refine lv_iconst (v := 1) hx hb dX12_come_45 (by decide) ?_
        exact W.zret (v := 1) hx hb hr (by decide) (fun t ht hW => ⟨⟨1, (), rfl, (by exact (rg_t (a := 1) (by decide) (by omega) (by omega))), by (try dsimp only); rw [ht]; exact ⟨hT, hF⟩⟩, hS.F ht⟩) hS.2.2 dX12_come_46
      · have t33 : x26.toInt ≠ 0 := ti_ne c27 rfl (by decide)
        refine lv_iconst (v := 0) hx hb dX12_come_36 (by decide) ?_
        exact W.zret (v := 0) hx hb hr (by decide) (fun t ht hW => ⟨⟨0, (), rfl, (by exact (rg_t (a := 0) (by decide) (by omega) (by omega))), by (try dsimp only); rw [ht]; exact ⟨hT, hF⟩⟩, hS.F ht⟩) hS.2.2 dX12_come_37
def w_s_writesRow : List Cond := .code yX12_writesRow cX12_writesRow 2 none :: ([.fieldLink RX12 238 "SeaLandModel" "rows" "I", .fieldLink RX12 25 "SeaLandModel" "rowTold" "[I", .code yX12_level cX12_level 2 (some .int), .code yX12_isLand cX12_isLand 2 (some .boolean), .fieldLink RX12 9 "SeaLandModel" "world" "[I", .methodLink RX12 235 yX12_isLand, .instanceMethod yX12_isLand, .selects RX12 yX12_isLand yX12_isLand, .initialized RX12, .code yX12_hour cX12_hour 1 (some .int), .methodLink RX12 228 yX12_hour, .instanceMethod yX12_hour, .selects RX12 yX12_hour yX12_hour, .code yX12_outside cX12_outside 4 (some .int), .code yX12_in cX12_in 3 (some .boolean), .methodLink RX12 197 yX12_in, .static yX12_in, .methodLink RX12 247 yX12_outside, .instanceMethod yX12_outside, .selects RX12 yX12_outside yX12_outside, .methodLink RX12 285 yX12_level, .instanceMethod yX12_level, .selects RX12 yX12_level yX12_level, .fieldLink RX12 28 "SeaLandModel" "rowTrue" "[I"] ++ bs)
set_option maxHeartbeats 4000000 in
set_option maxRecDepth 100000 in
theorem s_writesRow (l : Launch) (dC : Nat → ClassId) (dI : Nat → Nat → Nat) (kA : Nat → ClassId) (G : gT) (H0 : Heap) (q : Nat → Nat) (wN wH wB wC : Int) (wL wK : Nat → Prop) (PI : Nat → Int → Prop) (o0 : Nat) (hT : gH (dC, dI) kA (SHm q (wP wN wH wB wC wC wL wK) PI) G H0) (hr_o0 : G o0 = some 0) (hgn : 6500000 ≤ wN ∧ wN ≤ 400000000) (hgh : 0 ≤ wH ∧ wH ≤ 40000) (hgb : 0 ≤ wB ∧ wB ≤ 3850000) (hgc : 0 ≤ wC ∧ wC ≤ 30) : Met l yX12_writesRow w_s_writesRow ({ frames := 3, cells := 0, slots := 0, locals := 66 }) (va_Pc [.ref o0] (fun U => U.heap = H0 ∧ va_K (dC, dI) vwCl (tyl kA) U ∧ EV (gA G H0.size) U U.heap)) (va_Qv (fun (u : Unit) => True) (fun (_ : Unit) (t : State) => gH (dC, dI) kA (SHm q (wP wN wH wB wC wC wL wK) PI) G t.heap ∧ gF (dC, dI) SKm G ([(0, 9), (8, 0), (9, 0)] : List (Nat × Nat)) H0 t.heap) (gA G H0.size)) 0 0 (gA G H0.size) := by
  refine Met.ofW (cc := cX12_writesRow) (maxL := 2) (ret := none) (by decide) rfl ?_
  intro p e s m args below meth c s₁ B hml hv
  obtain ⟨rfl, hH0, hK, hE⟩ := hv
  have hx := B.exec
  have hb := B.bytes
  have hr := B.returns
  have hts := atoms_spec (ws := w_s_writesRow) B.pre
  have hown : s.vm.findClass RX12 = some m.cls := findClass_of_methodNamed B.named
  have hlocks := B.notSynchronized
  subst hH0
  generalize hAe : gA G s.heap.size = A at hE ⊢
  have hA : ∀ q : Nat, s.heap.size ≤ q → A q := fun q h => by rw [← hAe]; exact Or.inr h
  have hG := gA_of hAe
  have hS : va_S A s.heap s.heap [] := va_S.rf
  have hF : gF (dC, dI) SKm G ([(0, 9), (8, 0), (9, 0)] : List (Nat × Nat)) s.heap s.heap := gF.rf
  have hl := lv_entry ([.ref o0]) (n := 2) (Nat.le_of_ble_eq_true rfl)
  rw [lg_entry_eq]
  generalize (lg_sl ([.ref o0]) ++ List.replicate (2 - (lg_sl ([.ref o0])).length) Slot.unset).toArray = ls at hl ⊢
  have hl : lv_has ls 2 [(0, .ref o0)] := hl
  refine lv_aload_n hx hb dX12_writesRow_0 rfl (lv_at hl 0 rfl) ?_
  refine tw_get hx hb hts bF_X12 hown hK hT hr_o0 shm_0 rfl 9 (by decide) (ht_at hts 0 rfl) (fun _ h9 => h9) dX12_writesRow_1 (fun v9 m1 h9 => ?_)
  obtain ⟨x2, rfl, gx2, kx2⟩ := h9 _ rfl
  refine lv_bipush (v := 24) hx hb dX12_writesRow_4 (by decide) ?_
  refine lv_icmp_ne (tgt := 65) hx hb dX12_writesRow_6 (by decide) (fun c3 => ?_) (fun c3 => ?_)
  · have t4 : x2.toInt ≠ 24 := ti_ne c3 rfl (by decide)
    refine lv_iconst (v := 0) hx hb dX12_writesRow_65 (by decide) ?_
    refine lv_istore_n (lv' := [(1, .int 0), (0, .ref o0)]) hx hb dX12_writesRow_66 rfl hl (by decide) rfl (fun ls hl => ?_)
    have jn93 : ∀ (H : Heap) (locs : List Loc), gH (dC, dI) kA (SHm q (wP wN wH wB wC wC wL wK) PI) G H → gF (dC, dI) SKm G ([(0, 9), (8, 0), (9, 0)] : List (Nat × Nat)) s.heap H → va_S A s.heap H locs → el H o0 (dI 15 9) = some (.int x2) → ∀ ls : Array Slot, lv_has ls 2 [(1, .int (nI 96)), (0, .ref o0)] → W p l e (headSpec w_s_writesRow ({ frames := 3, cells := 0, slots := 0, locals := 66 })).room s m #[.ref o0] below meth c H locs 0 0 (MQ below (va_Qv (fun (u : Unit) => True) (fun (_ : Unit) (t : State) => gH (dC, dI) kA (SHm q (wP wN wH wB wC wC wL wK) PI) G t.heap ∧ gF (dC, dI) SKm G ([(0, 9), (8, 0), (9, 0)] : List (Nat × Nat)) s.heap t.heap) A) #[.ref o0] s 0 0 A) (F0 m 117 ls []) := by
      intro  H locs hT hF hS m92 ls hl
      refine lv_aload_n hx hb dX12_writesRow_117 rfl (lv_at hl 1 rfl) ?_
      refine lv_dup hx hb dX12_writesRow_118 rfl ?_
      refine tw_getM (v := .int x2) hx hb hts bF_X12 hown hK hT hr_o0 shm_0 rfl 9 (by decide) (ht_at hts 0 rfl) (fun _ h9 => h9) m92 dX12_writesRow_119 ?_
      refine lv_iconst (v := 1) hx hb dX12_writesRow_122 (by decide) ?_
      refine lv_iadd hx hb dX12_writesRow_123 ?_
      refine lv_topi (fun x94 ex94 => ?_)
      have t95 : x94.toInt = x2.toInt + 1 := ti_add ex94 rfl (by decide) (by omega) (by omega)
      refine tw_put (v := .int x94) (ty := .int) hx hb hts bF_X12 tyX12 tyX12_ok nmX12 hown hK hT hG hS hr_o0 shm_0 rfl 9 (by decide) (ht_at hts 0 rfl) (fun _ h9 => h9) rfl (by decide +kernel) rfl rfl (gl_at rfl (gi_of (show x94.toInt = x94.toInt from rfl) (by omega) (by omega))) dX12_writesRow_124 (fun H locs hT oq m96 oj hS => ?_)
      have hF := hF.put hr_o0 skm_0 oq oj (by decide)
      exact W.vret hx hb hr (fun t ht hW => ⟨⟨(), rfl, (by exact trivial), by (try dsimp only); rw [ht]; exact ⟨hT, hF⟩⟩, hS.F ht⟩) hS.2.2 dX12_writesRow_127
    have key97 : ∀ (n97 i5 : Nat), i5 + n97 = 96 → 0 ≤ i5 → ∀ (H : Heap) (locs : List Loc), gH (dC, dI) kA (SHm q (wP wN wH wB wC wC wL wK) PI) G H → gF (dC, dI) SKm G ([(0, 9), (8, 0), (9, 0)] : List (Nat × Nat)) s.heap H → va_S A s.heap H locs → el H o0 (dI 15 9) = some (.int x2) → ∀ ls : Array Slot, lv_has ls 2 [(1, .int (nI i5)), (0, .ref o0)] → W p l e (headSpec w_s_writesRow ({ frames := 3, cells := 0, slots := 0, locals := 66 })).room s m #[.ref o0] below meth c H locs 0 0 (MQ below (va_Qv (fun (u : Unit) => True) (fun (_ : Unit) (t : State) => gH (dC, dI) kA (SHm q (wP wN wH wB wC wC wL wK) PI) G t.heap ∧ gF (dC, dI) SKm G ([(0, 9), (8, 0), (9, 0)] : List (Nat × Nat)) s.heap t.heap) A) #[.ref o0] s 0 0 A) (F0 m 67 ls []) := by
      intro n97
      induction n97 with
      | zero =>
        intro i5 hn97 hlo98  H locs hT hF hS m37 ls hl
        obtain rfl : 96 = i5 := by omega
        refine lv_iload_n hx hb dX12_writesRow_67 rfl (lv_at hl 0 rfl) ?_
        refine lv_bipush (v := 96) hx hb dX12_writesRow_68 (by decide) ?_
        refine lv_icmp_ge (tgt := 117) hx hb dX12_writesRow_70 (by decide) (fun c99 => ?_) (fun c99 => (by exfalso; have q9 : ((96 : Nat) : Int) < 96 := ti_nle c99 (by decide) (nI_toInt (by omega)); omega))
        have t100 : 96 ≤ ((96 : Nat) : Int) := ti_le c99 (by decide) (nI_toInt (by omega))
        exact jn93 _ _ hT hF hS m37 ls (lv_sub hl [0, 1] rfl)
      | succ n97 ih97 =>
        intro i5 hn97 hlo98  H locs hT hF hS m37 ls hl
        have hlt100 : i5 < 96 := by omega
        refine lv_iload_n hx hb dX12_writesRow_67 rfl (lv_at hl 0 rfl) ?_
        refine lv_bipush (v := 96) hx hb dX12_writesRow_68 (by decide) ?_
        refine lv_icmp_ge (tgt := 117) hx hb dX12_writesRow_70 (by decide) (fun c101 => (by exfalso; have q9 : 96 ≤ ((i5 : Nat) : Int) := ti_le c101 (by decide) (nI_toInt (by omega)); omega)) (fun c101 => ?_)
        have t102 : ((i5 : Nat) : Int) < 96 := ti_nle c101 (by decide) (nI_toInt (by omega))
        refine lv_aload_n hx hb dX12_writesRow_73 rfl (lv_at hl 1 rfl) ?_
        refine tw_get hx hb hts bF_X12 hown hK hT hr_o0 shm_0 rfl 7 (by decide) (ht_at hts 1 rfl) (fun _ h9 => h9) dX12_writesRow_74 (fun v9 m103 h9 => ?_)
        obtain ⟨rfl, hg104⟩ := h9 _ rfl
        refine lv_bipush (v := 96) hx hb dX12_writesRow_77 (by decide) ?_
        refine lv_aload_n hx hb dX12_writesRow_79 rfl (lv_at hl 1 rfl) ?_
        refine tw_getM (v := .int x2) hx hb hts bF_X12 hown hK hT hr_o0 shm_0 rfl 9 (by decide) (ht_at hts 0 rfl) (fun _ h9 => h9) m37 dX12_writesRow_80 ?_
        refine lv_imul hx hb dX12_writesRow_83 ?_
        refine lv_topi (fun x105 ex105 => ?_)
        have t106 : x105.toInt = 96 * x2.toInt := ti_mul ex105 (by decide) rfl (by omega) (by omega)
        refine lv_iload_n hx hb dX12_writesRow_84 rfl (lv_at hl 0 rfl) ?_
        refine lv_iadd hx hb dX12_writesRow_85 ?_
        refine lv_topi (fun x107 ex107 => ?_)
        have t108 : x107.toInt = x105.toInt + ((i5 : Nat) : Int) := ti_add ex107 rfl (nI_toInt (by omega)) (by omega) (by omega)
        refine lv_aload_n hx hb dX12_writesRow_86 rfl (lv_at hl 1 rfl) ?_
        refine lv_iload_n hx hb dX12_writesRow_87 rfl (lv_at hl 0 rfl) ?_
        have hFc := gA_free hG hA hS
        refine va_calli (va_runV (As := [.int (nI i5)]) (rest := [.int x107, .ref (q 7)]) ⟨hx, hb, hml, hown, hts⟩ (s_level l dC dI kA G H q wN wH wB wC wL wK PI o0 (nI i5) hT hr_o0 (rg_t (a := ((i5 : Nat) : Int)) (nI_toInt (by omega)) (by omega) (by omega)) (by omega) (by omega) (by omega) (by omega)) (cwV 1 hts (goodIn_app (goodIn_r _ [21, 22, 23, 9] (by decide +kernel) (by decide +kernel)) (goodIn_ca (goodIn_r _ [3, 4, 5, 6, 7, 8, 9, 10, 11, 12, 13, 14, 15, 16, 17, 18, 19, 20] (by decide +kernel) (by decide +kernel)) (bs_in _ _))) rfl rfl rfl (by decide +kernel) ⟨(Nat.le_of_ble_eq_true rfl), (Nat.le_of_ble_eq_true rfl)⟩) ⟨fun a U g mk q => by obtain ⟨q0, q1, qK, qE⟩ := q; exact ⟨q0, q1, va_K.moved (u := U) (U := U.calling g mk a) (Vm.Alike.refl U.vm) qK, EV.blind g mk a qE⟩, gH_recv hK hT hr_o0 shm_0 rfl, fun U hU hW => ⟨rfl, hU, va_K.moved hW.alike hK, hE.call hS hFc hU hW⟩⟩ rfl rfl hl.1 rfl (lv_room (Nat.le_of_ble_eq_true rfl)) dX12_writesRow_88 ⟨(Nat.le_of_ble_eq_true rfl), (Nat.le_of_ble_eq_true rfl)⟩) hS (fun q _ h => hFc q h) hFc (fun r109 u t H locs ht hvm hw110 hB _ _ hS => ?_)
        obtain ⟨hT, hF1⟩ := hB
        rw [ht] at hT hF1
        have m111 := (hF1.fld hr_o0 skm_0 (k := 9) (by decide) (by decide)).trans m37
        have hF := hF.more hF1 (by decide)
        try dsimp only at hw110
        refine tw_iast (i := x107) (x := r109) hx hb hK hT hG hS hg104 shm_8 rfl (vin_t (a := x107.toInt) rfl (by omega) (by omega)) (gi_all _) dX12_writesRow_91 (fun H locs hT oq m112 oi hS => ?_)
        have hF := hF.ast hg104 skm_8 oq (by decide)
        have m113 := (el_kept (oq _ (gne hr_o0 hg104 (by decide)))).trans m111
        refine lv_aload_n hx hb dX12_writesRow_92 rfl (lv_at hl 1 rfl) ?_
        refine tw_get hx hb hts bF_X12 hown hK hT hr_o0 shm_0 rfl 8 (by decide) (ht_at hts 23 rfl) (fun _ h9 => h9) dX12_writesRow_93 (fun v9 m114 h9 => ?_)
        obtain ⟨rfl, hg115⟩ := h9 _ rfl
        refine lv_bipush (v := 96) hx hb dX12_writesRow_96 (by decide) ?_
        refine lv_aload_n hx hb dX12_writesRow_98 rfl (lv_at hl 1 rfl) ?_
        refine tw_getM (v := .int x2) hx hb hts bF_X12 hown hK hT hr_o0 shm_0 rfl 9 (by decide) (ht_at hts 0 rfl) (fun _ h9 => h9) m113 dX12_writesRow_99 ?_
        refine lv_imul hx hb dX12_writesRow_102 ?_
        refine lv_topi (fun x116 ex116 => ?_)
        have t117 : x116.toInt = 96 * x2.toInt := ti_mul ex116 (by decide) rfl (by omega) (by omega)
        refine lv_iload_n hx hb dX12_writesRow_103 rfl (lv_at hl 0 rfl) ?_
        refine lv_iadd hx hb dX12_writesRow_104 ?_
        refine lv_topi (fun x118 ex118 => ?_)
        have t119 : x118.toInt = x116.toInt + ((i5 : Nat) : Int) := ti_add ex118 rfl (nI_toInt (by omega)) (by omega) (by omega)
        refine lv_aload_n hx hb dX12_writesRow_105 rfl (lv_at hl 1 rfl) ?_
        refine lv_iload_n hx hb dX12_writesRow_106 rfl (lv_at hl 0 rfl) ?_
        have hFc := gA_free hG hA hS
        refine va_calli (va_runV (As := [.int (nI i5)]) (rest := [.int x118, .ref (q 8)]) ⟨hx, hb, hml, hown, hts⟩ (s_level l dC dI kA G H q wN wH wB wC wL wK PI o0 (nI i5) hT hr_o0 (rg_t (a := ((i5 : Nat) : Int)) (nI_toInt (by omega)) (by omega) (by omega)) (by omega) (by omega) (by omega) (by omega)) (cwV 1 hts (goodIn_app (goodIn_r _ [21, 22, 23, 9] (by decide +kernel) (by decide +kernel)) (goodIn_ca (goodIn_r _ [3, 4, 5, 6, 7, 8, 9, 10, 11, 12, 13, 14, 15, 16, 17, 18, 19, 20] (by decide +kernel) (by decide +kernel)) (bs_in _ _))) rfl rfl rfl (by decide +kernel) ⟨(Nat.le_of_ble_eq_true rfl), (Nat.le_of_ble_eq_true rfl)⟩) ⟨fun a U g mk q => by obtain ⟨q0, q1, qK, qE⟩ := q; exact ⟨q0, q1, va_K.moved (u := U) (U := U.calling g mk a) (Vm.Alike.refl U.vm) qK, EV.blind g mk a qE⟩, gH_recv hK hT hr_o0 shm_0 rfl, fun U hU hW => ⟨rfl, hU, va_K.moved hW.alike hK, hE.call hS hFc hU hW⟩⟩ rfl rfl hl.1 rfl (lv_room (Nat.le_of_ble_eq_true rfl)) dX12_writesRow_107 ⟨(Nat.le_of_ble_eq_true rfl), (Nat.le_of_ble_eq_true rfl)⟩) hS (fun q _ h => hFc q h) hFc (fun r120 u t H locs ht hvm hw121 hB _ _ hS => ?_)
        obtain ⟨hT, hF1⟩ := hB
        rw [ht] at hT hF1
        have m122 := (hF1.fld hr_o0 skm_0 (k := 9) (by decide) (by decide)).trans m113
        have m123 := (el_kept (hF1.arr hg104 skm_8 (by decide))).trans m112
        have hF := hF.more hF1 (by decide)
        try dsimp only at hw121
        refine tw_iast (i := x118) (x := r120) hx hb hK hT hG hS hg115 shm_9 rfl (vin_t (a := x118.toInt) rfl (by omega) (by omega)) (gi_all _) dX12_writesRow_110 (fun H locs hT oq m124 oi hS => ?_)
        have hF := hF.ast hg115 skm_9 oq (by decide)
        have m125 := (el_kept (oq _ (gne hr_o0 hg115 (by decide)))).trans m122
        have m126 := (el_kept (oq _ (gne hg104 hg115 (by decide)))).trans m123
        refine lv_iinc (v := nI (i5 + 1)) (lv' := [(1, .int (nI (i5 + 1))), (0, .ref o0)]) hx hb dX12_writesRow_111 hl (k := 0) rfl (nI_add i5 1) (by decide) rfl (fun ls hl => ?_)
        refine lv_goto (tgt := 67) hx hb dX12_writesRow_114 (by decide) ?_
        exact ih97 (i5 + 1) (by omega) (by omega) _ _ hT hF hS m125 ls (lv_sub hl [0, 1] rfl)
    exact key97 (96 - 0) 0 (by omega) (Nat.le_refl _) _ _ hT hF hS m1 ls (lv_sub hl [0, 1] rfl)
  · have t127 : x2.toInt = 24 := ti_eq c3 rfl (by decide)
    refine lv_bipush (v := 96) hx hb dX12_writesRow_9 (by decide) ?_
    refine lv_istore_n (lv' := [(1, .int 96), (0, .ref o0)]) hx hb dX12_writesRow_11 rfl hl (by decide) rfl (fun ls hl => ?_)
    have jn323 : ∀ (H : Heap) (locs : List Loc), gH (dC, dI) kA (SHm q (wP wN wH wB wC wC wL wK) PI) G H → gF (dC, dI) SKm G ([(0, 9), (8, 0), (9, 0)] : List (Nat × Nat)) s.heap H → va_S A s.heap H locs → el H o0 (dI 15 9) = some (.int x2) → ∀ ls : Array Slot, lv_has ls 2 [(1, .int (nI 2304)), (0, .ref o0)] → W p l e (headSpec w_s_writesRow ({ frames := 3, cells := 0, slots := 0, locals := 66 })).room s m #[.ref o0] below meth c H locs 0 0 (MQ below (va_Qv (fun (u : Unit) => True) (fun (_ : Unit) (t : State) => gH (dC, dI) kA (SHm q (wP wN wH wB wC wC wL wK) PI) G t.heap ∧ gF (dC, dI) SKm G ([(0, 9), (8, 0), (9, 0)] : List (Nat × Nat)) s.heap t.heap) A) #[.ref o0] s 0 0 A) (F0 m 55 ls []) := by
      intro  H locs hT hF hS m322 ls hl
      refine lv_aload_n hx hb dX12_writesRow_55 rfl (lv_at hl 1 rfl) ?_
      refine lv_dup hx hb dX12_writesRow_56 rfl ?_
      refine tw_getM (v := .int x2) hx hb hts bF_X12 hown hK hT hr_o0 shm_0 rfl 9 (by decide) (ht_at hts 0 rfl) (fun _ h9 => h9) m322 dX12_writesRow_57 ?_
      refine lv_iconst (v := 1) hx hb dX12_writesRow_60 (by decide) ?_
      refine lv_isub hx hb dX12_writesRow_61 ?_
      refine lv_topi (fun x324 ex324 => ?_)
      have t325 : x324.toInt = x2.toInt - 1 := ti_sub ex324 rfl (by decide) (by omega) (by omega)
      refine tw_put (v := .int x324) (ty := .int) hx hb hts bF_X12 tyX12 tyX12_ok nmX12 hown hK hT hG hS hr_o0 shm_0 rfl 9 (by decide) (ht_at hts 0 rfl) (fun _ h9 => h9) rfl (by decide +kernel) rfl rfl (gl_at rfl (gi_of (show x324.toInt = x324.toInt from rfl) (by omega) (by omega))) dX12_writesRow_62 (fun H locs hT oq m326 oj hS => ?_)
      have hF := hF.put hr_o0 skm_0 oq oj (by decide)
      refine lv_iconst (v := 0) hx hb dX12_writesRow_65 (by decide) ?_
      refine lv_istore_n (lv' := [(1, .int 0), (0, .ref o0)]) hx hb dX12_writesRow_66 rfl hl (by decide) rfl (fun ls hl => ?_)
      have jn415 : ∀ (H : Heap) (locs : List Loc), gH (dC, dI) kA (SHm q (wP wN wH wB wC wC wL wK) PI) G H → gF (dC, dI) SKm G ([(0, 9), (8, 0), (9, 0)] : List (Nat × Nat)) s.heap H → va_S A s.heap H locs → el H o0 (dI 15 9) = some (.int x324) → ∀ ls : Array Slot, lv_has ls 2 [(1, .int (nI 96)), (0, .ref o0)] → W p l e (headSpec w_s_writesRow ({ frames := 3, cells := 0, slots := 0, locals := 66 })).room s m #[.ref o0] below meth c H locs 0 0 (MQ below (va_Qv (fun (u : Unit) => True) (fun (_ : Unit) (t : State) => gH (dC, dI) kA (SHm q (wP wN wH wB wC wC wL wK) PI) G t.heap ∧ gF (dC, dI) SKm G ([(0, 9), (8, 0), (9, 0)] : List (Nat × Nat)) s.heap t.heap) A) #[.ref o0] s 0 0 A) (F0 m 117 ls []) := by
        intro  H locs hT hF hS m414 ls hl
        refine lv_aload_n hx hb dX12_writesRow_117 rfl (lv_at hl 1 rfl) ?_
        refine lv_dup hx hb dX12_writesRow_118 rfl ?_
        refine tw_getM (v := .int x324) hx hb hts bF_X12 hown hK hT hr_o0 shm_0 rfl 9 (by decide) (ht_at hts 0 rfl) (fun _ h9 => h9) m414 dX12_writesRow_119 ?_
        refine lv_iconst (v := 1) hx hb dX12_writesRow_122 (by decide) ?_
        refine lv_iadd hx hb dX12_writesRow_123 ?_
        refine lv_topi (fun x416 ex416 => ?_)
        have t417 : x416.toInt = x324.toInt + 1 := ti_add ex416 rfl (by decide) (by omega) (by omega)
        refine tw_put (v := .int x416) (ty := .int) hx hb hts bF_X12 tyX12 tyX12_ok nmX12 hown hK hT hG hS hr_o0 shm_0 rfl 9 (by decide) (ht_at hts 0 rfl) (fun _ h9 => h9) rfl (by decide +kernel) rfl rfl (gl_at rfl (gi_of (show x416.toInt = x416.toInt from rfl) (by omega) (by omega))) dX12_writesRow_124 (fun H locs hT oq m418 oj hS => ?_)
        have hF := hF.put hr_o0 skm_0 oq oj (by decide)
        exact W.vret hx hb hr (fun t ht hW => ⟨⟨(), rfl, (by exact trivial), by (try dsimp only); rw [ht]; exact ⟨hT, hF⟩⟩, hS.F ht⟩) hS.2.2 dX12_writesRow_127
      have key419 : ∀ (n419 i327 : Nat), i327 + n419 = 96 → 0 ≤ i327 → ∀ (H : Heap) (locs : List Loc), gH (dC, dI) kA (SHm q (wP wN wH wB wC wC wL wK) PI) G H → gF (dC, dI) SKm G ([(0, 9), (8, 0), (9, 0)] : List (Nat × Nat)) s.heap H → va_S A s.heap H locs → el H o0 (dI 15 9) = some (.int x324) → ∀ ls : Array Slot, lv_has ls 2 [(1, .int (nI i327)), (0, .ref o0)] → W p l e (headSpec w_s_writesRow ({ frames := 3, cells := 0, slots := 0, locals := 66 })).room s m #[.ref o0] below meth c H locs 0 0 (MQ below (va_Qv (fun (u : Unit) => True) (fun (_ : Unit) (t : State) => gH (dC, dI) kA (SHm q (wP wN wH wB wC wC wL wK) PI) G t.heap ∧ gF (dC, dI) SKm G ([(0, 9), (8, 0), (9, 0)] : List (Nat × Nat)) s.heap t.heap) A) #[.ref o0] s 0 0 A) (F0 m 67 ls []) := by
        intro n419
        induction n419 with
        | zero =>
          intro i327 hn419 hlo420  H locs hT hF hS m359 ls hl
          obtain rfl : 96 = i327 := by omega
          refine lv_iload_n hx hb dX12_writesRow_67 rfl (lv_at hl 0 rfl) ?_
          refine lv_bipush (v := 96) hx hb dX12_writesRow_68 (by decide) ?_
          refine lv_icmp_ge (tgt := 117) hx hb dX12_writesRow_70 (by decide) (fun c421 => ?_) (fun c421 => (by exfalso; have q9 : ((96 : Nat) : Int) < 96 := ti_nle c421 (by decide) (nI_toInt (by omega)); omega))
          have t422 : 96 ≤ ((96 : Nat) : Int) := ti_le c421 (by decide) (nI_toInt (by omega))
          exact jn415 _ _ hT hF hS m359 ls (lv_sub hl [0, 1] rfl)
        | succ n419 ih419 =>
          intro i327 hn419 hlo420  H locs hT hF hS m359 ls hl
          have hlt422 : i327 < 96 := by omega
          refine lv_iload_n hx hb dX12_writesRow_67 rfl (lv_at hl 0 rfl) ?_
          refine lv_bipush (v := 96) hx hb dX12_writesRow_68 (by decide) ?_
          refine lv_icmp_ge (tgt := 117) hx hb dX12_writesRow_70 (by decide) (fun c423 => (by exfalso; have q9 : 96 ≤ ((i327 : Nat) : Int) := ti_le c423 (by decide) (nI_toInt (by omega)); omega)) (fun c423 => ?_)
          have t424 : ((i327 : Nat) : Int) < 96 := ti_nle c423 (by decide) (nI_toInt (by omega))
          refine lv_aload_n hx hb dX12_writesRow_73 rfl (lv_at hl 1 rfl) ?_
          refine tw_get hx hb hts bF_X12 hown hK hT hr_o0 shm_0 rfl 7 (by decide) (ht_at hts 1 rfl) (fun _ h9 => h9) dX12_writesRow_74 (fun v9 m425 h9 => ?_)
          obtain ⟨rfl, hg426⟩ := h9 _ rfl
          refine lv_bipush (v := 96) hx hb dX12_writesRow_77 (by decide) ?_
          refine lv_aload_n hx hb dX12_writesRow_79 rfl (lv_at hl 1 rfl) ?_
          refine tw_getM (v := .int x324) hx hb hts bF_X12 hown hK hT hr_o0 shm_0 rfl 9 (by decide) (ht_at hts 0 rfl) (fun _ h9 => h9) m359 dX12_writesRow_80 ?_
          refine lv_imul hx hb dX12_writesRow_83 ?_
          refine lv_topi (fun x427 ex427 => ?_)
          have t428 : x427.toInt = 96 * x324.toInt := ti_mul ex427 (by decide) rfl (by omega) (by omega)
          refine lv_iload_n hx hb dX12_writesRow_84 rfl (lv_at hl 0 rfl) ?_
          refine lv_iadd hx hb dX12_writesRow_85 ?_
          refine lv_topi (fun x429 ex429 => ?_)
          have t430 : x429.toInt = x427.toInt + ((i327 : Nat) : Int) := ti_add ex429 rfl (nI_toInt (by omega)) (by omega) (by omega)
          refine lv_aload_n hx hb dX12_writesRow_86 rfl (lv_at hl 1 rfl) ?_
          refine lv_iload_n hx hb dX12_writesRow_87 rfl (lv_at hl 0 rfl) ?_
          have hFc := gA_free hG hA hS
          refine va_calli (va_runV (As := [.int (nI i327)]) (rest := [.int x429, .ref (q 7)]) ⟨hx, hb, hml, hown, hts⟩ (s_level l dC dI kA G H q wN wH wB wC wL wK PI o0 (nI i327) hT hr_o0 (rg_t (a := ((i327 : Nat) : Int)) (nI_toInt (by omega)) (by omega) (by omega)) (by omega) (by omega) (by omega) (by omega)) (cwV 1 hts (goodIn_app (goodIn_r _ [21, 22, 23, 9] (by decide +kernel) (by decide +kernel)) (goodIn_ca (goodIn_r _ [3, 4, 5, 6, 7, 8, 9, 10, 11, 12, 13, 14, 15, 16, 17, 18, 19, 20] (by decide +kernel) (by decide +kernel)) (bs_in _ _))) rfl rfl rfl (by decide +kernel) ⟨(Nat.le_of_ble_eq_true rfl), (Nat.le_of_ble_eq_true rfl)⟩) ⟨fun a U g mk q => by obtain ⟨q0, q1, qK, qE⟩ := q; exact ⟨q0, q1, va_K.moved (u := U) (U := U.calling g mk a) (Vm.Alike.refl U.vm) qK, EV.blind g mk a qE⟩, gH_recv hK hT hr_o0 shm_0 rfl, fun U hU hW => ⟨rfl, hU, va_K.moved hW.alike hK, hE.call hS hFc hU hW⟩⟩ rfl rfl hl.1 rfl (lv_room (Nat.le_of_ble_eq_true rfl)) dX12_writesRow_88 ⟨(Nat.le_of_ble_eq_true rfl), (Nat.le_of_ble_eq_true rfl)⟩) hS (fun q _ h => hFc q h) hFc (fun r431 u t H locs ht hvm hw432 hB _ _ hS => ?_)
          obtain ⟨hT, hF1⟩ := hB
          rw [ht] at hT hF1
          have m433 := (hF1.fld hr_o0 skm_0 (k := 9) (by decide) (by decide)).trans m359
          have hF := hF.more hF1 (by decide)
          try dsimp only at hw432
          refine tw_iast (i := x429) (x := r431) hx hb hK hT hG hS hg426 shm_8 rfl (vin_t (a := x429.toInt) rfl (by omega) (by omega)) (gi_all _) dX12_writesRow_91 (fun H locs hT oq m434 oi hS => ?_)
          have hF := hF.ast hg426 skm_8 oq (by decide)
          have m435 := (el_kept (oq _ (gne hr_o0 hg426 (by decide)))).trans m433
          refine lv_aload_n hx hb dX12_writesRow_92 rfl (lv_at hl 1 rfl) ?_
          refine tw_get hx hb hts bF_X12 hown hK hT hr_o0 shm_0 rfl 8 (by decide) (ht_at hts 23 rfl) (fun _ h9 => h9) dX12_writesRow_93 (fun v9 m436 h9 => ?_)
          obtain ⟨rfl, hg437⟩ := h9 _ rfl
          refine lv_bipush (v := 96) hx hb dX12_writesRow_96 (by decide) ?_
          refine lv_aload_n hx hb dX12_writesRow_98 rfl (lv_at hl 1 rfl) ?_
          refine tw_getM (v := .int x324) hx hb hts bF_X12 hown hK hT hr_o0 shm_0 rfl 9 (by decide) (ht_at hts 0 rfl) (fun _ h9 => h9) m435 dX12_writesRow_99 ?_
          refine lv_imul hx hb dX12_writesRow_102 ?_
          refine lv_topi (fun x438 ex438 => ?_)
          have t439 : x438.toInt = 96 * x324.toInt := ti_mul ex438 (by decide) rfl (by omega) (by omega)
          refine lv_iload_n hx hb dX12_writesRow_103 rfl (lv_at hl 0 rfl) ?_
          refine lv_iadd hx hb dX12_writesRow_104 ?_
          refine lv_topi (fun x440 ex440 => ?_)
          have t441 : x440.toInt = x438.toInt + ((i327 : Nat) : Int) := ti_add ex440 rfl (nI_toInt (by omega)) (by omega) (by omega)
          refine lv_aload_n hx hb dX12_writesRow_105 rfl (lv_at hl 1 rfl) ?_
          refine lv_iload_n hx hb dX12_writesRow_106 rfl (lv_at hl 0 rfl) ?_
          have hFc := gA_free hG hA hS
          refine va_calli (va_runV (As := [.int (nI i327)]) (rest := [.int x440, .ref (q 8)]) ⟨hx, hb, hml, hown, hts⟩ (s_level l dC dI kA G H q wN wH wB wC wL wK PI o0 (nI i327) hT hr_o0 (rg_t (a := ((i327 : Nat) : Int)) (nI_toInt (by omega)) (by omega) (by omega)) (by omega) (by omega) (by omega) (by omega)) (cwV 1 hts (goodIn_app (goodIn_r _ [21, 22, 23, 9] (by decide +kernel) (by decide +kernel)) (goodIn_ca (goodIn_r _ [3, 4, 5, 6, 7, 8, 9, 10, 11, 12, 13, 14, 15, 16, 17, 18, 19, 20] (by decide +kernel) (by decide +kernel)) (bs_in _ _))) rfl rfl rfl (by decide +kernel) ⟨(Nat.le_of_ble_eq_true rfl), (Nat.le_of_ble_eq_true rfl)⟩) ⟨fun a U g mk q => by obtain ⟨q0, q1, qK, qE⟩ := q; exact ⟨q0, q1, va_K.moved (u := U) (U := U.calling g mk a) (Vm.Alike.refl U.vm) qK, EV.blind g mk a qE⟩, gH_recv hK hT hr_o0 shm_0 rfl, fun U hU hW => ⟨rfl, hU, va_K.moved hW.alike hK, hE.call hS hFc hU hW⟩⟩ rfl rfl hl.1 rfl (lv_room (Nat.le_of_ble_eq_true rfl)) dX12_writesRow_107 ⟨(Nat.le_of_ble_eq_true rfl), (Nat.le_of_ble_eq_true rfl)⟩) hS (fun q _ h => hFc q h) hFc (fun r442 u t H locs ht hvm hw443 hB _ _ hS => ?_)
          obtain ⟨hT, hF1⟩ := hB
          rw [ht] at hT hF1
          have m444 := (hF1.fld hr_o0 skm_0 (k := 9) (by decide) (by decide)).trans m435
          have m445 := (el_kept (hF1.arr hg426 skm_8 (by decide))).trans m434
          have hF := hF.more hF1 (by decide)
          try dsimp only at hw443
          refine tw_iast (i := x440) (x := r442) hx hb hK hT hG hS hg437 shm_9 rfl (vin_t (a := x440.toInt) rfl (by omega) (by omega)) (gi_all _) dX12_writesRow_110 (fun H locs hT oq m446 oi hS => ?_)
          have hF := hF.ast hg437 skm_9 oq (by decide)
          have m447 := (el_kept (oq _ (gne hr_o0 hg437 (by decide)))).trans m444
          have m448 := (el_kept (oq _ (gne hg426 hg437 (by decide)))).trans m445
          refine lv_iinc (v := nI (i327 + 1)) (lv' := [(1, .int (nI (i327 + 1))), (0, .ref o0)]) hx hb dX12_writesRow_111 hl (k := 0) rfl (nI_add i327 1) (by decide) rfl (fun ls hl => ?_)
          refine lv_goto (tgt := 67) hx hb dX12_writesRow_114 (by decide) ?_
          exact ih419 (i327 + 1) (by omega) (by omega) _ _ hT hF hS m447 ls (lv_sub hl [0, 1] rfl)
      exact key419 (96 - 0) 0 (by omega) (Nat.le_refl _) _ _ hT hF hS m326 ls (lv_sub hl [0, 1] rfl)
    have key449 : ∀ (n449 i128 : Nat), i128 + n449 = 2304 → 96 ≤ i128 → ∀ (H : Heap) (locs : List Loc), gH (dC, dI) kA (SHm q (wP wN wH wB wC wC wL wK) PI) G H → gF (dC, dI) SKm G ([(0, 9), (8, 0), (9, 0)] : List (Nat × Nat)) s.heap H → va_S A s.heap H locs → el H o0 (dI 15 9) = some (.int x2) → ∀ ls : Array Slot, lv_has ls 2 [(1, .int (nI i128)), (0, .ref o0)] → W p l e (headSpec w_s_writesRow ({ frames := 3, cells := 0, slots := 0, locals := 66 })).room s m #[.ref o0] below meth c H locs 0 0 (MQ below (va_Qv (fun (u : Unit) => True) (fun (_ : Unit) (t : State) => gH (dC, dI) kA (SHm q (wP wN wH wB wC wC wL wK) PI) G t.heap ∧ gF (dC, dI) SKm G ([(0, 9), (8, 0), (9, 0)] : List (Nat × Nat)) s.heap t.heap) A) #[.ref o0] s 0 0 A) (F0 m 12 ls []) := by
      intro n449
      induction n449 with
      | zero =>
        intro i128 hn449 hlo450  H locs hT hF hS m277 ls hl
        obtain rfl : 2304 = i128 := by omega
        refine lv_iload_n hx hb dX12_writesRow_12 rfl (lv_at hl 0 rfl) ?_
        refine lv_sipush (v := 2304) hx hb dX12_writesRow_13 (by decide) ?_
        refine lv_icmp_ge (tgt := 55) hx hb dX12_writesRow_16 (by decide) (fun c451 => ?_) (fun c451 => (by exfalso; have q9 : ((2304 : Nat) : Int) < 2304 := ti_nle c451 (by decide) (nI_toInt (by omega)); omega))
        have t452 : 2304 ≤ ((2304 : Nat) : Int) := ti_le c451 (by decide) (nI_toInt (by omega))
        exact jn323 _ _ hT hF hS m277 ls (lv_sub hl [0, 1] rfl)
      | succ n449 ih449 =>
        intro i128 hn449 hlo450  H locs hT hF hS m277 ls hl
        have hlt452 : i128 < 2304 := by omega
        refine lv_iload_n hx hb dX12_writesRow_12 rfl (lv_at hl 0 rfl) ?_
        refine lv_sipush (v := 2304) hx hb dX12_writesRow_13 (by decide) ?_
        refine lv_icmp_ge (tgt := 55) hx hb dX12_writesRow_16 (by decide) (fun c453 => (by exfalso; have q9 : 2304 ≤ ((i128 : Nat) : Int) := ti_le c453 (by decide) (nI_toInt (by omega)); omega)) (fun c453 => ?_)
        have t454 : ((i128 : Nat) : Int) < 2304 := ti_nle c453 (by decide) (nI_toInt (by omega))
        refine lv_aload_n hx hb dX12_writesRow_19 rfl (lv_at hl 1 rfl) ?_
        refine tw_get hx hb hts bF_X12 hown hK hT hr_o0 shm_0 rfl 7 (by decide) (ht_at hts 1 rfl) (fun _ h9 => h9) dX12_writesRow_20 (fun v9 m455 h9 => ?_)
        obtain ⟨rfl, hg456⟩ := h9 _ rfl
        refine lv_iload_n hx hb dX12_writesRow_23 rfl (lv_at hl 0 rfl) ?_
        refine lv_bipush (v := 96) hx hb dX12_writesRow_24 (by decide) ?_
        refine lv_isub hx hb dX12_writesRow_26 ?_
        refine lv_topi (fun x457 ex457 => ?_)
        obtain rfl : nI (i128 - 96) = x457 := (ex457.trans (pk_sub (a := i128) (b := 96) (by omega))).symm
        refine lv_aload_n hx hb dX12_writesRow_27 rfl (lv_at hl 1 rfl) ?_
        refine tw_get hx hb hts bF_X12 hown hK hT hr_o0 shm_0 rfl 7 (by decide) (ht_at hts 1 rfl) (fun _ h9 => h9) dX12_writesRow_28 (fun v9 m458 h9 => ?_)
        obtain ⟨rfl, hg459⟩ := h9 _ rfl
        refine lv_iload_n hx hb dX12_writesRow_31 rfl (lv_at hl 0 rfl) ?_
        refine tw_iald (i := (nI i128)) hx hb hK hT hg456 shm_8 rfl (vp_in_nI (by omega) (by decide)) dX12_writesRow_32 (fun v9 m460 h9 => ?_)
        obtain ⟨x461, rfl, gx461, kx461⟩ := h9
        refine tw_iast (i := (nI (i128 - 96))) (x := x461) hx hb hK hT hG hS hg456 shm_8 rfl (vp_in_nI (by omega) (by decide)) (gi_all _) dX12_writesRow_33 (fun H locs hT oq m462 oi hS => ?_)
        have hF := hF.ast hg456 skm_8 oq (by decide)
        have m463 := (el_kept (oq _ (gne hr_o0 hg456 (by decide)))).trans m277
        refine lv_aload_n hx hb dX12_writesRow_34 rfl (lv_at hl 1 rfl) ?_
        refine tw_get hx hb hts bF_X12 hown hK hT hr_o0 shm_0 rfl 8 (by decide) (ht_at hts 23 rfl) (fun _ h9 => h9) dX12_writesRow_35 (fun v9 m464 h9 => ?_)
        obtain ⟨rfl, hg465⟩ := h9 _ rfl
        refine lv_iload_n hx hb dX12_writesRow_38 rfl (lv_at hl 0 rfl) ?_
        refine lv_bipush (v := 96) hx hb dX12_writesRow_39 (by decide) ?_
        refine lv_isub hx hb dX12_writesRow_41 ?_
        refine lv_topi (fun x466 ex466 => ?_)
        obtain rfl : nI (i128 - 96) = x466 := (ex466.trans (pk_sub (a := i128) (b := 96) (by omega))).symm
        refine lv_aload_n hx hb dX12_writesRow_42 rfl (lv_at hl 1 rfl) ?_
        refine tw_get hx hb hts bF_X12 hown hK hT hr_o0 shm_0 rfl 8 (by decide) (ht_at hts 23 rfl) (fun _ h9 => h9) dX12_writesRow_43 (fun v9 m467 h9 => ?_)
        obtain ⟨rfl, hg468⟩ := h9 _ rfl
        refine lv_iload_n hx hb dX12_writesRow_46 rfl (lv_at hl 0 rfl) ?_
        refine tw_iald (i := (nI i128)) hx hb hK hT hg465 shm_9 rfl (vp_in_nI (by omega) (by decide)) dX12_writesRow_47 (fun v9 m469 h9 => ?_)
        obtain ⟨x470, rfl, gx470, kx470⟩ := h9
        refine tw_iast (i := (nI (i128 - 96))) (x := x470) hx hb hK hT hG hS hg465 shm_9 rfl (vp_in_nI (by omega) (by decide)) (gi_all _) dX12_writesRow_48 (fun H locs hT oq m471 oi hS => ?_)
        have hF := hF.ast hg465 skm_9 oq (by decide)
        have m472 := (el_kept (oq _ (gne hr_o0 hg465 (by decide)))).trans m463
        have m473 := (el_kept (oq _ (gne hg456 hg465 (by decide)))).trans m462
        refine lv_iinc (v := nI (i128 + 1)) (lv' := [(1, .int (nI (i128 + 1))), (0, .ref o0)]) hx hb dX12_writesRow_49 hl (k := 0) rfl (nI_add i128 1) (by decide) rfl (fun ls hl => ?_)
        refine lv_goto (tgt := 12) hx hb dX12_writesRow_52 (by decide) ?_
        exact ih449 (i128 + 1) (by omega) (by omega) _ _ hT hF hS m472 ls (lv_sub hl [0, 1] rfl)
    exact key449 (2304 - 96) 96 (by omega) (Nat.le_refl _) _ _ hT hF hS m1 ls (lv_sub hl [0, 1] rfl)
