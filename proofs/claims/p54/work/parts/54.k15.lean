def w_c_dike : List Cond := .code yX11_dike cX11_dike 5 (some .int) :: (HAppend.hAppend (α := List Cond) (β := List Cond) (γ := List Cond) [.code yX11_needSquare cX11_needSquare 1 none, .code yX11_within cX11_within 3 (some .boolean), .methodLink RX11 58 yX11_within, .static yX11_within, .initialized RX11, .classLink RX11 557 "java/lang/IndexOutOfBoundsException", .initialized "java/lang/IndexOutOfBoundsException", .methodLink RX11 55 yX11_needSquare, .static yX11_needSquare, .code yX11_needNumbers cX11_needNumbers 1 none, .classLink RX11 547 "java/lang/IllegalArgumentException", .initialized "java/lang/IllegalArgumentException", .methodLink RX11 62 yX11_needNumbers, .static yX11_needNumbers, .code yX11_needRoomForWork cX11_needRoomForWork 1 none, .fieldLink RX11 16 "SeaLand" "lake" "LSeaLand$Lake;", .classLink RX11 345 "java/lang/UnsupportedOperationException", .initialized "java/lang/UnsupportedOperationException", .methodLink RX11 149 yX11_needRoomForWork, .instanceMethod yX11_needRoomForWork, .selects RX11 yX11_needRoomForWork yX11_needRoomForWork, .code yX3_isFreeLand cX3_isFreeLand 2 (some .boolean), .fieldLink RX3 21 "SeaLand$Lake" "ground" "LSeaLand$Ground;", .code yX3_workOn cX3_workOn 3 (some .int), .fieldLink RX3 47 "SeaLand$Lake" "built" "I", .fieldLink RX3 27 "SeaLand$Lake" "works" "[LSeaLand$Work;", .methodLink RX3 53 yX3_workOn, .instanceMethod yX3_workOn, .selects RX3 yX3_workOn yX3_workOn, .initialized RX3, .methodLink RX11 152 yX3_isFreeLand, .instanceMethod yX3_isFreeLand, .selects RX3 yX3_isFreeLand yX3_isFreeLand, .code yX3_isSeaBeside cX3_isSeaBeside 3 (some .boolean), .code yX11_stepsApart cX11_stepsApart 2 (some .int), .methodLink RX11 580 Lib.Math.abs.name, .static Lib.Math.abs.name, .initialized "java/lang/Math", .code Lib.Math.abs.name Lib.Math.abs.code 1 (some .int), .static yX11_stepsApart, .methodLink RX11 156 yX3_isSeaBeside, .instanceMethod yX3_isSeaBeside, .selects RX3 yX3_isSeaBeside yX3_isSeaBeside, .methodLink RX11 160 yX11_stepsApart, .fieldLink RX11 23 "SeaLand" "rows" "LSeaLand$Rows;", .code yX6_forget cX6_forget 1 none, .fieldLink RX6 18 "SeaLand$Rows" "kept" "I", .fieldLink RX6 22 "SeaLand$Rows" "oldest" "I", .methodLink RX11 76 yX6_forget, .instanceMethod yX6_forget, .selects RX6 yX6_forget yX6_forget, .initialized RX6, .code yX3_build cX3_build 5 (some .int), .code yX10_begin cX10_begin 5 none, .fieldLink RX10 18 "SeaLand$Work" "kind" "I", .fieldLink RX10 22 "SeaLand$Work" "square" "I", .fieldLink RX10 25 "SeaLand$Work" "to" "I", .fieldLink RX10 28 "SeaLand$Work" "size" "I", .fieldLink RX10 31 "SeaLand$Work" "width" "I", .fieldLink RX10 34 "SeaLand$Work" "layers" "I", .fieldLink RX10 37 "SeaLand$Work" "coal" "I", .fieldLink RX10 40 "SeaLand$Work" "on" "Z", .fieldLink RX10 44 "SeaLand$Work" "latest" "I", .fieldLink RX10 47 "SeaLand$Work" "total" "I", .methodLink RX3 60 yX10_begin, .instanceMethod yX10_begin, .selects RX10 yX10_begin yX10_begin, .initialized RX10, .methodLink RX11 163 yX3_build, .instanceMethod yX3_build, .selects RX3 yX3_build yX3_build] bs2)
set_option maxHeartbeats 4000000 in
set_option maxRecDepth 100000 in
theorem c_dike (l : Launch) (hlt : l.stackTraces = false) (dC : Nat → ClassId) (dI : Nat → Nat → Nat) (kA : Nat → ClassId) (adK adV : Nat → Nat) (G : gT) (H0 : Heap) (nC nS : Int) (o0 : Nat) (p0 : Int32) (p1 : Int32) (p2 : Int32) (p3 : Int32)  (hT : gH (dC, dI) kA (SHc nC nS) G H0) (hr_o0 : G o0 = some 14) (hgC : 0 ≤ nC ∧ nC ≤ 40) (hgS : 0 ≤ nS ∧ nS ≤ 60) : vx_Met l yX11_dike w_c_dike ({ frames := 7, cells := 4, slots := 24, locals := 120 }) (va_Pc [.ref o0, .int p0, .int p1, .int p2, .int p3] (fun U => U.heap = H0 ∧ va_K (dC, dI) vwCl (tyl kA) U ∧ EVC adK adV (gA G H0.size) U U.heap)) (va_Qi (fun (r : Int32) (u : Unit) => (-1 ≤ r.toInt ∧ r.toInt ≤ 29)) (fun (_ : Unit) (t : State) => gH (dC, dI) kA (SHc nC nS) G t.heap ∧ gF (dC, dI) SKc G ([(6, 3), (9, 2), (9, 3), (13, 2), (13, 3), (13, 4), (13, 5), (13, 6), (13, 7), (13, 8), (13, 9), (13, 10), (13, 11)] : List (Nat × Nat)) H0 t.heap) (gA G H0.size)) (vx_X (fun _ : Unit => True) (fun E _ t => (E = "java/lang/IllegalArgumentException" ∨ E = "java/lang/IndexOutOfBoundsException" ∨ E = "java/lang/UnsupportedOperationException") ∧ gH (dC, dI) kA (SHc nC nS) G t.heap ∧ gF (dC, dI) SKc G ([(6, 3), (9, 2), (9, 3), (13, 2), (13, 3), (13, 4), (13, 5), (13, 6), (13, 7), (13, 8), (13, 9), (13, 10), (13, 11)] : List (Nat × Nat)) H0 t.heap) (gA G H0.size)) 4 24 (gA G H0.size) := by
  refine vx_ofW (cc := cX11_dike) (maxL := 5) (ret := (some .int)) (by decide) rfl ?_
  intro p e s m args below meth c s₁ B hml hnt hv
  obtain ⟨rfl, hH0, hK, hE⟩ := hv
  have hx := B.exec
  have hb := B.bytes
  have hr := B.returns
  have hts := atoms_spec (ws := w_c_dike) B.pre
  have hown : s.vm.findClass RX11 = some m.cls := findClass_of_methodNamed B.named
  have hlocks := B.notSynchronized
  subst hH0
  generalize hAe : gA G s.heap.size = A at hE ⊢
  have hA : ∀ q : Nat, s.heap.size ≤ q → A q := fun q h => by rw [← hAe]; exact Or.inr h
  have hG := gA_of hAe
  have hS : va_S A s.heap s.heap [] := va_S.rf
  have hF : gF (dC, dI) SKc G ([(6, 3), (9, 2), (9, 3), (13, 2), (13, 3), (13, 4), (13, 5), (13, 6), (13, 7), (13, 8), (13, 9), (13, 10), (13, 11)] : List (Nat × Nat)) s.heap s.heap := gF.rf
  have hl := lv_entry ([.ref o0, .int p0, .int p1, .int p2, .int p3]) (n := 5) (Nat.le_of_ble_eq_true rfl)
  rw [lg_entry_eq]
  generalize (lg_sl ([.ref o0, .int p0, .int p1, .int p2, .int p3]) ++ List.replicate (5 - (lg_sl ([.ref o0, .int p0, .int p1, .int p2, .int p3])).length) Slot.unset).toArray = ls at hl ⊢
  have hl : lv_has ls 5 [(0, .ref o0), (1, .int p0), (2, .int p1), (3, .int p2), (4, .int p3)] := hl
  refine lv_iload_n hx hb dX11_dike_0 rfl (lv_at hl 1 rfl) ?_
  have hFc := gA_free hG hA hS
  refine vx_callv (vx_runS (As := [.int p0]) (rest := []) ⟨hx, hb, hml, hown, hts⟩ (c_needSquare l hlt dC dI kA adK adV G s.heap nC nS p0 hT (by omega) (by omega)) (va_cwS 1 hts (goodIn_app (goodIn_r _ [8, 9, 5] rfl (by decide +kernel)) (goodIn_ca (goodIn_r _ [1, 2, 3, 4, 5, 6, 7] rfl (by decide +kernel)) (bs2_in _ _))) rfl rfl rfl (by decide +kernel) ⟨(Nat.le_of_ble_eq_true rfl), (Nat.le_of_ble_eq_true rfl)⟩) ⟨fun a U g mk q => by obtain ⟨q0, q1, qK, qE⟩ := q; exact ⟨q0, q1, va_K.moved (u := U) (U := U.calling g mk a) (Vm.Alike.refl U.vm) qK, EVC.blind g mk a qE⟩, fun U hU hW => ⟨rfl, hU, va_K.moved hW.alike hK, hE.call hS hFc hU hW⟩⟩ rfl rfl hl.1 rfl (lv_room (Nat.le_of_ble_eq_true rfl)) dX11_dike_1 ⟨(Nat.le_of_ble_eq_true rfl), (Nat.le_of_ble_eq_true rfl)⟩) hS (fun q _ h => hFc q h) hFc (fun q _ h => hFc q h) (fun E ce q9 u t H locs ht hvm _ hw2 _ _ hS hce hcv hcl => ?_) (fun u t H locs ht hvm hw2 hB _ _ hS => ?_)
  · obtain ⟨hw2, hTx, hFx⟩ := hw2; rw [ht] at hTx hFx
    exact vx_out (fun x h => (hnt x h).elim) hlocks hce hcv hcl (fun t2 h2 hW => ⟨(), trivial, ⟨((fun h9 => (Or.inr (Or.inl h9))) hw2), by rw [h2]; exact hTx, by rw [h2]; exact hF.more hFx (by decide)⟩, hS.F h2⟩) hS.2.2 (by decide) (by decide)
  · obtain ⟨hT, hF1⟩ := hB
    rw [ht] at hT hF1
    have hF := hF.more hF1 (by decide)
    try dsimp only at hw2
    have hf3 := hw2
    refine lv_iload_n hx hb dX11_dike_4 rfl (lv_at hl 2 rfl) ?_
    have hFc := gA_free hG hA hS
    refine vx_callv (vx_runS (As := [.int p1]) (rest := []) ⟨hx, hb, hml, hown, hts⟩ (c_needSquare l hlt dC dI kA adK adV G H nC nS p1 hT (by omega) (by omega)) (va_cwS 1 hts (goodIn_app (goodIn_r _ [8, 9, 5] rfl (by decide +kernel)) (goodIn_ca (goodIn_r _ [1, 2, 3, 4, 5, 6, 7] rfl (by decide +kernel)) (bs2_in _ _))) rfl rfl rfl (by decide +kernel) ⟨(Nat.le_of_ble_eq_true rfl), (Nat.le_of_ble_eq_true rfl)⟩) ⟨fun a U g mk q => by obtain ⟨q0, q1, qK, qE⟩ := q; exact ⟨q0, q1, va_K.moved (u := U) (U := U.calling g mk a) (Vm.Alike.refl U.vm) qK, EVC.blind g mk a qE⟩, fun U hU hW => ⟨rfl, hU, va_K.moved hW.alike hK, hE.call hS hFc hU hW⟩⟩ rfl rfl hl.1 rfl (lv_room (Nat.le_of_ble_eq_true rfl)) dX11_dike_5 ⟨(Nat.le_of_ble_eq_true rfl), (Nat.le_of_ble_eq_true rfl)⟩) hS (fun q _ h => hFc q h) hFc (fun q _ h => hFc q h) (fun E ce q9 u t H locs ht hvm _ hw5 _ _ hS hce hcv hcl => ?_) (fun u t H locs ht hvm hw5 hB _ _ hS => ?_)
    · obtain ⟨hw5, hTx, hFx⟩ := hw5; rw [ht] at hTx hFx
      exact vx_out (fun x h => (hnt x h).elim) hlocks hce hcv hcl (fun t2 h2 hW => ⟨(), trivial, ⟨((fun h9 => (Or.inr (Or.inl h9))) hw5), by rw [h2]; exact hTx, by rw [h2]; exact hF.more hFx (by decide)⟩, hS.F h2⟩) hS.2.2 (by decide) (by decide)
    · obtain ⟨hT, hF1⟩ := hB
      rw [ht] at hT hF1
      have hF := hF.more hF1 (by decide)
      try dsimp only at hw5
      have hf6 := hw5
      refine lv_iload_n hx hb dX11_dike_8 rfl (lv_at hl 3 rfl) ?_
      have hFc := gA_free hG hA hS
      refine vx_callv (vx_runS (As := [.int p2]) (rest := []) ⟨hx, hb, hml, hown, hts⟩ (c_needSquare l hlt dC dI kA adK adV G H nC nS p2 hT (by omega) (by omega)) (va_cwS 1 hts (goodIn_app (goodIn_r _ [8, 9, 5] rfl (by decide +kernel)) (goodIn_ca (goodIn_r _ [1, 2, 3, 4, 5, 6, 7] rfl (by decide +kernel)) (bs2_in _ _))) rfl rfl rfl (by decide +kernel) ⟨(Nat.le_of_ble_eq_true rfl), (Nat.le_of_ble_eq_true rfl)⟩) ⟨fun a U g mk q => by obtain ⟨q0, q1, qK, qE⟩ := q; exact ⟨q0, q1, va_K.moved (u := U) (U := U.calling g mk a) (Vm.Alike.refl U.vm) qK, EVC.blind g mk a qE⟩, fun U hU hW => ⟨rfl, hU, va_K.moved hW.alike hK, hE.call hS hFc hU hW⟩⟩ rfl rfl hl.1 rfl (lv_room (Nat.le_of_ble_eq_true rfl)) dX11_dike_9 ⟨(Nat.le_of_ble_eq_true rfl), (Nat.le_of_ble_eq_true rfl)⟩) hS (fun q _ h => hFc q h) hFc (fun q _ h => hFc q h) (fun E ce q9 u t H locs ht hvm _ hw8 _ _ hS hce hcv hcl => ?_) (fun u t H locs ht hvm hw8 hB _ _ hS => ?_)
      · obtain ⟨hw8, hTx, hFx⟩ := hw8; rw [ht] at hTx hFx
        exact vx_out (fun x h => (hnt x h).elim) hlocks hce hcv hcl (fun t2 h2 hW => ⟨(), trivial, ⟨((fun h9 => (Or.inr (Or.inl h9))) hw8), by rw [h2]; exact hTx, by rw [h2]; exact hF.more hFx (by decide)⟩, hS.F h2⟩) hS.2.2 (by decide) (by decide)
      · obtain ⟨hT, hF1⟩ := hB
        rw [ht] at hT hF1
        have hF := hF.more hF1 (by decide)
        try dsimp only at hw8
        have hf9 := hw8
        refine lv_iload hx hb dX11_dike_12 (lv_at hl 4 rfl) ?_
        refine lv_iconst (v := 1) hx hb dX11_dike_14 (by decide) ?_
        refine lv_sipush (v := 1000) hx hb dX11_dike_15 (by decide) ?_
        have hFc := gA_free hG hA hS
        refine va_calli (va_runS (As := [.int p3, .int 1, .int 1000]) (rest := []) ⟨hx, hb, hml, hown, hts⟩ (c_within l dC dI kA adK adV G H nC nS p3 1 1000 hT (by omega) (by omega)) (va_cwS 3 hts (goodIn_app (goodIn_r _ [3, 4, 5] rfl (by decide +kernel)) (goodIn_ca (goodIn_r _ [2] rfl (by decide +kernel)) (bs2_in _ _))) rfl rfl rfl (by decide +kernel) ⟨(Nat.le_of_ble_eq_true rfl), (Nat.le_of_ble_eq_true rfl)⟩) ⟨fun a U g mk q => by obtain ⟨q0, q1, qK, qE⟩ := q; exact ⟨q0, q1, va_K.moved (u := U) (U := U.calling g mk a) (Vm.Alike.refl U.vm) qK, EVC.blind g mk a qE⟩, fun U hU hW => ⟨rfl, hU, va_K.moved hW.alike hK, hE.call hS hFc hU hW⟩⟩ rfl rfl hl.1 rfl (lv_room (Nat.le_of_ble_eq_true rfl)) dX11_dike_18 ⟨(Nat.le_of_ble_eq_true rfl), (Nat.le_of_ble_eq_true rfl)⟩) hS (fun q _ h => hFc q h) hFc (fun r10 u t H locs ht hvm hw11 hB _ _ hS => ?_)
        obtain ⟨hT, hF1⟩ := hB
        rw [ht] at hT hF1
        have hF := hF.more hF1 (by decide)
        try dsimp only at hw11
        obtain ⟨h12, hi13, hi14⟩ := hw11
        have hb15 : r10 = 0 ∨ r10 = 1 := bit_of ⟨by omega, by omega⟩
        rcases hb15 with rfl | rfl
        · have t16 : (1 : Int32).toInt = 1 := by decide
          have t17 : (1000 : Int32).toInt = 1000 := by decide
          have t18 : p3.toInt < (1 : Int32).toInt ∨ (1000 : Int32).toInt < p3.toInt := hi14 rfl
          have hFc := gA_free hG hA hS
          refine vx_callN (vx_runS (As := [.int 0]) (rest := []) ⟨hx, hb, hml, hown, hts⟩ (c_needNumbers0 l hlt dC dI kA adK adV G H nC nS hT (by omega) (by omega)) (va_cwS 1 hts (goodIn_app (goodIn_r _ [13, 14, 5] rfl (by decide +kernel)) (goodIn_ca (goodIn_r _ [10, 11, 12] rfl (by decide +kernel)) (bs2_in _ _))) rfl rfl rfl (by decide +kernel) ⟨(Nat.le_of_ble_eq_true rfl), (Nat.le_of_ble_eq_true rfl)⟩) ⟨fun a U g mk q => by obtain ⟨q0, q1, qK, qE⟩ := q; exact ⟨q0, q1, va_K.moved (u := U) (U := U.calling g mk a) (Vm.Alike.refl U.vm) qK, EVC.blind g mk a qE⟩, fun U hU hW => ⟨rfl, hU, va_K.moved hW.alike hK, hE.call hS hFc hU hW⟩⟩ rfl rfl hl.1 rfl (lv_room (Nat.le_of_ble_eq_true rfl)) dX11_dike_21 ⟨(Nat.le_of_ble_eq_true rfl), (Nat.le_of_ble_eq_true rfl)⟩) hS hFc (fun q _ h => hFc q h) (fun E ce q9 u t H locs ht hvm _ hw20 _ _ hS hce hcv hcl => ?_)
          obtain ⟨hw20, hTx, hFx⟩ := hw20; rw [ht] at hTx hFx
          exact vx_out (fun x h => (hnt x h).elim) hlocks hce hcv hcl (fun t2 h2 hW => ⟨(), trivial, ⟨((fun h9 => (Or.inl h9)) hw20), by rw [h2]; exact hTx, by rw [h2]; exact hF.more hFx (by decide)⟩, hS.F h2⟩) hS.2.2 (by decide) (by decide)
        · have t21 : (1 : Int32).toInt = 1 := by decide
          have t22 : (1000 : Int32).toInt = 1000 := by decide
          have t23 : (1 : Int32).toInt ≤ p3.toInt ∧ p3.toInt ≤ (1000 : Int32).toInt := hi13 rfl
          have hFc := gA_free hG hA hS
          refine vx_callv (vx_runS (As := [.int 1]) (rest := []) ⟨hx, hb, hml, hown, hts⟩ (c_needNumbers1 l hlt dC dI kA adK adV G H nC nS hT (by omega) (by omega)) (va_cwS 1 hts (goodIn_app (goodIn_r _ [13, 14, 5] rfl (by decide +kernel)) (goodIn_ca (goodIn_r _ [10] rfl (by decide +kernel)) (bs2_in _ _))) rfl rfl rfl (by decide +kernel) ⟨(Nat.le_of_ble_eq_true rfl), (Nat.le_of_ble_eq_true rfl)⟩) ⟨fun a U g mk q => by obtain ⟨q0, q1, qK, qE⟩ := q; exact ⟨q0, q1, va_K.moved (u := U) (U := U.calling g mk a) (Vm.Alike.refl U.vm) qK, EVC.blind g mk a qE⟩, fun U hU hW => ⟨rfl, hU, va_K.moved hW.alike hK, hE.call hS hFc hU hW⟩⟩ rfl rfl hl.1 rfl (lv_room (Nat.le_of_ble_eq_true rfl)) dX11_dike_21 ⟨(Nat.le_of_ble_eq_true rfl), (Nat.le_of_ble_eq_true rfl)⟩) hS (fun q _ h => hFc q h) hFc (fun q _ h => hFc q h) (fun E ce q9 u t H locs ht hvm _ hw25 _ _ hS hce hcv hcl => ?_) (fun u t H locs ht hvm hw25 hB _ _ hS => ?_)
          · obtain ⟨hw25, hTx, hFx⟩ := hw25; rw [ht] at hTx hFx
            exact vx_out (fun x h => (hnt x h).elim) hlocks hce hcv hcl (fun t2 h2 hW => ⟨(), trivial, ⟨((fun h9 => (Or.inl h9)) hw25), by rw [h2]; exact hTx, by rw [h2]; exact hF.more hFx (by decide)⟩, hS.F h2⟩) hS.2.2 (by decide) (by decide)
          · obtain ⟨hT, hF1⟩ := hB
            rw [ht] at hT hF1
            have hF := hF.more hF1 (by decide)
            try dsimp only at hw25
            refine lv_aload_n hx hb dX11_dike_24 rfl (lv_at hl 0 rfl) ?_
            obtain ⟨v9, m26, h9⟩ := gH_fld hT hr_o0 shc_14 (k := 1) (by decide)
            obtain ⟨b27, rfl, hg28⟩ := h9 _ rfl
            obtain ⟨v9, m29, h9⟩ := gH_fld hT hg28 shc_6 (k := 3) (by decide)
            obtain ⟨x30, rfl, gx30, kx30⟩ := h9 _ rfl
            have hFc := gA_free hG hA hS
            refine vx_callv (vx_runV (As := []) (rest := []) ⟨hx, hb, hml, hown, hts⟩ (c_needRoomForWork l hlt dC dI kA adK adV G H nC nS o0 b27 x30 hT hr_o0 m26 hg28 m29 (by have q8 := ti_all x30; omega) (by omega) (by omega)) (cwV 0 hts (goodIn_app (goodIn_r _ [19, 20, 21, 5] rfl (by decide +kernel)) (goodIn_ca (goodIn_r _ [15, 16, 17, 18] rfl (by decide +kernel)) (bs2_in _ _))) rfl rfl rfl (by decide +kernel) ⟨(Nat.le_of_ble_eq_true rfl), (Nat.le_of_ble_eq_true rfl)⟩) ⟨fun a U g mk q => by obtain ⟨q0, q1, qK, qE⟩ := q; exact ⟨q0, q1, va_K.moved (u := U) (U := U.calling g mk a) (Vm.Alike.refl U.vm) qK, EVC.blind g mk a qE⟩, gH_rc hK hT hr_o0 shc_14 rfl, fun U hU hW => ⟨rfl, hU, va_K.moved hW.alike hK, hE.call hS hFc hU hW⟩⟩ rfl rfl hl.1 rfl (lv_room (Nat.le_of_ble_eq_true rfl)) dX11_dike_25 ⟨(Nat.le_of_ble_eq_true rfl), (Nat.le_of_ble_eq_true rfl)⟩) hS (fun q _ h => hFc q h) hFc (fun q _ h => hFc q h) (fun E ce q9 u t H locs ht hvm _ hw32 _ _ hS hce hcv hcl => ?_) (fun u t H locs ht hvm hw32 hB _ _ hS => ?_)
            · obtain ⟨hw32, hTx, hFx⟩ := hw32; rw [ht] at hTx hFx
              exact vx_out (fun x h => (hnt x h).elim) hlocks hce hcv hcl (fun t2 h2 hW => ⟨(), trivial, ⟨((fun h9 => (Or.inr (Or.inr h9))) hw32), by rw [h2]; exact hTx, by rw [h2]; exact hF.more hFx (by decide)⟩, hS.F h2⟩) hS.2.2 (by decide) (by decide)
            · obtain ⟨hT, hF1⟩ := hB
              rw [ht] at hT hF1
              have m33 := (hF1.fld hr_o0 skc_14 (k := 1) (by decide) (by decide)).trans m26
              have m34 := (hF1.fld hg28 skc_6 (k := 3) (by decide) (by decide)).trans m29
              have hF := hF.more hF1 (by decide)
              try dsimp only at hw32
              have hf35 := hw32
              refine lv_aload_n hx hb dX11_dike_28 rfl (lv_at hl 0 rfl) ?_
              refine tw_getM (v := .ref b27) hx hb hts bF2_X11 hown hK hT hr_o0 shc_14 rfl 1 (by decide) (ht_at2 hts 15 rfl) (fun _ h9 => h9) m33 dX11_dike_29 ?_
              refine lv_iload_n hx hb dX11_dike_32 rfl (lv_at hl 1 rfl) ?_
              have hFc := gA_free hG hA hS
              refine va_calli (va_runV (As := [.int p0]) (rest := []) ⟨hx, hb, hml, hown, hts⟩ (c_isFreeLand l dC dI kA adK adV G H nC nS b27 p0 hT hg28 (by have q8 := ti_all p0; omega) (by omega) (by omega)) (cwV 1 hts (goodIn_app (goodIn_r _ [31, 32, 33, 30] rfl (by decide +kernel)) (goodIn_ca (goodIn_r _ [22, 23, 24, 25, 26, 27, 28, 29, 30] rfl (by decide +kernel)) (bs2_in _ _))) rfl rfl rfl (by decide +kernel) ⟨(Nat.le_of_ble_eq_true rfl), (Nat.le_of_ble_eq_true rfl)⟩) ⟨fun a U g mk q => by obtain ⟨q0, q1, qK, qE⟩ := q; exact ⟨q0, q1, va_K.moved (u := U) (U := U.calling g mk a) (Vm.Alike.refl U.vm) qK, EVC.blind g mk a qE⟩, gH_rc hK hT hg28 shc_6 rfl, fun U hU hW => ⟨rfl, hU, va_K.moved hW.alike hK, hE.call hS hFc hU hW⟩⟩ rfl rfl hl.1 rfl (lv_room (Nat.le_of_ble_eq_true rfl)) dX11_dike_33 ⟨(Nat.le_of_ble_eq_true rfl), (Nat.le_of_ble_eq_true rfl)⟩) hS (fun q _ h => hFc q h) hFc (fun r36 u t H locs ht hvm hw37 hB _ _ hS => ?_)
              obtain ⟨hT, hF1⟩ := hB
              rw [ht] at hT hF1
              have m38 := (hF1.fld hr_o0 skc_14 (k := 1) (by decide) (by decide)).trans m33
              have m39 := (hF1.fld hg28 skc_6 (k := 3) (by decide) (by decide)).trans m34
              have hF := hF.more hF1 (by decide)
              try dsimp only at hw37
              have h40 := hw37
              refine lv_if_eq (tgt := 75) hx hb dX11_dike_36 (by decide) (fun c41 => ?_) (fun c41 => ?_)
              · have t42 : r36.toInt = 0 := ti_eq c41 rfl (by decide)
                refine lv_iconst (v := (-1)) hx hb dX11_dike_75 (by decide) ?_
                exact vx_ret (W.iret (v := (-1)) hx hb hr (fun t ht hW => ⟨⟨(-1), (), rfl, (by exact (rg_t (a := (-1)) (by decide) (by first | decide | omega) (by first | decide | omega))), by (try dsimp only); rw [ht]; exact ⟨hT, hF⟩⟩, hS.F ht⟩) hS.2.2 dX11_dike_76)
              · have t43 : r36.toInt ≠ 0 := ti_ne c41 rfl (by decide)
                refine lv_aload_n hx hb dX11_dike_39 rfl (lv_at hl 0 rfl) ?_
                refine tw_getM (v := .ref b27) hx hb hts bF2_X11 hown hK hT hr_o0 shc_14 rfl 1 (by decide) (ht_at2 hts 15 rfl) (fun _ h9 => h9) m38 dX11_dike_40 ?_
                refine lv_iload_n hx hb dX11_dike_43 rfl (lv_at hl 1 rfl) ?_
                refine lv_iload_n hx hb dX11_dike_44 rfl (lv_at hl 2 rfl) ?_
                have hFc := gA_free hG hA hS
                refine va_calli (va_runV (As := [.int p0, .int p1]) (rest := []) ⟨hx, hb, hml, hown, hts⟩ (c_isSeaBeside l dC dI kA adK adV G H nC nS b27 p0 p1 hT hg28 (by have q8 := ti_all p0; omega) (by have q8 := ti_all p1; omega) (by omega) (by omega)) (cwV 2 hts (goodIn_app (goodIn_r _ [41, 42, 43, 30] rfl (by decide +kernel)) (goodIn_ca (goodIn_r _ [34, 23, 35, 36, 37, 38, 39, 5, 40] rfl (by decide +kernel)) (bs2_in _ _))) rfl rfl rfl (by decide +kernel) ⟨(Nat.le_of_ble_eq_true rfl), (Nat.le_of_ble_eq_true rfl)⟩) ⟨fun a U g mk q => by obtain ⟨q0, q1, qK, qE⟩ := q; exact ⟨q0, q1, va_K.moved (u := U) (U := U.calling g mk a) (Vm.Alike.refl U.vm) qK, EVC.blind g mk a qE⟩, gH_rc hK hT hg28 shc_6 rfl, fun U hU hW => ⟨rfl, hU, va_K.moved hW.alike hK, hE.call hS hFc hU hW⟩⟩ rfl rfl hl.1 rfl (lv_room (Nat.le_of_ble_eq_true rfl)) dX11_dike_45 ⟨(Nat.le_of_ble_eq_true rfl), (Nat.le_of_ble_eq_true rfl)⟩) hS (fun q _ h => hFc q h) hFc (fun r44 u t H locs ht hvm hw45 hB _ _ hS => ?_)
                obtain ⟨hT, hF1⟩ := hB
                rw [ht] at hT hF1
                have m46 := (hF1.fld hr_o0 skc_14 (k := 1) (by decide) (by decide)).trans m38
                have m47 := (hF1.fld hg28 skc_6 (k := 3) (by decide) (by decide)).trans m39
                have hF := hF.more hF1 (by decide)
                try dsimp only at hw45
                have h48 := hw45
                refine lv_if_eq (tgt := 75) hx hb dX11_dike_48 (by decide) (fun c49 => ?_) (fun c49 => ?_)
                · have t50 : r44.toInt = 0 := ti_eq c49 rfl (by decide)
                  refine lv_iconst (v := (-1)) hx hb dX11_dike_75 (by decide) ?_
                  exact vx_ret (W.iret (v := (-1)) hx hb hr (fun t ht hW => ⟨⟨(-1), (), rfl, (by exact (rg_t (a := (-1)) (by decide) (by first | decide | omega) (by first | decide | omega))), by (try dsimp only); rw [ht]; exact ⟨hT, hF⟩⟩, hS.F ht⟩) hS.2.2 dX11_dike_76)
                · have t51 : r44.toInt ≠ 0 := ti_ne c49 rfl (by decide)
                  refine lv_aload_n hx hb dX11_dike_51 rfl (lv_at hl 0 rfl) ?_
                  refine tw_getM (v := .ref b27) hx hb hts bF2_X11 hown hK hT hr_o0 shc_14 rfl 1 (by decide) (ht_at2 hts 15 rfl) (fun _ h9 => h9) m46 dX11_dike_52 ?_
                  refine tw_getN hx hb hts bF2_X3 hown hK hT hg28 shc_6 rfl 1 (by decide) (hE.nw 1 rfl) (fun _ h9 => h9) dX11_dike_55 (fun v9 m52 h9 => ?_)
                  obtain ⟨b53, rfl, hg54⟩ := h9 _ rfl
                  refine tw_getN hx hb hts bF2_X2 hown hK hT hg54 shc_5 rfl 0 (by decide) (hE.nw 2 rfl) (fun _ h9 => h9) dX11_dike_58 (fun v9 m55 h9 => ?_)
                  obtain ⟨b56, rfl, hg57⟩ := h9 _ rfl
                  refine lv_iload_n hx hb dX11_dike_61 rfl (lv_at hl 3 rfl) ?_
                  refine tw_zald (i := p2) hx hb hK hT hg57 shc_25 rfl (vin_t (a := p2.toInt) rfl (by omega) (by omega)) dX11_dike_62 (fun v9 m58 h9 => ?_)
                  obtain ⟨x59, rfl, gx59, kx59⟩ := h9
                  refine lv_if_eq (tgt := 75) hx hb dX11_dike_63 (by decide) (fun c60 => ?_) (fun c60 => ?_)
                  · have t61 : x59.toInt = 0 := ti_eq c60 rfl (by decide)
                    refine lv_iconst (v := (-1)) hx hb dX11_dike_75 (by decide) ?_
                    exact vx_ret (W.iret (v := (-1)) hx hb hr (fun t ht hW => ⟨⟨(-1), (), rfl, (by exact (rg_t (a := (-1)) (by decide) (by first | decide | omega) (by first | decide | omega))), by (try dsimp only); rw [ht]; exact ⟨hT, hF⟩⟩, hS.F ht⟩) hS.2.2 dX11_dike_76)
                  · have t62 : x59.toInt ≠ 0 := ti_ne c60 rfl (by decide)
                    refine lv_iload_n hx hb dX11_dike_66 rfl (lv_at hl 1 rfl) ?_
                    refine lv_iload_n hx hb dX11_dike_67 rfl (lv_at hl 3 rfl) ?_
                    have hFc := gA_free hG hA hS
                    refine va_calli (va_runS (As := [.int p0, .int p2]) (rest := []) ⟨hx, hb, hml, hown, hts⟩ (c_stepsApart l dC dI kA adK adV G H nC nS p0 p2 hT (by omega) (by omega)) (va_cwS 2 hts (goodIn_app (goodIn_r _ [44, 40, 5] rfl (by decide +kernel)) (goodIn_ca (goodIn_r _ [35, 36, 37, 38, 39] rfl (by decide +kernel)) (bs2_in _ _))) rfl rfl rfl (by decide +kernel) ⟨(Nat.le_of_ble_eq_true rfl), (Nat.le_of_ble_eq_true rfl)⟩) ⟨fun a U g mk q => by obtain ⟨q0, q1, qK, qE⟩ := q; exact ⟨q0, q1, va_K.moved (u := U) (U := U.calling g mk a) (Vm.Alike.refl U.vm) qK, EVC.blind g mk a qE⟩, fun U hU hW => ⟨rfl, hU, va_K.moved hW.alike hK, hE.call hS hFc hU hW⟩⟩ rfl rfl hl.1 rfl (lv_room (Nat.le_of_ble_eq_true rfl)) dX11_dike_68 ⟨(Nat.le_of_ble_eq_true rfl), (Nat.le_of_ble_eq_true rfl)⟩) hS (fun q _ h => hFc q h) hFc (fun r63 u t H locs ht hvm hw64 hB _ _ hS => ?_)
                    obtain ⟨hT, hF1⟩ := hB
                    rw [ht] at hT hF1
                    have m65 := (hF1.fld hr_o0 skc_14 (k := 1) (by decide) (by decide)).trans m46
                    have m66 := (hF1.fld hg28 skc_6 (k := 3) (by decide) (by decide)).trans m47
                    have hF := hF.more hF1 (by decide)
                    try dsimp only at hw64
                    refine lv_iconst (v := 1) hx hb dX11_dike_71 (by decide) ?_
                    have t70 : -2147483648 ≤ r63.toInt ∧ r63.toInt ≤ 2147483647 := ti_all r63
                    refine lv_icmp_eq (tgt := 77) hx hb dX11_dike_72 (by decide) (fun c71 => ?_) (fun c71 => ?_)
                    · have t72 : r63.toInt = 1 := ti_eq c71 rfl (by decide)
                      refine lv_aload_n hx hb dX11_dike_77 rfl (lv_at hl 0 rfl) ?_
                      refine tw_get hx hb hts bF2_X11 hown hK hT hr_o0 shc_14 rfl 2 (by decide) (ht_at2 hts 44 rfl) (fun _ h9 => h9) dX11_dike_78 (fun v9 m73 h9 => ?_)
                      obtain ⟨b74, rfl, hg75⟩ := h9 _ rfl
                      have hFc := gA_free hG hA hS
                      refine va_callv (va_runV (As := []) (rest := []) ⟨hx, hb, hml, hown, hts⟩ (c_forget l dC dI kA adK adV G H nC nS b74 hT hg75 (by omega) (by omega)) (cwV 0 hts (goodIn_app (goodIn_r _ [49, 50, 51, 52] rfl (by decide +kernel)) (goodIn_ca (goodIn_r _ [46, 47, 48] rfl (by decide +kernel)) (bs2_in _ _))) rfl rfl rfl (by decide +kernel) ⟨(Nat.le_of_ble_eq_true rfl), (Nat.le_of_ble_eq_true rfl)⟩) ⟨fun a U g mk q => by obtain ⟨q0, q1, qK, qE⟩ := q; exact ⟨q0, q1, va_K.moved (u := U) (U := U.calling g mk a) (Vm.Alike.refl U.vm) qK, EVC.blind g mk a qE⟩, gH_rc hK hT hg75 shc_9 rfl, fun U hU hW => ⟨rfl, hU, va_K.moved hW.alike hK, hE.call hS hFc hU hW⟩⟩ rfl rfl hl.1 rfl (lv_room (Nat.le_of_ble_eq_true rfl)) dX11_dike_81 ⟨(Nat.le_of_ble_eq_true rfl), (Nat.le_of_ble_eq_true rfl)⟩) hS (fun q _ h => hFc q h) hFc (fun u t H locs ht hvm hw77 hB _ _ hS => ?_)
                      obtain ⟨hT, hF1⟩ := hB
                      rw [ht] at hT hF1
                      have m78 := (hF1.fld hr_o0 skc_14 (k := 1) (by decide) (by decide)).trans m65
                      have m79 := (hF1.fld hg28 skc_6 (k := 3) (by decide) (by decide)).trans m66
                      have hF := hF.more hF1 (by decide)
                      try dsimp only at hw77
                      refine lv_aload_n hx hb dX11_dike_84 rfl (lv_at hl 0 rfl) ?_
                      refine tw_getM (v := .ref b27) hx hb hts bF2_X11 hown hK hT hr_o0 shc_14 rfl 1 (by decide) (ht_at2 hts 15 rfl) (fun _ h9 => h9) m78 dX11_dike_85 ?_
                      refine lv_iconst (v := 0) hx hb dX11_dike_88 (by decide) ?_
                      refine lv_iload_n hx hb dX11_dike_89 rfl (lv_at hl 1 rfl) ?_
                      refine lv_iload_n hx hb dX11_dike_90 rfl (lv_at hl 3 rfl) ?_
                      refine lv_iload hx hb dX11_dike_91 (lv_at hl 4 rfl) ?_
                      have hFc := gA_free hG hA hS
                      refine va_calli (va_runV (As := [.int 0, .int p0, .int p2, .int p3]) (rest := []) ⟨hx, hb, hml, hown, hts⟩ (c_build l dC dI kA adK adV G H nC nS b27 0 p0 p2 p3 x30 hT hg28 m79 (by have q8 := ti_all p0; omega) (by have q8 := ti_all p2; omega) (by have q8 := ti_all x30; omega) (by omega) (by omega)) (cwV 4 hts (goodIn_app (goodIn_r _ [69, 70, 71, 30] rfl (by decide +kernel)) (goodIn_ca (goodIn_r _ [53, 26, 25, 54, 55, 56, 57, 58, 59, 60, 61, 62, 63, 64, 65, 66, 67, 68] rfl (by decide +kernel)) (bs2_in _ _))) rfl rfl rfl (by decide +kernel) ⟨(Nat.le_of_ble_eq_true rfl), (Nat.le_of_ble_eq_true rfl)⟩) ⟨fun a U g mk q => by obtain ⟨q0, q1, qK, qE⟩ := q; exact ⟨q0, q1, va_K.moved (u := U) (U := U.calling g mk a) (Vm.Alike.refl U.vm) qK, EVC.blind g mk a qE⟩, gH_rc hK hT hg28 shc_6 rfl, fun U hU hW => ⟨rfl, hU, va_K.moved hW.alike hK, hE.call hS hFc hU hW⟩⟩ rfl rfl hl.1 rfl (lv_room (Nat.le_of_ble_eq_true rfl)) dX11_dike_93 ⟨(Nat.le_of_ble_eq_true rfl), (Nat.le_of_ble_eq_true rfl)⟩) hS (fun q _ h => hFc q h) hFc (fun r84 u t H locs ht hvm hw85 hB _ _ hS => ?_)
                      obtain ⟨hT, hF1⟩ := hB
                      rw [ht] at hT hF1
                      have hF := hF.more hF1 (by decide)
                      try dsimp only at hw85
                      have h92 := hw85
                      exact vx_ret (W.iret (v := r84) hx hb hr (fun t ht hW => ⟨⟨r84, (), rfl, (by exact (by have q8 := ti_all r84; omega)), by (try dsimp only); rw [ht]; exact ⟨hT, hF⟩⟩, hS.F ht⟩) hS.2.2 dX11_dike_96)
                    · have t93 : r63.toInt ≠ 1 := ti_ne c71 rfl (by decide)
                      refine lv_iconst (v := (-1)) hx hb dX11_dike_75 (by decide) ?_
                      exact vx_ret (W.iret (v := (-1)) hx hb hr (fun t ht hW => ⟨⟨(-1), (), rfl, (by exact (rg_t (a := (-1)) (by decide) (by first | decide | omega) (by first | decide | omega))), by (try dsimp only); rw [ht]; exact ⟨hT, hF⟩⟩, hS.F ht⟩) hS.2.2 dX11_dike_76)
def w_c_layer : List Cond := .code yX11_layer cX11_layer 5 (some .int) :: (HAppend.hAppend (α := List Cond) (β := List Cond) (γ := List Cond) [.code yX11_workOf cX11_workOf 2 (some (.object "SeaLand$Work")), .fieldLink RX11 16 "SeaLand" "lake" "LSeaLand$Lake;", .code yX11_within cX11_within 3 (some .boolean), .methodLink RX11 58 yX11_within, .static yX11_within, .initialized RX11, .classLink RX11 557 "java/lang/IndexOutOfBoundsException", .initialized "java/lang/IndexOutOfBoundsException", .methodLink RX11 167 yX11_workOf, .instanceMethod yX11_workOf, .selects RX11 yX11_workOf yX11_workOf, .code yX11_needNumbers cX11_needNumbers 1 none, .classLink RX11 547 "java/lang/IllegalArgumentException", .initialized "java/lang/IllegalArgumentException", .methodLink RX11 62 yX11_needNumbers, .static yX11_needNumbers, .code yX10_isBank cX10_isBank 1 (some .boolean), .fieldLink RX10 18 "SeaLand$Work" "kind" "I", .methodLink RX11 171 yX10_isBank, .instanceMethod yX10_isBank, .selects RX10 yX10_isBank yX10_isBank, .initialized RX10, .code yX11_needKind cX11_needKind 1 none, .classLink RX11 552 "java/lang/ClassCastException", .initialized "java/lang/ClassCastException", .methodLink RX11 177 yX11_needKind, .static yX11_needKind, .code yX10_takesLayer cX10_takesLayer 1 (some .boolean), .fieldLink RX10 34 "SeaLand$Work" "layers" "I", .methodLink RX11 180 yX10_takesLayer, .instanceMethod yX10_takesLayer, .selects RX10 yX10_takesLayer yX10_takesLayer, .fieldLink RX11 23 "SeaLand" "rows" "LSeaLand$Rows;", .code yX6_forget cX6_forget 1 none, .fieldLink RX6 18 "SeaLand$Rows" "kept" "I", .fieldLink RX6 22 "SeaLand$Rows" "oldest" "I", .methodLink RX11 76 yX6_forget, .instanceMethod yX6_forget, .selects RX6 yX6_forget yX6_forget, .initialized RX6, .code yX10_addLayer cX10_addLayer 3 none, .fieldLink RX10 9 "SeaLand$Work" "thick" "[I", .fieldLink RX10 15 "SeaLand$Work" "clay" "[I", .methodLink RX11 183 yX10_addLayer, .instanceMethod yX10_addLayer, .selects RX10 yX10_addLayer yX10_addLayer] bs2)
set_option maxHeartbeats 4000000 in
set_option maxRecDepth 100000 in
theorem c_layer (l : Launch) (hlt : l.stackTraces = false) (dC : Nat → ClassId) (dI : Nat → Nat → Nat) (kA : Nat → ClassId) (adK adV : Nat → Nat) (G : gT) (H0 : Heap) (nC nS : Int) (o0 : Nat) (p0 : Int32) (p1 : Int32) (p2 : Int32)  (hT : gH (dC, dI) kA (SHc nC nS) G H0) (hr_o0 : G o0 = some 14) (hgC : 0 ≤ nC ∧ nC ≤ 40) (hgS : 0 ≤ nS ∧ nS ≤ 60) : vx_Met l yX11_layer w_c_layer ({ frames := 7, cells := 2, slots := 12, locals := 121 }) (va_Pc [.ref o0, .int p0, .int p1, .int p2] (fun U => U.heap = H0 ∧ va_K (dC, dI) vwCl (tyl kA) U ∧ EVC adK adV (gA G H0.size) U U.heap)) (va_Qi (fun (r : Int32) (u : Unit) => (-1 ≤ r.toInt ∧ r.toInt ≤ 6)) (fun (_ : Unit) (t : State) => gH (dC, dI) kA (SHc nC nS) G t.heap ∧ gF (dC, dI) SKc G ([(9, 2), (9, 3), (13, 7), (36, 0), (37, 0)] : List (Nat × Nat)) H0 t.heap) (gA G H0.size)) (vx_X (fun _ : Unit => True) (fun E _ t => (E = "java/lang/ClassCastException" ∨ E = "java/lang/IllegalArgumentException" ∨ E = "java/lang/IndexOutOfBoundsException") ∧ gH (dC, dI) kA (SHc nC nS) G t.heap ∧ gF (dC, dI) SKc G ([(9, 2), (9, 3), (13, 7), (36, 0), (37, 0)] : List (Nat × Nat)) H0 t.heap) (gA G H0.size)) 2 12 (gA G H0.size) := by
  refine vx_ofW (cc := cX11_layer) (maxL := 5) (ret := (some .int)) (by decide) rfl ?_
  intro p e s m args below meth c s₁ B hml hnt hv
  obtain ⟨rfl, hH0, hK, hE⟩ := hv
  have hx := B.exec
  have hb := B.bytes
  have hr := B.returns
  have hts := atoms_spec (ws := w_c_layer) B.pre
  have hown : s.vm.findClass RX11 = some m.cls := findClass_of_methodNamed B.named
  have hlocks := B.notSynchronized
  subst hH0
  generalize hAe : gA G s.heap.size = A at hE ⊢
  have hA : ∀ q : Nat, s.heap.size ≤ q → A q := fun q h => by rw [← hAe]; exact Or.inr h
  have hG := gA_of hAe
  have hS : va_S A s.heap s.heap [] := va_S.rf
  have hF : gF (dC, dI) SKc G ([(9, 2), (9, 3), (13, 7), (36, 0), (37, 0)] : List (Nat × Nat)) s.heap s.heap := gF.rf
  have hl := lv_entry ([.ref o0, .int p0, .int p1, .int p2]) (n := 5) (Nat.le_of_ble_eq_true rfl)
  rw [lg_entry_eq]
  generalize (lg_sl ([.ref o0, .int p0, .int p1, .int p2]) ++ List.replicate (5 - (lg_sl ([.ref o0, .int p0, .int p1, .int p2])).length) Slot.unset).toArray = ls at hl ⊢
  have hl : lv_has ls 5 [(0, .ref o0), (1, .int p0), (2, .int p1), (3, .int p2)] := hl
  refine lv_aload_n hx hb dX11_layer_0 rfl (lv_at hl 0 rfl) ?_
  refine lv_iload_n hx hb dX11_layer_1 rfl (lv_at hl 1 rfl) ?_
  have hFc := gA_free hG hA hS
  refine vx_callr (vx_runV (As := [.int p0]) (rest := []) ⟨hx, hb, hml, hown, hts⟩ (c_workOf l hlt dC dI kA adK adV G s.heap nC nS o0 p0 hT hr_o0 (by omega) (by omega)) (cwV 1 hts (goodIn_app (goodIn_r _ [9, 10, 11, 6] rfl (by decide +kernel)) (goodIn_ca (goodIn_r _ [1, 2, 3, 4, 5, 6, 7, 8] rfl (by decide +kernel)) (bs2_in _ _))) rfl rfl rfl (by decide +kernel) ⟨(Nat.le_of_ble_eq_true rfl), (Nat.le_of_ble_eq_true rfl)⟩) ⟨fun a U g mk q => by obtain ⟨q0, q1, qK, qE⟩ := q; exact ⟨q0, q1, va_K.moved (u := U) (U := U.calling g mk a) (Vm.Alike.refl U.vm) qK, EVC.blind g mk a qE⟩, gH_rc hK hT hr_o0 shc_14 rfl, fun U hU hW => ⟨rfl, hU, va_K.moved hW.alike hK, hE.call hS hFc hU hW⟩⟩ rfl rfl hl.1 rfl (lv_room (Nat.le_of_ble_eq_true rfl)) dX11_layer_2 ⟨(Nat.le_of_ble_eq_true rfl), (Nat.le_of_ble_eq_true rfl)⟩) hS (fun q _ h => hFc q h) hFc (fun q _ h => hFc q h) (fun E ce q9 u t H locs ht hvm _ hw2 _ _ hS hce hcv hcl => ?_) (fun u r1 t H locs ht hvm hw2 hB _ _ hS => ?_)
  · obtain ⟨hw2, hTx, hFx⟩ := hw2; rw [ht] at hTx hFx
    exact vx_out (fun x h => (hnt x h).elim) hlocks hce hcv hcl (fun t2 h2 hW => ⟨(), trivial, ⟨((fun h9 => (Or.inr (Or.inr h9))) hw2), by rw [h2]; exact hTx, by rw [h2]; exact hF.more hFx (by decide)⟩, hS.F h2⟩) hS.2.2 (by decide) (by decide)
  · obtain ⟨hr9, hT, hF1⟩ := hB
    rw [ht] at hT hF1
    have hF := hF.more hF1 (by decide)
    have hg3 := hr9
    try dsimp only at hw2
    refine lv_astore (lv' := [(4, .ref r1), (0, .ref o0), (1, .int p0), (2, .int p1), (3, .int p2)]) hx hb dX11_layer_5 hl (by decide) rfl (fun ls hl => ?_)
    refine lv_iload_n hx hb dX11_layer_7 rfl (lv_at hl 3 rfl) ?_
    refine lv_iconst (v := 1) hx hb dX11_layer_8 (by decide) ?_
    refine lv_sipush (v := 300) hx hb dX11_layer_9 (by decide) ?_
    have hFc := gA_free hG hA hS
    refine va_calli (va_runS (As := [.int p1, .int 1, .int 300]) (rest := []) ⟨hx, hb, hml, hown, hts⟩ (c_within l dC dI kA adK adV G H nC nS p1 1 300 hT (by omega) (by omega)) (va_cwS 3 hts (goodIn_app (goodIn_r _ [4, 5, 6] rfl (by decide +kernel)) (goodIn_ca (goodIn_r _ [3] rfl (by decide +kernel)) (bs2_in _ _))) rfl rfl rfl (by decide +kernel) ⟨(Nat.le_of_ble_eq_true rfl), (Nat.le_of_ble_eq_true rfl)⟩) ⟨fun a U g mk q => by obtain ⟨q0, q1, qK, qE⟩ := q; exact ⟨q0, q1, va_K.moved (u := U) (U := U.calling g mk a) (Vm.Alike.refl U.vm) qK, EVC.blind g mk a qE⟩, fun U hU hW => ⟨rfl, hU, va_K.moved hW.alike hK, hE.call hS hFc hU hW⟩⟩ rfl rfl hl.1 rfl (lv_room (Nat.le_of_ble_eq_true rfl)) dX11_layer_12 ⟨(Nat.le_of_ble_eq_true rfl), (Nat.le_of_ble_eq_true rfl)⟩) hS (fun q _ h => hFc q h) hFc (fun r4 u t H locs ht hvm hw5 hB _ _ hS => ?_)
    obtain ⟨hT, hF1⟩ := hB
    rw [ht] at hT hF1
    have hF := hF.more hF1 (by decide)
    try dsimp only at hw5
    obtain ⟨h6, hi7, hi8⟩ := hw5
    refine lv_if_eq (tgt := 32) hx hb dX11_layer_15 (by decide) (fun c9 => ?_) (fun c9 => ?_)
    · have t10 : r4.toInt = 0 := ti_eq c9 rfl (by decide)
      have t11 : (1 : Int32).toInt = 1 := by decide
      have t12 : (300 : Int32).toInt = 300 := by decide
      have t13 : p1.toInt < (1 : Int32).toInt ∨ (300 : Int32).toInt < p1.toInt := hi8 c9
      refine lv_iconst (v := 0) hx hb dX11_layer_32 (by decide) ?_
      have hFc := gA_free hG hA hS
      refine vx_callN (vx_runS (As := [.int 0]) (rest := []) ⟨hx, hb, hml, hown, hts⟩ (c_needNumbers0 l hlt dC dI kA adK adV G H nC nS hT (by omega) (by omega)) (va_cwS 1 hts (goodIn_app (goodIn_r _ [15, 16, 6] rfl (by decide +kernel)) (goodIn_ca (goodIn_r _ [12, 13, 14] rfl (by decide +kernel)) (bs2_in _ _))) rfl rfl rfl (by decide +kernel) ⟨(Nat.le_of_ble_eq_true rfl), (Nat.le_of_ble_eq_true rfl)⟩) ⟨fun a U g mk q => by obtain ⟨q0, q1, qK, qE⟩ := q; exact ⟨q0, q1, va_K.moved (u := U) (U := U.calling g mk a) (Vm.Alike.refl U.vm) qK, EVC.blind g mk a qE⟩, fun U hU hW => ⟨rfl, hU, va_K.moved hW.alike hK, hE.call hS hFc hU hW⟩⟩ rfl rfl hl.1 rfl (lv_room (Nat.le_of_ble_eq_true rfl)) dX11_layer_33 ⟨(Nat.le_of_ble_eq_true rfl), (Nat.le_of_ble_eq_true rfl)⟩) hS hFc (fun q _ h => hFc q h) (fun E ce q9 u t H locs ht hvm _ hw15 _ _ hS hce hcv hcl => ?_)
      obtain ⟨hw15, hTx, hFx⟩ := hw15; rw [ht] at hTx hFx
      exact vx_out (fun x h => (hnt x h).elim) hlocks hce hcv hcl (fun t2 h2 hW => ⟨(), trivial, ⟨((fun h9 => (Or.inr (Or.inl h9))) hw15), by rw [h2]; exact hTx, by rw [h2]; exact hF.more hFx (by decide)⟩, hS.F h2⟩) hS.2.2 (by decide) (by decide)
    · have t16 : r4.toInt ≠ 0 := ti_ne c9 rfl (by decide)
      have t17 : (1 : Int32).toInt = 1 := by decide
      have t18 : (300 : Int32).toInt = 300 := by decide
      have t19 : (1 : Int32).toInt ≤ p1.toInt ∧ p1.toInt ≤ (300 : Int32).toInt := hi7 ((bit_of ⟨by omega, by omega⟩).resolve_left c9)
      refine lv_iload_n hx hb dX11_layer_18 rfl (lv_at hl 4 rfl) ?_
      refine lv_iconst (v := 0) hx hb dX11_layer_19 (by decide) ?_
      refine lv_bipush (v := 9) hx hb dX11_layer_20 (by decide) ?_
      have hFc := gA_free hG hA hS
      refine va_calli (va_runS (As := [.int p2, .int 0, .int 9]) (rest := []) ⟨hx, hb, hml, hown, hts⟩ (c_within l dC dI kA adK adV G H nC nS p2 0 9 hT (by omega) (by omega)) (va_cwS 3 hts (goodIn_app (goodIn_r _ [4, 5, 6] rfl (by decide +kernel)) (goodIn_ca (goodIn_r _ [3] rfl (by decide +kernel)) (bs2_in _ _))) rfl rfl rfl (by decide +kernel) ⟨(Nat.le_of_ble_eq_true rfl), (Nat.le_of_ble_eq_true rfl)⟩) ⟨fun a U g mk q => by obtain ⟨q0, q1, qK, qE⟩ := q; exact ⟨q0, q1, va_K.moved (u := U) (U := U.calling g mk a) (Vm.Alike.refl U.vm) qK, EVC.blind g mk a qE⟩, fun U hU hW => ⟨rfl, hU, va_K.moved hW.alike hK, hE.call hS hFc hU hW⟩⟩ rfl rfl hl.1 rfl (lv_room (Nat.le_of_ble_eq_true rfl)) dX11_layer_22 ⟨(Nat.le_of_ble_eq_true rfl), (Nat.le_of_ble_eq_true rfl)⟩) hS (fun q _ h => hFc q h) hFc (fun r20 u t H locs ht hvm hw21 hB _ _ hS => ?_)
      obtain ⟨hT, hF1⟩ := hB
      rw [ht] at hT hF1
      have hF := hF.more hF1 (by decide)
      try dsimp only at hw21
      obtain ⟨h22, hi23, hi24⟩ := hw21
      refine lv_if_eq (tgt := 32) hx hb dX11_layer_25 (by decide) (fun c25 => ?_) (fun c25 => ?_)
      · have t26 : r20.toInt = 0 := ti_eq c25 rfl (by decide)
        have t27 : (0 : Int32).toInt = 0 := by decide
        have t28 : (9 : Int32).toInt = 9 := by decide
        have t29 : p2.toInt < (0 : Int32).toInt ∨ (9 : Int32).toInt < p2.toInt := hi24 c25
        refine lv_iconst (v := 0) hx hb dX11_layer_32 (by decide) ?_
        have hFc := gA_free hG hA hS
        refine vx_callN (vx_runS (As := [.int 0]) (rest := []) ⟨hx, hb, hml, hown, hts⟩ (c_needNumbers0 l hlt dC dI kA adK adV G H nC nS hT (by omega) (by omega)) (va_cwS 1 hts (goodIn_app (goodIn_r _ [15, 16, 6] rfl (by decide +kernel)) (goodIn_ca (goodIn_r _ [12, 13, 14] rfl (by decide +kernel)) (bs2_in _ _))) rfl rfl rfl (by decide +kernel) ⟨(Nat.le_of_ble_eq_true rfl), (Nat.le_of_ble_eq_true rfl)⟩) ⟨fun a U g mk q => by obtain ⟨q0, q1, qK, qE⟩ := q; exact ⟨q0, q1, va_K.moved (u := U) (U := U.calling g mk a) (Vm.Alike.refl U.vm) qK, EVC.blind g mk a qE⟩, fun U hU hW => ⟨rfl, hU, va_K.moved hW.alike hK, hE.call hS hFc hU hW⟩⟩ rfl rfl hl.1 rfl (lv_room (Nat.le_of_ble_eq_true rfl)) dX11_layer_33 ⟨(Nat.le_of_ble_eq_true rfl), (Nat.le_of_ble_eq_true rfl)⟩) hS hFc (fun q _ h => hFc q h) (fun E ce q9 u t H locs ht hvm _ hw31 _ _ hS hce hcv hcl => ?_)
        obtain ⟨hw31, hTx, hFx⟩ := hw31; rw [ht] at hTx hFx
        exact vx_out (fun x h => (hnt x h).elim) hlocks hce hcv hcl (fun t2 h2 hW => ⟨(), trivial, ⟨((fun h9 => (Or.inr (Or.inl h9))) hw31), by rw [h2]; exact hTx, by rw [h2]; exact hF.more hFx (by decide)⟩, hS.F h2⟩) hS.2.2 (by decide) (by decide)
      · have t32 : r20.toInt ≠ 0 := ti_ne c25 rfl (by decide)
        have t33 : (0 : Int32).toInt = 0 := by decide
        have t34 : (9 : Int32).toInt = 9 := by decide
        have t35 : (0 : Int32).toInt ≤ p2.toInt ∧ p2.toInt ≤ (9 : Int32).toInt := hi23 ((bit_of ⟨by omega, by omega⟩).resolve_left c25)
        refine lv_iconst (v := 1) hx hb dX11_layer_28 (by decide) ?_
        refine lv_goto (tgt := 33) hx hb dX11_layer_29 (by decide) ?_
        have hFc := gA_free hG hA hS
        refine vx_callv (vx_runS (As := [.int 1]) (rest := []) ⟨hx, hb, hml, hown, hts⟩ (c_needNumbers1 l hlt dC dI kA adK adV G H nC nS hT (by omega) (by omega)) (va_cwS 1 hts (goodIn_app (goodIn_r _ [15, 16, 6] rfl (by decide +kernel)) (goodIn_ca (goodIn_r _ [12] rfl (by decide +kernel)) (bs2_in _ _))) rfl rfl rfl (by decide +kernel) ⟨(Nat.le_of_ble_eq_true rfl), (Nat.le_of_ble_eq_true rfl)⟩) ⟨fun a U g mk q => by obtain ⟨q0, q1, qK, qE⟩ := q; exact ⟨q0, q1, va_K.moved (u := U) (U := U.calling g mk a) (Vm.Alike.refl U.vm) qK, EVC.blind g mk a qE⟩, fun U hU hW => ⟨rfl, hU, va_K.moved hW.alike hK, hE.call hS hFc hU hW⟩⟩ rfl rfl hl.1 rfl (lv_room (Nat.le_of_ble_eq_true rfl)) dX11_layer_33 ⟨(Nat.le_of_ble_eq_true rfl), (Nat.le_of_ble_eq_true rfl)⟩) hS (fun q _ h => hFc q h) hFc (fun q _ h => hFc q h) (fun E ce q9 u t H locs ht hvm _ hw37 _ _ hS hce hcv hcl => ?_) (fun u t H locs ht hvm hw37 hB _ _ hS => ?_)
        · obtain ⟨hw37, hTx, hFx⟩ := hw37; rw [ht] at hTx hFx
          exact vx_out (fun x h => (hnt x h).elim) hlocks hce hcv hcl (fun t2 h2 hW => ⟨(), trivial, ⟨((fun h9 => (Or.inr (Or.inl h9))) hw37), by rw [h2]; exact hTx, by rw [h2]; exact hF.more hFx (by decide)⟩, hS.F h2⟩) hS.2.2 (by decide) (by decide)
        · obtain ⟨hT, hF1⟩ := hB
          rw [ht] at hT hF1
          have hF := hF.more hF1 (by decide)
          try dsimp only at hw37
          refine lv_aload hx hb dX11_layer_36 (lv_at hl 0 rfl) ?_
          have hFc := gA_free hG hA hS
          refine va_calli (va_runV (As := []) (rest := []) ⟨hx, hb, hml, hown, hts⟩ (c_isBank l dC dI kA adK adV G H nC nS r1 hT hg3 (by omega) (by omega)) (cwV 0 hts (goodIn_app (goodIn_r _ [19, 20, 21, 22] rfl (by decide +kernel)) (goodIn_ca (goodIn_r _ [17, 18] rfl (by decide +kernel)) (bs2_in _ _))) rfl rfl rfl (by decide +kernel) ⟨(Nat.le_of_ble_eq_true rfl), (Nat.le_of_ble_eq_true rfl)⟩) ⟨fun a U g mk q => by obtain ⟨q0, q1, qK, qE⟩ := q; exact ⟨q0, q1, va_K.moved (u := U) (U := U.calling g mk a) (Vm.Alike.refl U.vm) qK, EVC.blind g mk a qE⟩, gH_rc hK hT hg3 shc_13 rfl, fun U hU hW => ⟨rfl, hU, va_K.moved hW.alike hK, hE.call hS hFc hU hW⟩⟩ rfl rfl hl.1 rfl (lv_room (Nat.le_of_ble_eq_true rfl)) dX11_layer_38 ⟨(Nat.le_of_ble_eq_true rfl), (Nat.le_of_ble_eq_true rfl)⟩) hS (fun q _ h => hFc q h) hFc (fun r38 u t H locs ht hvm hw39 hB _ _ hS => ?_)
          obtain ⟨hT, hF1⟩ := hB
          rw [ht] at hT hF1
          have hF := hF.more hF1 (by decide)
          try dsimp only at hw39
          have h40 := hw39
          have hb41 : r38 = 0 ∨ r38 = 1 := bit_of ⟨by omega, by omega⟩
          rcases hb41 with rfl | rfl
          · have hFc := gA_free hG hA hS
            refine vx_callN (vx_runS (As := [.int 0]) (rest := []) ⟨hx, hb, hml, hown, hts⟩ (c_needKind0 l hlt dC dI kA adK adV G H nC nS hT (by omega) (by omega)) (va_cwS 1 hts (goodIn_app (goodIn_r _ [26, 27, 6] rfl (by decide +kernel)) (goodIn_ca (goodIn_r _ [23, 24, 25] rfl (by decide +kernel)) (bs2_in _ _))) rfl rfl rfl (by decide +kernel) ⟨(Nat.le_of_ble_eq_true rfl), (Nat.le_of_ble_eq_true rfl)⟩) ⟨fun a U g mk q => by obtain ⟨q0, q1, qK, qE⟩ := q; exact ⟨q0, q1, va_K.moved (u := U) (U := U.calling g mk a) (Vm.Alike.refl U.vm) qK, EVC.blind g mk a qE⟩, fun U hU hW => ⟨rfl, hU, va_K.moved hW.alike hK, hE.call hS hFc hU hW⟩⟩ rfl rfl hl.1 rfl (lv_room (Nat.le_of_ble_eq_true rfl)) dX11_layer_41 ⟨(Nat.le_of_ble_eq_true rfl), (Nat.le_of_ble_eq_true rfl)⟩) hS hFc (fun q _ h => hFc q h) (fun E ce q9 u t H locs ht hvm _ hw43 _ _ hS hce hcv hcl => ?_)
            obtain ⟨hw43, hTx, hFx⟩ := hw43; rw [ht] at hTx hFx
            exact vx_out (fun x h => (hnt x h).elim) hlocks hce hcv hcl (fun t2 h2 hW => ⟨(), trivial, ⟨((fun h9 => (Or.inl h9)) hw43), by rw [h2]; exact hTx, by rw [h2]; exact hF.more hFx (by decide)⟩, hS.F h2⟩) hS.2.2 (by decide) (by decide)
          · have hFc := gA_free hG hA hS
            refine vx_callv (vx_runS (As := [.int 1]) (rest := []) ⟨hx, hb, hml, hown, hts⟩ (c_needKind1 l hlt dC dI kA adK adV G H nC nS hT (by omega) (by omega)) (va_cwS 1 hts (goodIn_app (goodIn_r _ [26, 27, 6] rfl (by decide +kernel)) (goodIn_ca (goodIn_r _ [23] rfl (by decide +kernel)) (bs2_in _ _))) rfl rfl rfl (by decide +kernel) ⟨(Nat.le_of_ble_eq_true rfl), (Nat.le_of_ble_eq_true rfl)⟩) ⟨fun a U g mk q => by obtain ⟨q0, q1, qK, qE⟩ := q; exact ⟨q0, q1, va_K.moved (u := U) (U := U.calling g mk a) (Vm.Alike.refl U.vm) qK, EVC.blind g mk a qE⟩, fun U hU hW => ⟨rfl, hU, va_K.moved hW.alike hK, hE.call hS hFc hU hW⟩⟩ rfl rfl hl.1 rfl (lv_room (Nat.le_of_ble_eq_true rfl)) dX11_layer_41 ⟨(Nat.le_of_ble_eq_true rfl), (Nat.le_of_ble_eq_true rfl)⟩) hS (fun q _ h => hFc q h) hFc (fun q _ h => hFc q h) (fun E ce q9 u t H locs ht hvm _ hw45 _ _ hS hce hcv hcl => ?_) (fun u t H locs ht hvm hw45 hB _ _ hS => ?_)
            · obtain ⟨hw45, hTx, hFx⟩ := hw45; rw [ht] at hTx hFx
              exact vx_out (fun x h => (hnt x h).elim) hlocks hce hcv hcl (fun t2 h2 hW => ⟨(), trivial, ⟨((fun h9 => (Or.inl h9)) hw45), by rw [h2]; exact hTx, by rw [h2]; exact hF.more hFx (by decide)⟩, hS.F h2⟩) hS.2.2 (by decide) (by decide)
            · obtain ⟨hT, hF1⟩ := hB
              rw [ht] at hT hF1
              have hF := hF.more hF1 (by decide)
              try dsimp only at hw45
              refine lv_aload hx hb dX11_layer_44 (lv_at hl 0 rfl) ?_
              obtain ⟨v9, m46, h9⟩ := gH_fld hT hg3 shc_13 (k := 7) (by decide)
              obtain ⟨x47, rfl, gx47, kx47⟩ := h9 _ rfl
              have hFc := gA_free hG hA hS
              refine va_calli (va_runV (As := []) (rest := []) ⟨hx, hb, hml, hown, hts⟩ (c_takesLayer l dC dI kA adK adV G H nC nS r1 x47 hT hg3 m46 (by have q8 := ti_all x47; omega) (by omega) (by omega)) (cwV 0 hts (goodIn_app (goodIn_r _ [30, 31, 32, 22] rfl (by decide +kernel)) (goodIn_ca (goodIn_r _ [28, 18, 29] rfl (by decide +kernel)) (bs2_in _ _))) rfl rfl rfl (by decide +kernel) ⟨(Nat.le_of_ble_eq_true rfl), (Nat.le_of_ble_eq_true rfl)⟩) ⟨fun a U g mk q => by obtain ⟨q0, q1, qK, qE⟩ := q; exact ⟨q0, q1, va_K.moved (u := U) (U := U.calling g mk a) (Vm.Alike.refl U.vm) qK, EVC.blind g mk a qE⟩, gH_rc hK hT hg3 shc_13 rfl, fun U hU hW => ⟨rfl, hU, va_K.moved hW.alike hK, hE.call hS hFc hU hW⟩⟩ rfl rfl hl.1 rfl (lv_room (Nat.le_of_ble_eq_true rfl)) dX11_layer_46 ⟨(Nat.le_of_ble_eq_true rfl), (Nat.le_of_ble_eq_true rfl)⟩) hS (fun q _ h => hFc q h) hFc (fun r48 u t H locs ht hvm hw49 hB _ _ hS => ?_)
              obtain ⟨hT, hF1⟩ := hB
              rw [ht] at hT hF1
              have m50 := (hF1.fld hg3 skc_13 (k := 7) (by decide) (by decide)).trans m46
              have hF := hF.more hF1 (by decide)
              try dsimp only at hw49
              obtain ⟨h51, hi52⟩ := hw49
              refine lv_if_ne (tgt := 54) hx hb dX11_layer_49 (by decide) (fun c53 => ?_) (fun c53 => ?_)
              · have t54 : r48.toInt ≠ 0 := ti_ne c53 rfl (by decide)
                have t55 : 0 ≤ x47.toInt ∧ x47.toInt ≤ 5 := hi52 ((bit_of ⟨by omega, by omega⟩).resolve_left c53)
                refine lv_aload_n hx hb dX11_layer_54 rfl (lv_at hl 1 rfl) ?_
                refine tw_get hx hb hts bF2_X11 hown hK hT hr_o0 shc_14 rfl 2 (by decide) (ht_at2 hts 32 rfl) (fun _ h9 => h9) dX11_layer_55 (fun v9 m56 h9 => ?_)
                obtain ⟨b57, rfl, hg58⟩ := h9 _ rfl
                have hFc := gA_free hG hA hS
                refine va_callv (va_runV (As := []) (rest := []) ⟨hx, hb, hml, hown, hts⟩ (c_forget l dC dI kA adK adV G H nC nS b57 hT hg58 (by omega) (by omega)) (cwV 0 hts (goodIn_app (goodIn_r _ [37, 38, 39, 40] rfl (by decide +kernel)) (goodIn_ca (goodIn_r _ [34, 35, 36] rfl (by decide +kernel)) (bs2_in _ _))) rfl rfl rfl (by decide +kernel) ⟨(Nat.le_of_ble_eq_true rfl), (Nat.le_of_ble_eq_true rfl)⟩) ⟨fun a U g mk q => by obtain ⟨q0, q1, qK, qE⟩ := q; exact ⟨q0, q1, va_K.moved (u := U) (U := U.calling g mk a) (Vm.Alike.refl U.vm) qK, EVC.blind g mk a qE⟩, gH_rc hK hT hg58 shc_9 rfl, fun U hU hW => ⟨rfl, hU, va_K.moved hW.alike hK, hE.call hS hFc hU hW⟩⟩ rfl rfl hl.1 rfl (lv_room (Nat.le_of_ble_eq_true rfl)) dX11_layer_58 ⟨(Nat.le_of_ble_eq_true rfl), (Nat.le_of_ble_eq_true rfl)⟩) hS (fun q _ h => hFc q h) hFc (fun u t H locs ht hvm hw60 hB _ _ hS => ?_)
                obtain ⟨hT, hF1⟩ := hB
                rw [ht] at hT hF1
                have m61 := (hF1.fld hg3 skc_13 (k := 7) (by decide) (by decide)).trans m50
                have hF := hF.more hF1 (by decide)
                try dsimp only at hw60
                refine lv_aload hx hb dX11_layer_61 (lv_at hl 0 rfl) ?_
                refine lv_iload_n hx hb dX11_layer_63 rfl (lv_at hl 3 rfl) ?_
                refine lv_iload_n hx hb dX11_layer_64 rfl (lv_at hl 4 rfl) ?_
                have hFc := gA_free hG hA hS
                refine va_callv (va_runV (As := [.int p1, .int p2]) (rest := []) ⟨hx, hb, hml, hown, hts⟩ (c_addLayer l dC dI kA adK adV G H nC nS r1 p1 p2 x47 hT hg3 m61 (by have q8 := ti_all x47; omega) (by omega) (by omega)) (cwV 2 hts (goodIn_app (goodIn_r _ [44, 45, 46, 22] rfl (by decide +kernel)) (goodIn_ca (goodIn_r _ [41, 42, 29, 43] rfl (by decide +kernel)) (bs2_in _ _))) rfl rfl rfl (by decide +kernel) ⟨(Nat.le_of_ble_eq_true rfl), (Nat.le_of_ble_eq_true rfl)⟩) ⟨fun a U g mk q => by obtain ⟨q0, q1, qK, qE⟩ := q; exact ⟨q0, q1, va_K.moved (u := U) (U := U.calling g mk a) (Vm.Alike.refl U.vm) qK, EVC.blind g mk a qE⟩, gH_rc hK hT hg3 shc_13 rfl, fun U hU hW => ⟨rfl, hU, va_K.moved hW.alike hK, hE.call hS hFc hU hW⟩⟩ rfl rfl hl.1 rfl (lv_room (Nat.le_of_ble_eq_true rfl)) dX11_layer_65 ⟨(Nat.le_of_ble_eq_true rfl), (Nat.le_of_ble_eq_true rfl)⟩) hS (fun q _ h => hFc q h) hFc (fun u t H locs ht hvm hw64 hB _ _ hS => ?_)
                obtain ⟨hT, hF1⟩ := hB
                rw [ht] at hT hF1
                have hF := hF.more hF1 (by decide)
                try dsimp only at hw64
                refine lv_aload hx hb dX11_layer_68 (lv_at hl 0 rfl) ?_
                refine tw_getN hx hb hts bF2_X10 hown hK hT hg3 shc_13 rfl 7 (by decide) (hE.nw 9 rfl) (fun _ h9 => h9) dX11_layer_70 (fun v9 m67 h9 => ?_)
                obtain ⟨x68, rfl, gx68, kx68⟩ := h9 _ rfl
                refine W.widen (k := 2) (n := 12) (by decide) (by decide) ?_
                exact vx_ret (W.iret (v := x68) hx hb hr (fun t ht hW => ⟨⟨x68, (), rfl, (by exact (by have q8 := ti_all x68; omega)), by (try dsimp only); rw [ht]; exact ⟨hT, hF⟩⟩, hS.F ht⟩) hS.2.2 dX11_layer_73)
              · have t69 : r48.toInt = 0 := ti_eq c53 rfl (by decide)
                refine lv_iconst (v := (-1)) hx hb dX11_layer_52 (by decide) ?_
                refine W.widen (k := 2) (n := 12) (by decide) (by decide) ?_
                exact vx_ret (W.iret (v := (-1)) hx hb hr (fun t ht hW => ⟨⟨(-1), (), rfl, (by exact (rg_t (a := (-1)) (by decide) (by first | decide | omega) (by first | decide | omega))), by (try dsimp only); rw [ht]; exact ⟨hT, hF⟩⟩, hS.F ht⟩) hS.2.2 dX11_layer_53)
def w_c_mill : List Cond := .code yX11_mill cX11_mill 5 (some .int) :: (HAppend.hAppend (α := List Cond) (β := List Cond) (γ := List Cond) [.code yX11_needSquare cX11_needSquare 1 none, .code yX11_within cX11_within 3 (some .boolean), .methodLink RX11 58 yX11_within, .static yX11_within, .initialized RX11, .classLink RX11 557 "java/lang/IndexOutOfBoundsException", .initialized "java/lang/IndexOutOfBoundsException", .methodLink RX11 55 yX11_needSquare, .static yX11_needSquare, .code yX11_needNumbers cX11_needNumbers 1 none, .classLink RX11 547 "java/lang/IllegalArgumentException", .initialized "java/lang/IllegalArgumentException", .methodLink RX11 62 yX11_needNumbers, .static yX11_needNumbers, .code yX11_needRoomForWork cX11_needRoomForWork 1 none, .fieldLink RX11 16 "SeaLand" "lake" "LSeaLand$Lake;", .classLink RX11 345 "java/lang/UnsupportedOperationException", .initialized "java/lang/UnsupportedOperationException", .methodLink RX11 149 yX11_needRoomForWork, .instanceMethod yX11_needRoomForWork, .selects RX11 yX11_needRoomForWork yX11_needRoomForWork, .code yX3_isFreeLand cX3_isFreeLand 2 (some .boolean), .fieldLink RX3 21 "SeaLand$Lake" "ground" "LSeaLand$Ground;", .code yX3_workOn cX3_workOn 3 (some .int), .fieldLink RX3 47 "SeaLand$Lake" "built" "I", .fieldLink RX3 27 "SeaLand$Lake" "works" "[LSeaLand$Work;", .methodLink RX3 53 yX3_workOn, .instanceMethod yX3_workOn, .selects RX3 yX3_workOn yX3_workOn, .initialized RX3, .methodLink RX11 152 yX3_isFreeLand, .instanceMethod yX3_isFreeLand, .selects RX3 yX3_isFreeLand yX3_isFreeLand, .code yX11_stepsApart cX11_stepsApart 2 (some .int), .methodLink RX11 580 Lib.Math.abs.name, .static Lib.Math.abs.name, .initialized "java/lang/Math", .code Lib.Math.abs.name Lib.Math.abs.code 1 (some .int), .methodLink RX11 160 yX11_stepsApart, .static yX11_stepsApart, .fieldLink RX11 30 "SeaLand" "board" "LSeaLand$Board;", .code yX0_buildingAllowed cX0_buildingAllowed 3 (some .boolean), .code yX3_stepsToBank cX3_stepsToBank 4 (some .int), .code yX10_isBank cX10_isBank 1 (some .boolean), .fieldLink RX10 18 "SeaLand$Work" "kind" "I", .methodLink RX3 67 yX10_isBank, .instanceMethod yX10_isBank, .selects RX10 yX10_isBank yX10_isBank, .initialized RX10, .methodLink RX3 71 Lib.Math.min.name, .static Lib.Math.min.name, .code Lib.Math.min.name Lib.Math.min.code 2 (some .int), .methodLink RX0 138 yX3_stepsToBank, .instanceMethod yX3_stepsToBank, .selects RX3 yX3_stepsToBank yX3_stepsToBank, .fieldLink RX0 41 "SeaLand$Board" "force" "LSeaLand$Law;", .code yX4_lastOf cX4_lastOf 5 (some .int), .fieldLink RX4 60 "SeaLand$Law" "lines" "I", .fieldLink RX4 18 "SeaLand$Law" "kinds" "[I", .fieldLink RX4 21 "SeaLand$Law" "firsts" "[I", .methodLink RX0 94 yX4_lastOf, .instanceMethod yX4_lastOf, .selects RX4 yX4_lastOf yX4_lastOf, .initialized RX4, .methodLink RX11 190 yX0_buildingAllowed, .instanceMethod yX0_buildingAllowed, .selects RX0 yX0_buildingAllowed yX0_buildingAllowed, .initialized RX0, .fieldLink RX11 23 "SeaLand" "rows" "LSeaLand$Rows;", .code yX6_forget cX6_forget 1 none, .fieldLink RX6 18 "SeaLand$Rows" "kept" "I", .fieldLink RX6 22 "SeaLand$Rows" "oldest" "I", .methodLink RX11 76 yX6_forget, .instanceMethod yX6_forget, .selects RX6 yX6_forget yX6_forget, .initialized RX6, .code yX3_build cX3_build 5 (some .int), .code yX10_begin cX10_begin 5 none, .fieldLink RX10 22 "SeaLand$Work" "square" "I", .fieldLink RX10 25 "SeaLand$Work" "to" "I", .fieldLink RX10 28 "SeaLand$Work" "size" "I", .fieldLink RX10 31 "SeaLand$Work" "width" "I", .fieldLink RX10 34 "SeaLand$Work" "layers" "I", .fieldLink RX10 37 "SeaLand$Work" "coal" "I", .fieldLink RX10 40 "SeaLand$Work" "on" "Z", .fieldLink RX10 44 "SeaLand$Work" "latest" "I", .fieldLink RX10 47 "SeaLand$Work" "total" "I", .methodLink RX3 60 yX10_begin, .instanceMethod yX10_begin, .selects RX10 yX10_begin yX10_begin, .methodLink RX11 163 yX3_build, .instanceMethod yX3_build, .selects RX3 yX3_build yX3_build] bs2)
set_option maxHeartbeats 4000000 in
set_option maxRecDepth 100000 in
theorem c_mill (l : Launch) (hlt : l.stackTraces = false) (dC : Nat → ClassId) (dI : Nat → Nat → Nat) (kA : Nat → ClassId) (adK adV : Nat → Nat) (G : gT) (H0 : Heap) (nC nS : Int) (o0 : Nat) (p0 : Int32) (p1 : Int32) (p2 : Int32) (p3 : Int32)  (hT : gH (dC, dI) kA (SHc nC nS) G H0) (hr_o0 : G o0 = some 14) (hq0 : 0 ≤ p3.toInt ∧ p3.toInt ≤ 1) (hgC : 0 ≤ nC ∧ nC ≤ 40) (hgS : 0 ≤ nS ∧ nS ≤ 60) : vx_Met l yX11_mill w_c_mill ({ frames := 7, cells := 3, slots := 18, locals := 120 }) (va_Pc [.ref o0, .int p0, .int p1, .int p2, .int p3] (fun U => U.heap = H0 ∧ va_K (dC, dI) vwCl (tyl kA) U ∧ EVC adK adV (gA G H0.size) U U.heap)) (va_Qi (fun (r : Int32) (u : Unit) => (-1 ≤ r.toInt ∧ r.toInt ≤ 29)) (fun (_ : Unit) (t : State) => gH (dC, dI) kA (SHc nC nS) G t.heap ∧ gF (dC, dI) SKc G ([(6, 3), (9, 2), (9, 3), (13, 2), (13, 3), (13, 4), (13, 5), (13, 6), (13, 7), (13, 8), (13, 9), (13, 10), (13, 11)] : List (Nat × Nat)) H0 t.heap) (gA G H0.size)) (vx_X (fun _ : Unit => True) (fun E _ t => (E = "java/lang/IllegalArgumentException" ∨ E = "java/lang/IndexOutOfBoundsException" ∨ E = "java/lang/UnsupportedOperationException") ∧ gH (dC, dI) kA (SHc nC nS) G t.heap ∧ gF (dC, dI) SKc G ([(6, 3), (9, 2), (9, 3), (13, 2), (13, 3), (13, 4), (13, 5), (13, 6), (13, 7), (13, 8), (13, 9), (13, 10), (13, 11)] : List (Nat × Nat)) H0 t.heap) (gA G H0.size)) 3 18 (gA G H0.size) := by
  refine vx_ofW (cc := cX11_mill) (maxL := 5) (ret := (some .int)) (by decide) rfl ?_
  intro p e s m args below meth c s₁ B hml hnt hv
  obtain ⟨rfl, hH0, hK, hE⟩ := hv
  have hx := B.exec
  have hb := B.bytes
  have hr := B.returns
  have hts := atoms_spec (ws := w_c_mill) B.pre
  have hown : s.vm.findClass RX11 = some m.cls := findClass_of_methodNamed B.named
  have hlocks := B.notSynchronized
  subst hH0
  generalize hAe : gA G s.heap.size = A at hE ⊢
  have hA : ∀ q : Nat, s.heap.size ≤ q → A q := fun q h => by rw [← hAe]; exact Or.inr h
  have hG := gA_of hAe
  have hS : va_S A s.heap s.heap [] := va_S.rf
  have hF : gF (dC, dI) SKc G ([(6, 3), (9, 2), (9, 3), (13, 2), (13, 3), (13, 4), (13, 5), (13, 6), (13, 7), (13, 8), (13, 9), (13, 10), (13, 11)] : List (Nat × Nat)) s.heap s.heap := gF.rf
  have hl := lv_entry ([.ref o0, .int p0, .int p1, .int p2, .int p3]) (n := 5) (Nat.le_of_ble_eq_true rfl)
  rw [lg_entry_eq]
  generalize (lg_sl ([.ref o0, .int p0, .int p1, .int p2, .int p3]) ++ List.replicate (5 - (lg_sl ([.ref o0, .int p0, .int p1, .int p2, .int p3])).length) Slot.unset).toArray = ls at hl ⊢
  have hl : lv_has ls 5 [(0, .ref o0), (1, .int p0), (2, .int p1), (3, .int p2), (4, .int p3)] := hl
  refine lv_iload_n hx hb dX11_mill_0 rfl (lv_at hl 1 rfl) ?_
  have hFc := gA_free hG hA hS
  refine vx_callv (vx_runS (As := [.int p0]) (rest := []) ⟨hx, hb, hml, hown, hts⟩ (c_needSquare l hlt dC dI kA adK adV G s.heap nC nS p0 hT (by omega) (by omega)) (va_cwS 1 hts (goodIn_app (goodIn_r _ [8, 9, 5] rfl (by decide +kernel)) (goodIn_ca (goodIn_r _ [1, 2, 3, 4, 5, 6, 7] rfl (by decide +kernel)) (bs2_in _ _))) rfl rfl rfl (by decide +kernel) ⟨(Nat.le_of_ble_eq_true rfl), (Nat.le_of_ble_eq_true rfl)⟩) ⟨fun a U g mk q => by obtain ⟨q0, q1, qK, qE⟩ := q; exact ⟨q0, q1, va_K.moved (u := U) (U := U.calling g mk a) (Vm.Alike.refl U.vm) qK, EVC.blind g mk a qE⟩, fun U hU hW => ⟨rfl, hU, va_K.moved hW.alike hK, hE.call hS hFc hU hW⟩⟩ rfl rfl hl.1 rfl (lv_room (Nat.le_of_ble_eq_true rfl)) dX11_mill_1 ⟨(Nat.le_of_ble_eq_true rfl), (Nat.le_of_ble_eq_true rfl)⟩) hS (fun q _ h => hFc q h) hFc (fun q _ h => hFc q h) (fun E ce q9 u t H locs ht hvm _ hw2 _ _ hS hce hcv hcl => ?_) (fun u t H locs ht hvm hw2 hB _ _ hS => ?_)
  · obtain ⟨hw2, hTx, hFx⟩ := hw2; rw [ht] at hTx hFx
    exact vx_out (fun x h => (hnt x h).elim) hlocks hce hcv hcl (fun t2 h2 hW => ⟨(), trivial, ⟨((fun h9 => (Or.inr (Or.inl h9))) hw2), by rw [h2]; exact hTx, by rw [h2]; exact hF.more hFx (by decide)⟩, hS.F h2⟩) hS.2.2 (by decide) (by decide)
  · obtain ⟨hT, hF1⟩ := hB
    rw [ht] at hT hF1
    have hF := hF.more hF1 (by decide)
    try dsimp only at hw2
    have hf3 := hw2
    refine lv_iload_n hx hb dX11_mill_4 rfl (lv_at hl 2 rfl) ?_
    have hFc := gA_free hG hA hS
    refine vx_callv (vx_runS (As := [.int p1]) (rest := []) ⟨hx, hb, hml, hown, hts⟩ (c_needSquare l hlt dC dI kA adK adV G H nC nS p1 hT (by omega) (by omega)) (va_cwS 1 hts (goodIn_app (goodIn_r _ [8, 9, 5] rfl (by decide +kernel)) (goodIn_ca (goodIn_r _ [1, 2, 3, 4, 5, 6, 7] rfl (by decide +kernel)) (bs2_in _ _))) rfl rfl rfl (by decide +kernel) ⟨(Nat.le_of_ble_eq_true rfl), (Nat.le_of_ble_eq_true rfl)⟩) ⟨fun a U g mk q => by obtain ⟨q0, q1, qK, qE⟩ := q; exact ⟨q0, q1, va_K.moved (u := U) (U := U.calling g mk a) (Vm.Alike.refl U.vm) qK, EVC.blind g mk a qE⟩, fun U hU hW => ⟨rfl, hU, va_K.moved hW.alike hK, hE.call hS hFc hU hW⟩⟩ rfl rfl hl.1 rfl (lv_room (Nat.le_of_ble_eq_true rfl)) dX11_mill_5 ⟨(Nat.le_of_ble_eq_true rfl), (Nat.le_of_ble_eq_true rfl)⟩) hS (fun q _ h => hFc q h) hFc (fun q _ h => hFc q h) (fun E ce q9 u t H locs ht hvm _ hw5 _ _ hS hce hcv hcl => ?_) (fun u t H locs ht hvm hw5 hB _ _ hS => ?_)
    · obtain ⟨hw5, hTx, hFx⟩ := hw5; rw [ht] at hTx hFx
      exact vx_out (fun x h => (hnt x h).elim) hlocks hce hcv hcl (fun t2 h2 hW => ⟨(), trivial, ⟨((fun h9 => (Or.inr (Or.inl h9))) hw5), by rw [h2]; exact hTx, by rw [h2]; exact hF.more hFx (by decide)⟩, hS.F h2⟩) hS.2.2 (by decide) (by decide)
    · obtain ⟨hT, hF1⟩ := hB
      rw [ht] at hT hF1
      have hF := hF.more hF1 (by decide)
      try dsimp only at hw5
      have hf6 := hw5
      refine lv_iload_n hx hb dX11_mill_8 rfl (lv_at hl 3 rfl) ?_
      refine lv_iconst (v := 1) hx hb dX11_mill_9 (by decide) ?_
      refine lv_bipush (v := 60) hx hb dX11_mill_10 (by decide) ?_
      have hFc := gA_free hG hA hS
      refine va_calli (va_runS (As := [.int p2, .int 1, .int 60]) (rest := []) ⟨hx, hb, hml, hown, hts⟩ (c_within l dC dI kA adK adV G H nC nS p2 1 60 hT (by omega) (by omega)) (va_cwS 3 hts (goodIn_app (goodIn_r _ [3, 4, 5] rfl (by decide +kernel)) (goodIn_ca (goodIn_r _ [2] rfl (by decide +kernel)) (bs2_in _ _))) rfl rfl rfl (by decide +kernel) ⟨(Nat.le_of_ble_eq_true rfl), (Nat.le_of_ble_eq_true rfl)⟩) ⟨fun a U g mk q => by obtain ⟨q0, q1, qK, qE⟩ := q; exact ⟨q0, q1, va_K.moved (u := U) (U := U.calling g mk a) (Vm.Alike.refl U.vm) qK, EVC.blind g mk a qE⟩, fun U hU hW => ⟨rfl, hU, va_K.moved hW.alike hK, hE.call hS hFc hU hW⟩⟩ rfl rfl hl.1 rfl (lv_room (Nat.le_of_ble_eq_true rfl)) dX11_mill_12 ⟨(Nat.le_of_ble_eq_true rfl), (Nat.le_of_ble_eq_true rfl)⟩) hS (fun q _ h => hFc q h) hFc (fun r7 u t H locs ht hvm hw8 hB _ _ hS => ?_)
      obtain ⟨hT, hF1⟩ := hB
      rw [ht] at hT hF1
      have hF := hF.more hF1 (by decide)
      try dsimp only at hw8
      obtain ⟨h9, hi10, hi11⟩ := hw8
      have hb12 : r7 = 0 ∨ r7 = 1 := bit_of ⟨by omega, by omega⟩
      rcases hb12 with rfl | rfl
      · have t13 : (1 : Int32).toInt = 1 := by decide
        have t14 : (60 : Int32).toInt = 60 := by decide
        have t15 : p2.toInt < (1 : Int32).toInt ∨ (60 : Int32).toInt < p2.toInt := hi11 rfl
        have hFc := gA_free hG hA hS
        refine vx_callN (vx_runS (As := [.int 0]) (rest := []) ⟨hx, hb, hml, hown, hts⟩ (c_needNumbers0 l hlt dC dI kA adK adV G H nC nS hT (by omega) (by omega)) (va_cwS 1 hts (goodIn_app (goodIn_r _ [13, 14, 5] rfl (by decide +kernel)) (goodIn_ca (goodIn_r _ [10, 11, 12] rfl (by decide +kernel)) (bs2_in _ _))) rfl rfl rfl (by decide +kernel) ⟨(Nat.le_of_ble_eq_true rfl), (Nat.le_of_ble_eq_true rfl)⟩) ⟨fun a U g mk q => by obtain ⟨q0, q1, qK, qE⟩ := q; exact ⟨q0, q1, va_K.moved (u := U) (U := U.calling g mk a) (Vm.Alike.refl U.vm) qK, EVC.blind g mk a qE⟩, fun U hU hW => ⟨rfl, hU, va_K.moved hW.alike hK, hE.call hS hFc hU hW⟩⟩ rfl rfl hl.1 rfl (lv_room (Nat.le_of_ble_eq_true rfl)) dX11_mill_15 ⟨(Nat.le_of_ble_eq_true rfl), (Nat.le_of_ble_eq_true rfl)⟩) hS hFc (fun q _ h => hFc q h) (fun E ce q9 u t H locs ht hvm _ hw17 _ _ hS hce hcv hcl => ?_)
        obtain ⟨hw17, hTx, hFx⟩ := hw17; rw [ht] at hTx hFx
        exact vx_out (fun x h => (hnt x h).elim) hlocks hce hcv hcl (fun t2 h2 hW => ⟨(), trivial, ⟨((fun h9 => (Or.inl h9)) hw17), by rw [h2]; exact hTx, by rw [h2]; exact hF.more hFx (by decide)⟩, hS.F h2⟩) hS.2.2 (by decide) (by decide)
      · have t18 : (1 : Int32).toInt = 1 := by decide
        have t19 : (60 : Int32).toInt = 60 := by decide
        have t20 : (1 : Int32).toInt ≤ p2.toInt ∧ p2.toInt ≤ (60 : Int32).toInt := hi10 rfl
        have hFc := gA_free hG hA hS
        refine vx_callv (vx_runS (As := [.int 1]) (rest := []) ⟨hx, hb, hml, hown, hts⟩ (c_needNumbers1 l hlt dC dI kA adK adV G H nC nS hT (by omega) (by omega)) (va_cwS 1 hts (goodIn_app (goodIn_r _ [13, 14, 5] rfl (by decide +kernel)) (goodIn_ca (goodIn_r _ [10] rfl (by decide +kernel)) (bs2_in _ _))) rfl rfl rfl (by decide +kernel) ⟨(Nat.le_of_ble_eq_true rfl), (Nat.le_of_ble_eq_true rfl)⟩) ⟨fun a U g mk q => by obtain ⟨q0, q1, qK, qE⟩ := q; exact ⟨q0, q1, va_K.moved (u := U) (U := U.calling g mk a) (Vm.Alike.refl U.vm) qK, EVC.blind g mk a qE⟩, fun U hU hW => ⟨rfl, hU, va_K.moved hW.alike hK, hE.call hS hFc hU hW⟩⟩ rfl rfl hl.1 rfl (lv_room (Nat.le_of_ble_eq_true rfl)) dX11_mill_15 ⟨(Nat.le_of_ble_eq_true rfl), (Nat.le_of_ble_eq_true rfl)⟩) hS (fun q _ h => hFc q h) hFc (fun q _ h => hFc q h) (fun E ce q9 u t H locs ht hvm _ hw22 _ _ hS hce hcv hcl => ?_) (fun u t H locs ht hvm hw22 hB _ _ hS => ?_)
        · obtain ⟨hw22, hTx, hFx⟩ := hw22; rw [ht] at hTx hFx
          exact vx_out (fun x h => (hnt x h).elim) hlocks hce hcv hcl (fun t2 h2 hW => ⟨(), trivial, ⟨((fun h9 => (Or.inl h9)) hw22), by rw [h2]; exact hTx, by rw [h2]; exact hF.more hFx (by decide)⟩, hS.F h2⟩) hS.2.2 (by decide) (by decide)
        · obtain ⟨hT, hF1⟩ := hB
          rw [ht] at hT hF1
          have hF := hF.more hF1 (by decide)
          try dsimp only at hw22
          refine lv_aload_n hx hb dX11_mill_18 rfl (lv_at hl 0 rfl) ?_
          obtain ⟨v9, m23, h9⟩ := gH_fld hT hr_o0 shc_14 (k := 1) (by decide)
          obtain ⟨b24, rfl, hg25⟩ := h9 _ rfl
          obtain ⟨v9, m26, h9⟩ := gH_fld hT hg25 shc_6 (k := 3) (by decide)
          obtain ⟨x27, rfl, gx27, kx27⟩ := h9 _ rfl
          have hFc := gA_free hG hA hS
          refine vx_callv (vx_runV (As := []) (rest := []) ⟨hx, hb, hml, hown, hts⟩ (c_needRoomForWork l hlt dC dI kA adK adV G H nC nS o0 b24 x27 hT hr_o0 m23 hg25 m26 (by have q8 := ti_all x27; omega) (by omega) (by omega)) (cwV 0 hts (goodIn_app (goodIn_r _ [19, 20, 21, 5] rfl (by decide +kernel)) (goodIn_ca (goodIn_r _ [15, 16, 17, 18] rfl (by decide +kernel)) (bs2_in _ _))) rfl rfl rfl (by decide +kernel) ⟨(Nat.le_of_ble_eq_true rfl), (Nat.le_of_ble_eq_true rfl)⟩) ⟨fun a U g mk q => by obtain ⟨q0, q1, qK, qE⟩ := q; exact ⟨q0, q1, va_K.moved (u := U) (U := U.calling g mk a) (Vm.Alike.refl U.vm) qK, EVC.blind g mk a qE⟩, gH_rc hK hT hr_o0 shc_14 rfl, fun U hU hW => ⟨rfl, hU, va_K.moved hW.alike hK, hE.call hS hFc hU hW⟩⟩ rfl rfl hl.1 rfl (lv_room (Nat.le_of_ble_eq_true rfl)) dX11_mill_19 ⟨(Nat.le_of_ble_eq_true rfl), (Nat.le_of_ble_eq_true rfl)⟩) hS (fun q _ h => hFc q h) hFc (fun q _ h => hFc q h) (fun E ce q9 u t H locs ht hvm _ hw29 _ _ hS hce hcv hcl => ?_) (fun u t H locs ht hvm hw29 hB _ _ hS => ?_)
          · obtain ⟨hw29, hTx, hFx⟩ := hw29; rw [ht] at hTx hFx
            exact vx_out (fun x h => (hnt x h).elim) hlocks hce hcv hcl (fun t2 h2 hW => ⟨(), trivial, ⟨((fun h9 => (Or.inr (Or.inr h9))) hw29), by rw [h2]; exact hTx, by rw [h2]; exact hF.more hFx (by decide)⟩, hS.F h2⟩) hS.2.2 (by decide) (by decide)
          · obtain ⟨hT, hF1⟩ := hB
            rw [ht] at hT hF1
            have m30 := (hF1.fld hr_o0 skc_14 (k := 1) (by decide) (by decide)).trans m23
            have m31 := (hF1.fld hg25 skc_6 (k := 3) (by decide) (by decide)).trans m26
            have hF := hF.more hF1 (by decide)
            try dsimp only at hw29
            have hf32 := hw29
            refine lv_aload_n hx hb dX11_mill_22 rfl (lv_at hl 0 rfl) ?_
            refine tw_getM (v := .ref b24) hx hb hts bF2_X11 hown hK hT hr_o0 shc_14 rfl 1 (by decide) (ht_at2 hts 15 rfl) (fun _ h9 => h9) m30 dX11_mill_23 ?_
            refine lv_iload_n hx hb dX11_mill_26 rfl (lv_at hl 1 rfl) ?_
            have hFc := gA_free hG hA hS
            refine va_calli (va_runV (As := [.int p0]) (rest := []) ⟨hx, hb, hml, hown, hts⟩ (c_isFreeLand l dC dI kA adK adV G H nC nS b24 p0 hT hg25 (by have q8 := ti_all p0; omega) (by omega) (by omega)) (cwV 1 hts (goodIn_app (goodIn_r _ [31, 32, 33, 30] rfl (by decide +kernel)) (goodIn_ca (goodIn_r _ [22, 23, 24, 25, 26, 27, 28, 29, 30] rfl (by decide +kernel)) (bs2_in _ _))) rfl rfl rfl (by decide +kernel) ⟨(Nat.le_of_ble_eq_true rfl), (Nat.le_of_ble_eq_true rfl)⟩) ⟨fun a U g mk q => by obtain ⟨q0, q1, qK, qE⟩ := q; exact ⟨q0, q1, va_K.moved (u := U) (U := U.calling g mk a) (Vm.Alike.refl U.vm) qK, EVC.blind g mk a qE⟩, gH_rc hK hT hg25 shc_6 rfl, fun U hU hW => ⟨rfl, hU, va_K.moved hW.alike hK, hE.call hS hFc hU hW⟩⟩ rfl rfl hl.1 rfl (lv_room (Nat.le_of_ble_eq_true rfl)) dX11_mill_27 ⟨(Nat.le_of_ble_eq_true rfl), (Nat.le_of_ble_eq_true rfl)⟩) hS (fun q _ h => hFc q h) hFc (fun r33 u t H locs ht hvm hw34 hB _ _ hS => ?_)
            obtain ⟨hT, hF1⟩ := hB
            rw [ht] at hT hF1
            have m35 := (hF1.fld hr_o0 skc_14 (k := 1) (by decide) (by decide)).trans m30
            have m36 := (hF1.fld hg25 skc_6 (k := 3) (by decide) (by decide)).trans m31
            have hF := hF.more hF1 (by decide)
            try dsimp only at hw34
            have h37 := hw34
            refine lv_if_eq (tgt := 57) hx hb dX11_mill_30 (by decide) (fun c38 => ?_) (fun c38 => ?_)
            · have t39 : r33.toInt = 0 := ti_eq c38 rfl (by decide)
              refine lv_iconst (v := (-1)) hx hb dX11_mill_57 (by decide) ?_
              exact vx_ret (W.iret (v := (-1)) hx hb hr (fun t ht hW => ⟨⟨(-1), (), rfl, (by exact (rg_t (a := (-1)) (by decide) (by first | decide | omega) (by first | decide | omega))), by (try dsimp only); rw [ht]; exact ⟨hT, hF⟩⟩, hS.F ht⟩) hS.2.2 dX11_mill_58)
            · have t40 : r33.toInt ≠ 0 := ti_ne c38 rfl (by decide)
              refine lv_iload_n hx hb dX11_mill_33 rfl (lv_at hl 1 rfl) ?_
              refine lv_iload_n hx hb dX11_mill_34 rfl (lv_at hl 2 rfl) ?_
              have hFc := gA_free hG hA hS
              refine va_calli (va_runS (As := [.int p0, .int p1]) (rest := []) ⟨hx, hb, hml, hown, hts⟩ (c_stepsApart l dC dI kA adK adV G H nC nS p0 p1 hT (by omega) (by omega)) (va_cwS 2 hts (goodIn_app (goodIn_r _ [39, 40, 5] rfl (by decide +kernel)) (goodIn_ca (goodIn_r _ [34, 35, 36, 37, 38] rfl (by decide +kernel)) (bs2_in _ _))) rfl rfl rfl (by decide +kernel) ⟨(Nat.le_of_ble_eq_true rfl), (Nat.le_of_ble_eq_true rfl)⟩) ⟨fun a U g mk q => by obtain ⟨q0, q1, qK, qE⟩ := q; exact ⟨q0, q1, va_K.moved (u := U) (U := U.calling g mk a) (Vm.Alike.refl U.vm) qK, EVC.blind g mk a qE⟩, fun U hU hW => ⟨rfl, hU, va_K.moved hW.alike hK, hE.call hS hFc hU hW⟩⟩ rfl rfl hl.1 rfl (lv_room (Nat.le_of_ble_eq_true rfl)) dX11_mill_35 ⟨(Nat.le_of_ble_eq_true rfl), (Nat.le_of_ble_eq_true rfl)⟩) hS (fun q _ h => hFc q h) hFc (fun r41 u t H locs ht hvm hw42 hB _ _ hS => ?_)
              obtain ⟨hT, hF1⟩ := hB
              rw [ht] at hT hF1
              have m43 := (hF1.fld hr_o0 skc_14 (k := 1) (by decide) (by decide)).trans m35
              have m44 := (hF1.fld hg25 skc_6 (k := 3) (by decide) (by decide)).trans m36
              have hF := hF.more hF1 (by decide)
              try dsimp only at hw42
              refine lv_iconst (v := 1) hx hb dX11_mill_38 (by decide) ?_
              have t45 : -2147483648 ≤ r41.toInt ∧ r41.toInt ≤ 2147483647 := ti_all r41
              refine lv_icmp_ne (tgt := 57) hx hb dX11_mill_39 (by decide) (fun c46 => ?_) (fun c46 => ?_)
              · have t47 : r41.toInt ≠ 1 := ti_ne c46 rfl (by decide)
                refine lv_iconst (v := (-1)) hx hb dX11_mill_57 (by decide) ?_
                exact vx_ret (W.iret (v := (-1)) hx hb hr (fun t ht hW => ⟨⟨(-1), (), rfl, (by exact (rg_t (a := (-1)) (by decide) (by first | decide | omega) (by first | decide | omega))), by (try dsimp only); rw [ht]; exact ⟨hT, hF⟩⟩, hS.F ht⟩) hS.2.2 dX11_mill_58)
              · have t48 : r41.toInt = 1 := ti_eq c46 rfl (by decide)
                refine lv_aload_n hx hb dX11_mill_42 rfl (lv_at hl 0 rfl) ?_
                refine tw_get hx hb hts bF2_X11 hown hK hT hr_o0 shc_14 rfl 3 (by decide) (ht_at2 hts 40 rfl) (fun _ h9 => h9) dX11_mill_43 (fun v9 m49 h9 => ?_)
                obtain ⟨b50, rfl, hg51⟩ := h9 _ rfl
                refine lv_iload_n hx hb dX11_mill_46 rfl (lv_at hl 1 rfl) ?_
                refine lv_aload_n hx hb dX11_mill_47 rfl (lv_at hl 0 rfl) ?_
                refine tw_getM (v := .ref b24) hx hb hts bF2_X11 hown hK hT hr_o0 shc_14 rfl 1 (by decide) (ht_at2 hts 15 rfl) (fun _ h9 => h9) m43 dX11_mill_48 ?_
                have hFc := gA_free hG hA hS
                refine va_calli (va_runV (As := [.int p0, .ref b24]) (rest := []) ⟨hx, hb, hml, hown, hts⟩ (c_buildingAllowed l dC dI kA adK adV G H nC nS b50 p0 b24 hT hg25 hg51 (by omega) (by omega)) (cwV 2 hts (goodIn_app (goodIn_r _ [65, 66, 67, 68] rfl (by decide +kernel)) (goodIn_ca (goodIn_r _ [42, 43, 25, 26, 44, 45, 46, 47, 48, 49, 34, 35, 36, 37, 38, 5, 40, 50, 51, 52, 53, 54, 55, 30, 56, 57, 58, 59, 60, 61, 62, 63, 64] rfl (by decide +kernel)) (bs2_in _ _))) rfl rfl rfl (by decide +kernel) ⟨(Nat.le_of_ble_eq_true rfl), (Nat.le_of_ble_eq_true rfl)⟩) ⟨fun a U g mk q => by obtain ⟨q0, q1, qK, qE⟩ := q; exact ⟨q0, q1, va_K.moved (u := U) (U := U.calling g mk a) (Vm.Alike.refl U.vm) qK, EVC.blind g mk a qE⟩, gH_rc hK hT hg51 shc_3 rfl, fun U hU hW => ⟨rfl, hU, va_K.moved hW.alike hK, hE.call hS hFc hU hW⟩⟩ rfl rfl hl.1 rfl (lv_room (Nat.le_of_ble_eq_true rfl)) dX11_mill_51 ⟨(Nat.le_of_ble_eq_true rfl), (Nat.le_of_ble_eq_true rfl)⟩) hS (fun q _ h => hFc q h) hFc (fun r52 u t H locs ht hvm hw53 hB _ _ hS => ?_)
                obtain ⟨hT, hF1⟩ := hB
                rw [ht] at hT hF1
                have m54 := (hF1.fld hr_o0 skc_14 (k := 1) (by decide) (by decide)).trans m43
                have m55 := (hF1.fld hg25 skc_6 (k := 3) (by decide) (by decide)).trans m44
                have hF := hF.more hF1 (by decide)
                try dsimp only at hw53
                have h57 := hw53
                refine lv_if_ne (tgt := 59) hx hb dX11_mill_54 (by decide) (fun c58 => ?_) (fun c58 => ?_)
                · have t59 : r52.toInt ≠ 0 := ti_ne c58 rfl (by decide)
                  refine lv_aload_n hx hb dX11_mill_59 rfl (lv_at hl 0 rfl) ?_
                  refine tw_get hx hb hts bF2_X11 hown hK hT hr_o0 shc_14 rfl 2 (by decide) (ht_at2 hts 68 rfl) (fun _ h9 => h9) dX11_mill_60 (fun v9 m60 h9 => ?_)
                  obtain ⟨b61, rfl, hg62⟩ := h9 _ rfl
                  have hFc := gA_free hG hA hS
                  refine va_callv (va_runV (As := []) (rest := []) ⟨hx, hb, hml, hown, hts⟩ (c_forget l dC dI kA adK adV G H nC nS b61 hT hg62 (by omega) (by omega)) (cwV 0 hts (goodIn_app (goodIn_r _ [73, 74, 75, 76] rfl (by decide +kernel)) (goodIn_ca (goodIn_r _ [70, 71, 72] rfl (by decide +kernel)) (bs2_in _ _))) rfl rfl rfl (by decide +kernel) ⟨(Nat.le_of_ble_eq_true rfl), (Nat.le_of_ble_eq_true rfl)⟩) ⟨fun a U g mk q => by obtain ⟨q0, q1, qK, qE⟩ := q; exact ⟨q0, q1, va_K.moved (u := U) (U := U.calling g mk a) (Vm.Alike.refl U.vm) qK, EVC.blind g mk a qE⟩, gH_rc hK hT hg62 shc_9 rfl, fun U hU hW => ⟨rfl, hU, va_K.moved hW.alike hK, hE.call hS hFc hU hW⟩⟩ rfl rfl hl.1 rfl (lv_room (Nat.le_of_ble_eq_true rfl)) dX11_mill_63 ⟨(Nat.le_of_ble_eq_true rfl), (Nat.le_of_ble_eq_true rfl)⟩) hS (fun q _ h => hFc q h) hFc (fun u t H locs ht hvm hw64 hB _ _ hS => ?_)
                  obtain ⟨hT, hF1⟩ := hB
                  rw [ht] at hT hF1
                  have m65 := (hF1.fld hr_o0 skc_14 (k := 1) (by decide) (by decide)).trans m54
                  have m66 := (hF1.fld hg25 skc_6 (k := 3) (by decide) (by decide)).trans m55
                  have hF := hF.more hF1 (by decide)
                  try dsimp only at hw64
                  refine lv_aload_n hx hb dX11_mill_66 rfl (lv_at hl 0 rfl) ?_
                  refine tw_getM (v := .ref b24) hx hb hts bF2_X11 hown hK hT hr_o0 shc_14 rfl 1 (by decide) (ht_at2 hts 15 rfl) (fun _ h9 => h9) m65 dX11_mill_67 ?_
                  refine lv_iload hx hb dX11_mill_70 (lv_at hl 4 rfl) ?_
                  refine lv_if_eq (tgt := 79) hx hb dX11_mill_72 (by decide) (fun c69 => ?_) (fun c69 => ?_)
                  · have t70 : p3.toInt = 0 := ti_eq c69 rfl (by decide)
                    refine lv_iconst (v := 2) hx hb dX11_mill_79 (by decide) ?_
                    refine lv_iload_n hx hb dX11_mill_80 rfl (lv_at hl 1 rfl) ?_
                    refine lv_iload_n hx hb dX11_mill_81 rfl (lv_at hl 2 rfl) ?_
                    refine lv_iload_n hx hb dX11_mill_82 rfl (lv_at hl 3 rfl) ?_
                    have hFc := gA_free hG hA hS
                    refine va_calli (va_runV (As := [.int 2, .int p0, .int p1, .int p2]) (rest := []) ⟨hx, hb, hml, hown, hts⟩ (c_build l dC dI kA adK adV G H nC nS b24 2 p0 p1 p2 x27 hT hg25 m66 (by have q8 := ti_all p0; omega) (by have q8 := ti_all p1; omega) (by have q8 := ti_all x27; omega) (by omega) (by omega)) (cwV 4 hts (goodIn_app (goodIn_r _ [91, 92, 93, 30] rfl (by decide +kernel)) (goodIn_ca (goodIn_r _ [77, 26, 25, 78, 45, 79, 80, 81, 82, 83, 84, 85, 86, 87, 88, 89, 90, 49] rfl (by decide +kernel)) (bs2_in _ _))) rfl rfl rfl (by decide +kernel) ⟨(Nat.le_of_ble_eq_true rfl), (Nat.le_of_ble_eq_true rfl)⟩) ⟨fun a U g mk q => by obtain ⟨q0, q1, qK, qE⟩ := q; exact ⟨q0, q1, va_K.moved (u := U) (U := U.calling g mk a) (Vm.Alike.refl U.vm) qK, EVC.blind g mk a qE⟩, gH_rc hK hT hg25 shc_6 rfl, fun U hU hW => ⟨rfl, hU, va_K.moved hW.alike hK, hE.call hS hFc hU hW⟩⟩ rfl rfl hl.1 rfl (lv_room (Nat.le_of_ble_eq_true rfl)) dX11_mill_83 ⟨(Nat.le_of_ble_eq_true rfl), (Nat.le_of_ble_eq_true rfl)⟩) hS (fun q _ h => hFc q h) hFc (fun r71 u t H locs ht hvm hw72 hB _ _ hS => ?_)
                    obtain ⟨hT, hF1⟩ := hB
                    rw [ht] at hT hF1
                    have hF := hF.more hF1 (by decide)
                    try dsimp only at hw72
                    have h77 := hw72
                    exact vx_ret (W.iret (v := r71) hx hb hr (fun t ht hW => ⟨⟨r71, (), rfl, (by exact (by have q8 := ti_all r71; omega)), by (try dsimp only); rw [ht]; exact ⟨hT, hF⟩⟩, hS.F ht⟩) hS.2.2 dX11_mill_86)
                  · have t78 : p3.toInt ≠ 0 := ti_ne c69 rfl (by decide)
                    refine lv_iconst (v := 3) hx hb dX11_mill_75 (by decide) ?_
                    refine lv_goto (tgt := 80) hx hb dX11_mill_76 (by decide) ?_
                    refine lv_iload_n hx hb dX11_mill_80 rfl (lv_at hl 1 rfl) ?_
                    refine lv_iload_n hx hb dX11_mill_81 rfl (lv_at hl 2 rfl) ?_
                    refine lv_iload_n hx hb dX11_mill_82 rfl (lv_at hl 3 rfl) ?_
                    have hFc := gA_free hG hA hS
                    refine va_calli (va_runV (As := [.int 3, .int p0, .int p1, .int p2]) (rest := []) ⟨hx, hb, hml, hown, hts⟩ (c_build l dC dI kA adK adV G H nC nS b24 3 p0 p1 p2 x27 hT hg25 m66 (by have q8 := ti_all p0; omega) (by have q8 := ti_all p1; omega) (by have q8 := ti_all x27; omega) (by omega) (by omega)) (cwV 4 hts (goodIn_app (goodIn_r _ [91, 92, 93, 30] rfl (by decide +kernel)) (goodIn_ca (goodIn_r _ [77, 26, 25, 78, 45, 79, 80, 81, 82, 83, 84, 85, 86, 87, 88, 89, 90, 49] rfl (by decide +kernel)) (bs2_in _ _))) rfl rfl rfl (by decide +kernel) ⟨(Nat.le_of_ble_eq_true rfl), (Nat.le_of_ble_eq_true rfl)⟩) ⟨fun a U g mk q => by obtain ⟨q0, q1, qK, qE⟩ := q; exact ⟨q0, q1, va_K.moved (u := U) (U := U.calling g mk a) (Vm.Alike.refl U.vm) qK, EVC.blind g mk a qE⟩, gH_rc hK hT hg25 shc_6 rfl, fun U hU hW => ⟨rfl, hU, va_K.moved hW.alike hK, hE.call hS hFc hU hW⟩⟩ rfl rfl hl.1 rfl (lv_room (Nat.le_of_ble_eq_true rfl)) dX11_mill_83 ⟨(Nat.le_of_ble_eq_true rfl), (Nat.le_of_ble_eq_true rfl)⟩) hS (fun q _ h => hFc q h) hFc (fun r79 u t H locs ht hvm hw80 hB _ _ hS => ?_)
                    obtain ⟨hT, hF1⟩ := hB
                    rw [ht] at hT hF1
                    have hF := hF.more hF1 (by decide)
                    try dsimp only at hw80
                    have h85 := hw80
                    exact vx_ret (W.iret (v := r79) hx hb hr (fun t ht hW => ⟨⟨r79, (), rfl, (by exact (by have q8 := ti_all r79; omega)), by (try dsimp only); rw [ht]; exact ⟨hT, hF⟩⟩, hS.F ht⟩) hS.2.2 dX11_mill_86)
                · have t86 : r52.toInt = 0 := ti_eq c58 rfl (by decide)
                  refine lv_iconst (v := (-1)) hx hb dX11_mill_57 (by decide) ?_
                  exact vx_ret (W.iret (v := (-1)) hx hb hr (fun t ht hW => ⟨⟨(-1), (), rfl, (by exact (rg_t (a := (-1)) (by decide) (by first | decide | omega) (by first | decide | omega))), by (try dsimp only); rw [ht]; exact ⟨hT, hF⟩⟩, hS.F ht⟩) hS.2.2 dX11_mill_58)
def w_c_sluice : List Cond := .code yX11_sluice cX11_sluice 4 (some .int) :: (HAppend.hAppend (α := List Cond) (β := List Cond) (γ := List Cond) [.code yX11_needSquare cX11_needSquare 1 none, .code yX11_within cX11_within 3 (some .boolean), .methodLink RX11 58 yX11_within, .static yX11_within, .initialized RX11, .classLink RX11 557 "java/lang/IndexOutOfBoundsException", .initialized "java/lang/IndexOutOfBoundsException", .methodLink RX11 55 yX11_needSquare, .static yX11_needSquare, .code yX11_needNumbers cX11_needNumbers 1 none, .classLink RX11 547 "java/lang/IllegalArgumentException", .initialized "java/lang/IllegalArgumentException", .methodLink RX11 62 yX11_needNumbers, .static yX11_needNumbers, .code yX11_needRoomForWork cX11_needRoomForWork 1 none, .fieldLink RX11 16 "SeaLand" "lake" "LSeaLand$Lake;", .classLink RX11 345 "java/lang/UnsupportedOperationException", .initialized "java/lang/UnsupportedOperationException", .methodLink RX11 149 yX11_needRoomForWork, .instanceMethod yX11_needRoomForWork, .selects RX11 yX11_needRoomForWork yX11_needRoomForWork, .code yX3_isFreeLand cX3_isFreeLand 2 (some .boolean), .fieldLink RX3 21 "SeaLand$Lake" "ground" "LSeaLand$Ground;", .code yX3_workOn cX3_workOn 3 (some .int), .fieldLink RX3 47 "SeaLand$Lake" "built" "I", .fieldLink RX3 27 "SeaLand$Lake" "works" "[LSeaLand$Work;", .methodLink RX3 53 yX3_workOn, .instanceMethod yX3_workOn, .selects RX3 yX3_workOn yX3_workOn, .initialized RX3, .methodLink RX11 152 yX3_isFreeLand, .instanceMethod yX3_isFreeLand, .selects RX3 yX3_isFreeLand yX3_isFreeLand, .code yX3_isSeaBeside cX3_isSeaBeside 3 (some .boolean), .code yX11_stepsApart cX11_stepsApart 2 (some .int), .methodLink RX11 580 Lib.Math.abs.name, .static Lib.Math.abs.name, .initialized "java/lang/Math", .code Lib.Math.abs.name Lib.Math.abs.code 1 (some .int), .static yX11_stepsApart, .methodLink RX11 156 yX3_isSeaBeside, .instanceMethod yX3_isSeaBeside, .selects RX3 yX3_isSeaBeside yX3_isSeaBeside, .fieldLink RX11 23 "SeaLand" "rows" "LSeaLand$Rows;", .code yX6_forget cX6_forget 1 none, .fieldLink RX6 18 "SeaLand$Rows" "kept" "I", .fieldLink RX6 22 "SeaLand$Rows" "oldest" "I", .methodLink RX11 76 yX6_forget, .instanceMethod yX6_forget, .selects RX6 yX6_forget yX6_forget, .initialized RX6, .code yX3_build cX3_build 5 (some .int), .code yX10_begin cX10_begin 5 none, .fieldLink RX10 18 "SeaLand$Work" "kind" "I", .fieldLink RX10 22 "SeaLand$Work" "square" "I", .fieldLink RX10 25 "SeaLand$Work" "to" "I", .fieldLink RX10 28 "SeaLand$Work" "size" "I", .fieldLink RX10 31 "SeaLand$Work" "width" "I", .fieldLink RX10 34 "SeaLand$Work" "layers" "I", .fieldLink RX10 37 "SeaLand$Work" "coal" "I", .fieldLink RX10 40 "SeaLand$Work" "on" "Z", .fieldLink RX10 44 "SeaLand$Work" "latest" "I", .fieldLink RX10 47 "SeaLand$Work" "total" "I", .methodLink RX3 60 yX10_begin, .instanceMethod yX10_begin, .selects RX10 yX10_begin yX10_begin, .initialized RX10, .methodLink RX11 163 yX3_build, .instanceMethod yX3_build, .selects RX3 yX3_build yX3_build] bs2)
set_option maxHeartbeats 4000000 in
set_option maxRecDepth 100000 in
theorem c_sluice (l : Launch) (hlt : l.stackTraces = false) (dC : Nat → ClassId) (dI : Nat → Nat → Nat) (kA : Nat → ClassId) (adK adV : Nat → Nat) (G : gT) (H0 : Heap) (nC nS : Int) (o0 : Nat) (p0 : Int32) (p1 : Int32) (p2 : Int32)  (hT : gH (dC, dI) kA (SHc nC nS) G H0) (hr_o0 : G o0 = some 14) (hgC : 0 ≤ nC ∧ nC ≤ 40) (hgS : 0 ≤ nS ∧ nS ≤ 60) : vx_Met l yX11_sluice w_c_sluice ({ frames := 7, cells := 3, slots := 18, locals := 120 }) (va_Pc [.ref o0, .int p0, .int p1, .int p2] (fun U => U.heap = H0 ∧ va_K (dC, dI) vwCl (tyl kA) U ∧ EVC adK adV (gA G H0.size) U U.heap)) (va_Qi (fun (r : Int32) (u : Unit) => (-1 ≤ r.toInt ∧ r.toInt ≤ 29)) (fun (_ : Unit) (t : State) => gH (dC, dI) kA (SHc nC nS) G t.heap ∧ gF (dC, dI) SKc G ([(6, 3), (9, 2), (9, 3), (13, 2), (13, 3), (13, 4), (13, 5), (13, 6), (13, 7), (13, 8), (13, 9), (13, 10), (13, 11)] : List (Nat × Nat)) H0 t.heap) (gA G H0.size)) (vx_X (fun _ : Unit => True) (fun E _ t => (E = "java/lang/IllegalArgumentException" ∨ E = "java/lang/IndexOutOfBoundsException" ∨ E = "java/lang/UnsupportedOperationException") ∧ gH (dC, dI) kA (SHc nC nS) G t.heap ∧ gF (dC, dI) SKc G ([(6, 3), (9, 2), (9, 3), (13, 2), (13, 3), (13, 4), (13, 5), (13, 6), (13, 7), (13, 8), (13, 9), (13, 10), (13, 11)] : List (Nat × Nat)) H0 t.heap) (gA G H0.size)) 3 18 (gA G H0.size) := by
  refine vx_ofW (cc := cX11_sluice) (maxL := 4) (ret := (some .int)) (by decide) rfl ?_
  intro p e s m args below meth c s₁ B hml hnt hv
  obtain ⟨rfl, hH0, hK, hE⟩ := hv
  have hx := B.exec
  have hb := B.bytes
  have hr := B.returns
  have hts := atoms_spec (ws := w_c_sluice) B.pre
  have hown : s.vm.findClass RX11 = some m.cls := findClass_of_methodNamed B.named
  have hlocks := B.notSynchronized
  subst hH0
  generalize hAe : gA G s.heap.size = A at hE ⊢
  have hA : ∀ q : Nat, s.heap.size ≤ q → A q := fun q h => by rw [← hAe]; exact Or.inr h
  have hG := gA_of hAe
  have hS : va_S A s.heap s.heap [] := va_S.rf
  have hF : gF (dC, dI) SKc G ([(6, 3), (9, 2), (9, 3), (13, 2), (13, 3), (13, 4), (13, 5), (13, 6), (13, 7), (13, 8), (13, 9), (13, 10), (13, 11)] : List (Nat × Nat)) s.heap s.heap := gF.rf
  have hl := lv_entry ([.ref o0, .int p0, .int p1, .int p2]) (n := 4) (Nat.le_of_ble_eq_true rfl)
  rw [lg_entry_eq]
  generalize (lg_sl ([.ref o0, .int p0, .int p1, .int p2]) ++ List.replicate (4 - (lg_sl ([.ref o0, .int p0, .int p1, .int p2])).length) Slot.unset).toArray = ls at hl ⊢
  have hl : lv_has ls 4 [(0, .ref o0), (1, .int p0), (2, .int p1), (3, .int p2)] := hl
  refine lv_iload_n hx hb dX11_sluice_0 rfl (lv_at hl 1 rfl) ?_
  have hFc := gA_free hG hA hS
  refine vx_callv (vx_runS (As := [.int p0]) (rest := []) ⟨hx, hb, hml, hown, hts⟩ (c_needSquare l hlt dC dI kA adK adV G s.heap nC nS p0 hT (by omega) (by omega)) (va_cwS 1 hts (goodIn_app (goodIn_r _ [8, 9, 5] rfl (by decide +kernel)) (goodIn_ca (goodIn_r _ [1, 2, 3, 4, 5, 6, 7] rfl (by decide +kernel)) (bs2_in _ _))) rfl rfl rfl (by decide +kernel) ⟨(Nat.le_of_ble_eq_true rfl), (Nat.le_of_ble_eq_true rfl)⟩) ⟨fun a U g mk q => by obtain ⟨q0, q1, qK, qE⟩ := q; exact ⟨q0, q1, va_K.moved (u := U) (U := U.calling g mk a) (Vm.Alike.refl U.vm) qK, EVC.blind g mk a qE⟩, fun U hU hW => ⟨rfl, hU, va_K.moved hW.alike hK, hE.call hS hFc hU hW⟩⟩ rfl rfl hl.1 rfl (lv_room (Nat.le_of_ble_eq_true rfl)) dX11_sluice_1 ⟨(Nat.le_of_ble_eq_true rfl), (Nat.le_of_ble_eq_true rfl)⟩) hS (fun q _ h => hFc q h) hFc (fun q _ h => hFc q h) (fun E ce q9 u t H locs ht hvm _ hw2 _ _ hS hce hcv hcl => ?_) (fun u t H locs ht hvm hw2 hB _ _ hS => ?_)
  · obtain ⟨hw2, hTx, hFx⟩ := hw2; rw [ht] at hTx hFx
    exact vx_out (fun x h => (hnt x h).elim) hlocks hce hcv hcl (fun t2 h2 hW => ⟨(), trivial, ⟨((fun h9 => (Or.inr (Or.inl h9))) hw2), by rw [h2]; exact hTx, by rw [h2]; exact hF.more hFx (by decide)⟩, hS.F h2⟩) hS.2.2 (by decide) (by decide)
  · obtain ⟨hT, hF1⟩ := hB
    rw [ht] at hT hF1
    have hF := hF.more hF1 (by decide)
    try dsimp only at hw2
    have hf3 := hw2
    refine lv_iload_n hx hb dX11_sluice_4 rfl (lv_at hl 2 rfl) ?_
    have hFc := gA_free hG hA hS
    refine vx_callv (vx_runS (As := [.int p1]) (rest := []) ⟨hx, hb, hml, hown, hts⟩ (c_needSquare l hlt dC dI kA adK adV G H nC nS p1 hT (by omega) (by omega)) (va_cwS 1 hts (goodIn_app (goodIn_r _ [8, 9, 5] rfl (by decide +kernel)) (goodIn_ca (goodIn_r _ [1, 2, 3, 4, 5, 6, 7] rfl (by decide +kernel)) (bs2_in _ _))) rfl rfl rfl (by decide +kernel) ⟨(Nat.le_of_ble_eq_true rfl), (Nat.le_of_ble_eq_true rfl)⟩) ⟨fun a U g mk q => by obtain ⟨q0, q1, qK, qE⟩ := q; exact ⟨q0, q1, va_K.moved (u := U) (U := U.calling g mk a) (Vm.Alike.refl U.vm) qK, EVC.blind g mk a qE⟩, fun U hU hW => ⟨rfl, hU, va_K.moved hW.alike hK, hE.call hS hFc hU hW⟩⟩ rfl rfl hl.1 rfl (lv_room (Nat.le_of_ble_eq_true rfl)) dX11_sluice_5 ⟨(Nat.le_of_ble_eq_true rfl), (Nat.le_of_ble_eq_true rfl)⟩) hS (fun q _ h => hFc q h) hFc (fun q _ h => hFc q h) (fun E ce q9 u t H locs ht hvm _ hw5 _ _ hS hce hcv hcl => ?_) (fun u t H locs ht hvm hw5 hB _ _ hS => ?_)
    · obtain ⟨hw5, hTx, hFx⟩ := hw5; rw [ht] at hTx hFx
      exact vx_out (fun x h => (hnt x h).elim) hlocks hce hcv hcl (fun t2 h2 hW => ⟨(), trivial, ⟨((fun h9 => (Or.inr (Or.inl h9))) hw5), by rw [h2]; exact hTx, by rw [h2]; exact hF.more hFx (by decide)⟩, hS.F h2⟩) hS.2.2 (by decide) (by decide)
    · obtain ⟨hT, hF1⟩ := hB
      rw [ht] at hT hF1
      have hF := hF.more hF1 (by decide)
      try dsimp only at hw5
      have hf6 := hw5
      refine lv_iload_n hx hb dX11_sluice_8 rfl (lv_at hl 3 rfl) ?_
      refine lv_iconst (v := 1) hx hb dX11_sluice_9 (by decide) ?_
      refine lv_bipush (v := 60) hx hb dX11_sluice_10 (by decide) ?_
      have hFc := gA_free hG hA hS
      refine va_calli (va_runS (As := [.int p2, .int 1, .int 60]) (rest := []) ⟨hx, hb, hml, hown, hts⟩ (c_within l dC dI kA adK adV G H nC nS p2 1 60 hT (by omega) (by omega)) (va_cwS 3 hts (goodIn_app (goodIn_r _ [3, 4, 5] rfl (by decide +kernel)) (goodIn_ca (goodIn_r _ [2] rfl (by decide +kernel)) (bs2_in _ _))) rfl rfl rfl (by decide +kernel) ⟨(Nat.le_of_ble_eq_true rfl), (Nat.le_of_ble_eq_true rfl)⟩) ⟨fun a U g mk q => by obtain ⟨q0, q1, qK, qE⟩ := q; exact ⟨q0, q1, va_K.moved (u := U) (U := U.calling g mk a) (Vm.Alike.refl U.vm) qK, EVC.blind g mk a qE⟩, fun U hU hW => ⟨rfl, hU, va_K.moved hW.alike hK, hE.call hS hFc hU hW⟩⟩ rfl rfl hl.1 rfl (lv_room (Nat.le_of_ble_eq_true rfl)) dX11_sluice_12 ⟨(Nat.le_of_ble_eq_true rfl), (Nat.le_of_ble_eq_true rfl)⟩) hS (fun q _ h => hFc q h) hFc (fun r7 u t H locs ht hvm hw8 hB _ _ hS => ?_)
      obtain ⟨hT, hF1⟩ := hB
      rw [ht] at hT hF1
      have hF := hF.more hF1 (by decide)
      try dsimp only at hw8
      obtain ⟨h9, hi10, hi11⟩ := hw8
      have hb12 : r7 = 0 ∨ r7 = 1 := bit_of ⟨by omega, by omega⟩
      rcases hb12 with rfl | rfl
      · have t13 : (1 : Int32).toInt = 1 := by decide
        have t14 : (60 : Int32).toInt = 60 := by decide
        have t15 : p2.toInt < (1 : Int32).toInt ∨ (60 : Int32).toInt < p2.toInt := hi11 rfl
        have hFc := gA_free hG hA hS
        refine vx_callN (vx_runS (As := [.int 0]) (rest := []) ⟨hx, hb, hml, hown, hts⟩ (c_needNumbers0 l hlt dC dI kA adK adV G H nC nS hT (by omega) (by omega)) (va_cwS 1 hts (goodIn_app (goodIn_r _ [13, 14, 5] rfl (by decide +kernel)) (goodIn_ca (goodIn_r _ [10, 11, 12] rfl (by decide +kernel)) (bs2_in _ _))) rfl rfl rfl (by decide +kernel) ⟨(Nat.le_of_ble_eq_true rfl), (Nat.le_of_ble_eq_true rfl)⟩) ⟨fun a U g mk q => by obtain ⟨q0, q1, qK, qE⟩ := q; exact ⟨q0, q1, va_K.moved (u := U) (U := U.calling g mk a) (Vm.Alike.refl U.vm) qK, EVC.blind g mk a qE⟩, fun U hU hW => ⟨rfl, hU, va_K.moved hW.alike hK, hE.call hS hFc hU hW⟩⟩ rfl rfl hl.1 rfl (lv_room (Nat.le_of_ble_eq_true rfl)) dX11_sluice_15 ⟨(Nat.le_of_ble_eq_true rfl), (Nat.le_of_ble_eq_true rfl)⟩) hS hFc (fun q _ h => hFc q h) (fun E ce q9 u t H locs ht hvm _ hw17 _ _ hS hce hcv hcl => ?_)
        obtain ⟨hw17, hTx, hFx⟩ := hw17; rw [ht] at hTx hFx
        exact vx_out (fun x h => (hnt x h).elim) hlocks hce hcv hcl (fun t2 h2 hW => ⟨(), trivial, ⟨((fun h9 => (Or.inl h9)) hw17), by rw [h2]; exact hTx, by rw [h2]; exact hF.more hFx (by decide)⟩, hS.F h2⟩) hS.2.2 (by decide) (by decide)
      · have t18 : (1 : Int32).toInt = 1 := by decide
        have t19 : (60 : Int32).toInt = 60 := by decide
        have t20 : (1 : Int32).toInt ≤ p2.toInt ∧ p2.toInt ≤ (60 : Int32).toInt := hi10 rfl
        have hFc := gA_free hG hA hS
        refine vx_callv (vx_runS (As := [.int 1]) (rest := []) ⟨hx, hb, hml, hown, hts⟩ (c_needNumbers1 l hlt dC dI kA adK adV G H nC nS hT (by omega) (by omega)) (va_cwS 1 hts (goodIn_app (goodIn_r _ [13, 14, 5] rfl (by decide +kernel)) (goodIn_ca (goodIn_r _ [10] rfl (by decide +kernel)) (bs2_in _ _))) rfl rfl rfl (by decide +kernel) ⟨(Nat.le_of_ble_eq_true rfl), (Nat.le_of_ble_eq_true rfl)⟩) ⟨fun a U g mk q => by obtain ⟨q0, q1, qK, qE⟩ := q; exact ⟨q0, q1, va_K.moved (u := U) (U := U.calling g mk a) (Vm.Alike.refl U.vm) qK, EVC.blind g mk a qE⟩, fun U hU hW => ⟨rfl, hU, va_K.moved hW.alike hK, hE.call hS hFc hU hW⟩⟩ rfl rfl hl.1 rfl (lv_room (Nat.le_of_ble_eq_true rfl)) dX11_sluice_15 ⟨(Nat.le_of_ble_eq_true rfl), (Nat.le_of_ble_eq_true rfl)⟩) hS (fun q _ h => hFc q h) hFc (fun q _ h => hFc q h) (fun E ce q9 u t H locs ht hvm _ hw22 _ _ hS hce hcv hcl => ?_) (fun u t H locs ht hvm hw22 hB _ _ hS => ?_)
        · obtain ⟨hw22, hTx, hFx⟩ := hw22; rw [ht] at hTx hFx
          exact vx_out (fun x h => (hnt x h).elim) hlocks hce hcv hcl (fun t2 h2 hW => ⟨(), trivial, ⟨((fun h9 => (Or.inl h9)) hw22), by rw [h2]; exact hTx, by rw [h2]; exact hF.more hFx (by decide)⟩, hS.F h2⟩) hS.2.2 (by decide) (by decide)
        · obtain ⟨hT, hF1⟩ := hB
          rw [ht] at hT hF1
          have hF := hF.more hF1 (by decide)
          try dsimp only at hw22
          refine lv_aload_n hx hb dX11_sluice_18 rfl (lv_at hl 0 rfl) ?_
          obtain ⟨v9, m23, h9⟩ := gH_fld hT hr_o0 shc_14 (k := 1) (by decide)
          obtain ⟨b24, rfl, hg25⟩ := h9 _ rfl
          obtain ⟨v9, m26, h9⟩ := gH_fld hT hg25 shc_6 (k := 3) (by decide)
          obtain ⟨x27, rfl, gx27, kx27⟩ := h9 _ rfl
          have hFc := gA_free hG hA hS
          refine vx_callv (vx_runV (As := []) (rest := []) ⟨hx, hb, hml, hown, hts⟩ (c_needRoomForWork l hlt dC dI kA adK adV G H nC nS o0 b24 x27 hT hr_o0 m23 hg25 m26 (by have q8 := ti_all x27; omega) (by omega) (by omega)) (cwV 0 hts (goodIn_app (goodIn_r _ [19, 20, 21, 5] rfl (by decide +kernel)) (goodIn_ca (goodIn_r _ [15, 16, 17, 18] rfl (by decide +kernel)) (bs2_in _ _))) rfl rfl rfl (by decide +kernel) ⟨(Nat.le_of_ble_eq_true rfl), (Nat.le_of_ble_eq_true rfl)⟩) ⟨fun a U g mk q => by obtain ⟨q0, q1, qK, qE⟩ := q; exact ⟨q0, q1, va_K.moved (u := U) (U := U.calling g mk a) (Vm.Alike.refl U.vm) qK, EVC.blind g mk a qE⟩, gH_rc hK hT hr_o0 shc_14 rfl, fun U hU hW => ⟨rfl, hU, va_K.moved hW.alike hK, hE.call hS hFc hU hW⟩⟩ rfl rfl hl.1 rfl (lv_room (Nat.le_of_ble_eq_true rfl)) dX11_sluice_19 ⟨(Nat.le_of_ble_eq_true rfl), (Nat.le_of_ble_eq_true rfl)⟩) hS (fun q _ h => hFc q h) hFc (fun q _ h => hFc q h) (fun E ce q9 u t H locs ht hvm _ hw29 _ _ hS hce hcv hcl => ?_) (fun u t H locs ht hvm hw29 hB _ _ hS => ?_)
          · obtain ⟨hw29, hTx, hFx⟩ := hw29; rw [ht] at hTx hFx
            exact vx_out (fun x h => (hnt x h).elim) hlocks hce hcv hcl (fun t2 h2 hW => ⟨(), trivial, ⟨((fun h9 => (Or.inr (Or.inr h9))) hw29), by rw [h2]; exact hTx, by rw [h2]; exact hF.more hFx (by decide)⟩, hS.F h2⟩) hS.2.2 (by decide) (by decide)
          · obtain ⟨hT, hF1⟩ := hB
            rw [ht] at hT hF1
            have m30 := (hF1.fld hr_o0 skc_14 (k := 1) (by decide) (by decide)).trans m23
            have m31 := (hF1.fld hg25 skc_6 (k := 3) (by decide) (by decide)).trans m26
            have hF := hF.more hF1 (by decide)
            try dsimp only at hw29
            have hf32 := hw29
            refine lv_aload_n hx hb dX11_sluice_22 rfl (lv_at hl 0 rfl) ?_
            refine tw_getM (v := .ref b24) hx hb hts bF2_X11 hown hK hT hr_o0 shc_14 rfl 1 (by decide) (ht_at2 hts 15 rfl) (fun _ h9 => h9) m30 dX11_sluice_23 ?_
            refine lv_iload_n hx hb dX11_sluice_26 rfl (lv_at hl 1 rfl) ?_
            have hFc := gA_free hG hA hS
            refine va_calli (va_runV (As := [.int p0]) (rest := []) ⟨hx, hb, hml, hown, hts⟩ (c_isFreeLand l dC dI kA adK adV G H nC nS b24 p0 hT hg25 (by have q8 := ti_all p0; omega) (by omega) (by omega)) (cwV 1 hts (goodIn_app (goodIn_r _ [31, 32, 33, 30] rfl (by decide +kernel)) (goodIn_ca (goodIn_r _ [22, 23, 24, 25, 26, 27, 28, 29, 30] rfl (by decide +kernel)) (bs2_in _ _))) rfl rfl rfl (by decide +kernel) ⟨(Nat.le_of_ble_eq_true rfl), (Nat.le_of_ble_eq_true rfl)⟩) ⟨fun a U g mk q => by obtain ⟨q0, q1, qK, qE⟩ := q; exact ⟨q0, q1, va_K.moved (u := U) (U := U.calling g mk a) (Vm.Alike.refl U.vm) qK, EVC.blind g mk a qE⟩, gH_rc hK hT hg25 shc_6 rfl, fun U hU hW => ⟨rfl, hU, va_K.moved hW.alike hK, hE.call hS hFc hU hW⟩⟩ rfl rfl hl.1 rfl (lv_room (Nat.le_of_ble_eq_true rfl)) dX11_sluice_27 ⟨(Nat.le_of_ble_eq_true rfl), (Nat.le_of_ble_eq_true rfl)⟩) hS (fun q _ h => hFc q h) hFc (fun r33 u t H locs ht hvm hw34 hB _ _ hS => ?_)
            obtain ⟨hT, hF1⟩ := hB
            rw [ht] at hT hF1
            have m35 := (hF1.fld hr_o0 skc_14 (k := 1) (by decide) (by decide)).trans m30
            have m36 := (hF1.fld hg25 skc_6 (k := 3) (by decide) (by decide)).trans m31
            have hF := hF.more hF1 (by decide)
            try dsimp only at hw34
            have h37 := hw34
            refine lv_if_eq (tgt := 45) hx hb dX11_sluice_30 (by decide) (fun c38 => ?_) (fun c38 => ?_)
            · have t39 : r33.toInt = 0 := ti_eq c38 rfl (by decide)
              refine lv_iconst (v := (-1)) hx hb dX11_sluice_45 (by decide) ?_
              exact vx_ret (W.iret (v := (-1)) hx hb hr (fun t ht hW => ⟨⟨(-1), (), rfl, (by exact (rg_t (a := (-1)) (by decide) (by first | decide | omega) (by first | decide | omega))), by (try dsimp only); rw [ht]; exact ⟨hT, hF⟩⟩, hS.F ht⟩) hS.2.2 dX11_sluice_46)
            · have t40 : r33.toInt ≠ 0 := ti_ne c38 rfl (by decide)
              refine lv_aload_n hx hb dX11_sluice_33 rfl (lv_at hl 0 rfl) ?_
              refine tw_getM (v := .ref b24) hx hb hts bF2_X11 hown hK hT hr_o0 shc_14 rfl 1 (by decide) (ht_at2 hts 15 rfl) (fun _ h9 => h9) m35 dX11_sluice_34 ?_
              refine lv_iload_n hx hb dX11_sluice_37 rfl (lv_at hl 1 rfl) ?_
              refine lv_iload_n hx hb dX11_sluice_38 rfl (lv_at hl 2 rfl) ?_
              have hFc := gA_free hG hA hS
              refine va_calli (va_runV (As := [.int p0, .int p1]) (rest := []) ⟨hx, hb, hml, hown, hts⟩ (c_isSeaBeside l dC dI kA adK adV G H nC nS b24 p0 p1 hT hg25 (by have q8 := ti_all p0; omega) (by have q8 := ti_all p1; omega) (by omega) (by omega)) (cwV 2 hts (goodIn_app (goodIn_r _ [41, 42, 43, 30] rfl (by decide +kernel)) (goodIn_ca (goodIn_r _ [34, 23, 35, 36, 37, 38, 39, 5, 40] rfl (by decide +kernel)) (bs2_in _ _))) rfl rfl rfl (by decide +kernel) ⟨(Nat.le_of_ble_eq_true rfl), (Nat.le_of_ble_eq_true rfl)⟩) ⟨fun a U g mk q => by obtain ⟨q0, q1, qK, qE⟩ := q; exact ⟨q0, q1, va_K.moved (u := U) (U := U.calling g mk a) (Vm.Alike.refl U.vm) qK, EVC.blind g mk a qE⟩, gH_rc hK hT hg25 shc_6 rfl, fun U hU hW => ⟨rfl, hU, va_K.moved hW.alike hK, hE.call hS hFc hU hW⟩⟩ rfl rfl hl.1 rfl (lv_room (Nat.le_of_ble_eq_true rfl)) dX11_sluice_39 ⟨(Nat.le_of_ble_eq_true rfl), (Nat.le_of_ble_eq_true rfl)⟩) hS (fun q _ h => hFc q h) hFc (fun r41 u t H locs ht hvm hw42 hB _ _ hS => ?_)
              obtain ⟨hT, hF1⟩ := hB
              rw [ht] at hT hF1
              have m43 := (hF1.fld hr_o0 skc_14 (k := 1) (by decide) (by decide)).trans m35
              have m44 := (hF1.fld hg25 skc_6 (k := 3) (by decide) (by decide)).trans m36
              have hF := hF.more hF1 (by decide)
              try dsimp only at hw42
              have h45 := hw42
              refine lv_if_ne (tgt := 47) hx hb dX11_sluice_42 (by decide) (fun c46 => ?_) (fun c46 => ?_)
              · have t47 : r41.toInt ≠ 0 := ti_ne c46 rfl (by decide)
                refine lv_aload_n hx hb dX11_sluice_47 rfl (lv_at hl 0 rfl) ?_
                refine tw_get hx hb hts bF2_X11 hown hK hT hr_o0 shc_14 rfl 2 (by decide) (ht_at2 hts 43 rfl) (fun _ h9 => h9) dX11_sluice_48 (fun v9 m48 h9 => ?_)
                obtain ⟨b49, rfl, hg50⟩ := h9 _ rfl
                have hFc := gA_free hG hA hS
                refine va_callv (va_runV (As := []) (rest := []) ⟨hx, hb, hml, hown, hts⟩ (c_forget l dC dI kA adK adV G H nC nS b49 hT hg50 (by omega) (by omega)) (cwV 0 hts (goodIn_app (goodIn_r _ [48, 49, 50, 51] rfl (by decide +kernel)) (goodIn_ca (goodIn_r _ [45, 46, 47] rfl (by decide +kernel)) (bs2_in _ _))) rfl rfl rfl (by decide +kernel) ⟨(Nat.le_of_ble_eq_true rfl), (Nat.le_of_ble_eq_true rfl)⟩) ⟨fun a U g mk q => by obtain ⟨q0, q1, qK, qE⟩ := q; exact ⟨q0, q1, va_K.moved (u := U) (U := U.calling g mk a) (Vm.Alike.refl U.vm) qK, EVC.blind g mk a qE⟩, gH_rc hK hT hg50 shc_9 rfl, fun U hU hW => ⟨rfl, hU, va_K.moved hW.alike hK, hE.call hS hFc hU hW⟩⟩ rfl rfl hl.1 rfl (lv_room (Nat.le_of_ble_eq_true rfl)) dX11_sluice_51 ⟨(Nat.le_of_ble_eq_true rfl), (Nat.le_of_ble_eq_true rfl)⟩) hS (fun q _ h => hFc q h) hFc (fun u t H locs ht hvm hw52 hB _ _ hS => ?_)
                obtain ⟨hT, hF1⟩ := hB
                rw [ht] at hT hF1
                have m53 := (hF1.fld hr_o0 skc_14 (k := 1) (by decide) (by decide)).trans m43
                have m54 := (hF1.fld hg25 skc_6 (k := 3) (by decide) (by decide)).trans m44
                have hF := hF.more hF1 (by decide)
                try dsimp only at hw52
                refine lv_aload_n hx hb dX11_sluice_54 rfl (lv_at hl 0 rfl) ?_
                refine tw_getM (v := .ref b24) hx hb hts bF2_X11 hown hK hT hr_o0 shc_14 rfl 1 (by decide) (ht_at2 hts 15 rfl) (fun _ h9 => h9) m53 dX11_sluice_55 ?_
                refine lv_iconst (v := 4) hx hb dX11_sluice_58 (by decide) ?_
                refine lv_iload_n hx hb dX11_sluice_59 rfl (lv_at hl 1 rfl) ?_
                refine lv_iload_n hx hb dX11_sluice_60 rfl (lv_at hl 2 rfl) ?_
                refine lv_iload_n hx hb dX11_sluice_61 rfl (lv_at hl 3 rfl) ?_
                have hFc := gA_free hG hA hS
                refine va_calli (va_runV (As := [.int 4, .int p0, .int p1, .int p2]) (rest := []) ⟨hx, hb, hml, hown, hts⟩ (c_build l dC dI kA adK adV G H nC nS b24 4 p0 p1 p2 x27 hT hg25 m54 (by have q8 := ti_all p0; omega) (by have q8 := ti_all p1; omega) (by have q8 := ti_all x27; omega) (by omega) (by omega)) (cwV 4 hts (goodIn_app (goodIn_r _ [68, 69, 70, 30] rfl (by decide +kernel)) (goodIn_ca (goodIn_r _ [52, 26, 25, 53, 54, 55, 56, 57, 58, 59, 60, 61, 62, 63, 64, 65, 66, 67] rfl (by decide +kernel)) (bs2_in _ _))) rfl rfl rfl (by decide +kernel) ⟨(Nat.le_of_ble_eq_true rfl), (Nat.le_of_ble_eq_true rfl)⟩) ⟨fun a U g mk q => by obtain ⟨q0, q1, qK, qE⟩ := q; exact ⟨q0, q1, va_K.moved (u := U) (U := U.calling g mk a) (Vm.Alike.refl U.vm) qK, EVC.blind g mk a qE⟩, gH_rc hK hT hg25 shc_6 rfl, fun U hU hW => ⟨rfl, hU, va_K.moved hW.alike hK, hE.call hS hFc hU hW⟩⟩ rfl rfl hl.1 rfl (lv_room (Nat.le_of_ble_eq_true rfl)) dX11_sluice_62 ⟨(Nat.le_of_ble_eq_true rfl), (Nat.le_of_ble_eq_true rfl)⟩) hS (fun q _ h => hFc q h) hFc (fun r56 u t H locs ht hvm hw57 hB _ _ hS => ?_)
                obtain ⟨hT, hF1⟩ := hB
                rw [ht] at hT hF1
                have hF := hF.more hF1 (by decide)
                try dsimp only at hw57
                have h61 := hw57
                exact vx_ret (W.iret (v := r56) hx hb hr (fun t ht hW => ⟨⟨r56, (), rfl, (by exact (by have q8 := ti_all r56; omega)), by (try dsimp only); rw [ht]; exact ⟨hT, hF⟩⟩, hS.F ht⟩) hS.2.2 dX11_sluice_65)
              · have t62 : r41.toInt = 0 := ti_eq c46 rfl (by decide)
                refine lv_iconst (v := (-1)) hx hb dX11_sluice_45 (by decide) ?_
                exact vx_ret (W.iret (v := (-1)) hx hb hr (fun t ht hW => ⟨⟨(-1), (), rfl, (by exact (rg_t (a := (-1)) (by decide) (by first | decide | omega) (by first | decide | omega))), by (try dsimp only); rw [ht]; exact ⟨hT, hF⟩⟩, hS.F ht⟩) hS.2.2 dX11_sluice_46)
def w_c_turn : List Cond := .code yX11_turn cX11_turn 5 (some .boolean) :: (HAppend.hAppend (α := List Cond) (β := List Cond) (γ := List Cond) [.code yX11_workOf cX11_workOf 2 (some (.object "SeaLand$Work")), .fieldLink RX11 16 "SeaLand" "lake" "LSeaLand$Lake;", .code yX11_within cX11_within 3 (some .boolean), .methodLink RX11 58 yX11_within, .static yX11_within, .initialized RX11, .classLink RX11 557 "java/lang/IndexOutOfBoundsException", .initialized "java/lang/IndexOutOfBoundsException", .methodLink RX11 167 yX11_workOf, .instanceMethod yX11_workOf, .selects RX11 yX11_workOf yX11_workOf, .code yX11_needKind cX11_needKind 1 none, .methodLink RX11 177 yX11_needKind, .static yX11_needKind, .fieldLink RX11 23 "SeaLand" "rows" "LSeaLand$Rows;", .code yX6_forget cX6_forget 1 none, .fieldLink RX6 18 "SeaLand$Rows" "kept" "I", .fieldLink RX6 22 "SeaLand$Rows" "oldest" "I", .methodLink RX11 76 yX6_forget, .instanceMethod yX6_forget, .selects RX6 yX6_forget yX6_forget, .initialized RX6, .classLink RX11 552 "java/lang/ClassCastException", .initialized "java/lang/ClassCastException"] bs2)
set_option maxHeartbeats 4000000 in
set_option maxRecDepth 100000 in
theorem c_turn (l : Launch) (hlt : l.stackTraces = false) (dC : Nat → ClassId) (dI : Nat → Nat → Nat) (kA : Nat → ClassId) (adK adV : Nat → Nat) (G : gT) (H0 : Heap) (nC nS : Int) (o0 : Nat) (p0 : Int32) (p1 : Int32)  (hT : gH (dC, dI) kA (SHc nC nS) G H0) (hr_o0 : G o0 = some 14) (hq0 : 0 ≤ p1.toInt ∧ p1.toInt ≤ 1) (hgC : 0 ≤ nC ∧ nC ≤ 40) (hgS : 0 ≤ nS ∧ nS ≤ 60) : vx_Met l yX11_turn w_c_turn ({ frames := 7, cells := 2, slots := 12, locals := 121 }) (va_Pc [.ref o0, .int p0, .int p1] (fun U => U.heap = H0 ∧ va_K (dC, dI) vwCl (tyl kA) U ∧ EVC adK adV (gA G H0.size) U U.heap)) (va_Qi (fun (r : Int32) (u : Unit) => (0 ≤ r.toInt ∧ r.toInt ≤ 1)) (fun (_ : Unit) (t : State) => gH (dC, dI) kA (SHc nC nS) G t.heap ∧ gF (dC, dI) SKc G ([(9, 2), (9, 3), (13, 9)] : List (Nat × Nat)) H0 t.heap) (gA G H0.size)) (vx_X (fun _ : Unit => True) (fun E _ t => (E = "java/lang/ClassCastException" ∨ E = "java/lang/IndexOutOfBoundsException") ∧ gH (dC, dI) kA (SHc nC nS) G t.heap ∧ gF (dC, dI) SKc G ([(9, 2), (9, 3), (13, 9)] : List (Nat × Nat)) H0 t.heap) (gA G H0.size)) 2 12 (gA G H0.size) := by
  refine vx_ofW (cc := cX11_turn) (maxL := 5) (ret := (some .boolean)) (by decide) rfl ?_
  intro p e s m args below meth c s₁ B hml hnt hv
  obtain ⟨rfl, hH0, hK, hE⟩ := hv
  have hx := B.exec
  have hb := B.bytes
  have hr := B.returns
  have hts := atoms_spec (ws := w_c_turn) B.pre
  have hown : s.vm.findClass RX11 = some m.cls := findClass_of_methodNamed B.named
  have hlocks := B.notSynchronized
  subst hH0
  generalize hAe : gA G s.heap.size = A at hE ⊢
  have hA : ∀ q : Nat, s.heap.size ≤ q → A q := fun q h => by rw [← hAe]; exact Or.inr h
  have hG := gA_of hAe
  have hS : va_S A s.heap s.heap [] := va_S.rf
  have hF : gF (dC, dI) SKc G ([(9, 2), (9, 3), (13, 9)] : List (Nat × Nat)) s.heap s.heap := gF.rf
  have hl := lv_entry ([.ref o0, .int p0, .int p1]) (n := 5) (Nat.le_of_ble_eq_true rfl)
  rw [lg_entry_eq]
  generalize (lg_sl ([.ref o0, .int p0, .int p1]) ++ List.replicate (5 - (lg_sl ([.ref o0, .int p0, .int p1])).length) Slot.unset).toArray = ls at hl ⊢
  have hl : lv_has ls 5 [(0, .ref o0), (1, .int p0), (2, .int p1)] := hl
  refine lv_aload_n hx hb dX11_turn_0 rfl (lv_at hl 0 rfl) ?_
  refine lv_iload_n hx hb dX11_turn_1 rfl (lv_at hl 1 rfl) ?_
  have hFc := gA_free hG hA hS
  refine vx_callr (vx_runV (As := [.int p0]) (rest := []) ⟨hx, hb, hml, hown, hts⟩ (c_workOf l hlt dC dI kA adK adV G s.heap nC nS o0 p0 hT hr_o0 (by omega) (by omega)) (cwV 1 hts (goodIn_app (goodIn_r _ [9, 10, 11, 6] rfl (by decide +kernel)) (goodIn_ca (goodIn_r _ [1, 2, 3, 4, 5, 6, 7, 8] rfl (by decide +kernel)) (bs2_in _ _))) rfl rfl rfl (by decide +kernel) ⟨(Nat.le_of_ble_eq_true rfl), (Nat.le_of_ble_eq_true rfl)⟩) ⟨fun a U g mk q => by obtain ⟨q0, q1, qK, qE⟩ := q; exact ⟨q0, q1, va_K.moved (u := U) (U := U.calling g mk a) (Vm.Alike.refl U.vm) qK, EVC.blind g mk a qE⟩, gH_rc hK hT hr_o0 shc_14 rfl, fun U hU hW => ⟨rfl, hU, va_K.moved hW.alike hK, hE.call hS hFc hU hW⟩⟩ rfl rfl hl.1 rfl (lv_room (Nat.le_of_ble_eq_true rfl)) dX11_turn_2 ⟨(Nat.le_of_ble_eq_true rfl), (Nat.le_of_ble_eq_true rfl)⟩) hS (fun q _ h => hFc q h) hFc (fun q _ h => hFc q h) (fun E ce q9 u t H locs ht hvm _ hw2 _ _ hS hce hcv hcl => ?_) (fun u r1 t H locs ht hvm hw2 hB _ _ hS => ?_)
  · obtain ⟨hw2, hTx, hFx⟩ := hw2; rw [ht] at hTx hFx
    exact vx_out (fun x h => (hnt x h).elim) hlocks hce hcv hcl (fun t2 h2 hW => ⟨(), trivial, ⟨((fun h9 => (Or.inr h9)) hw2), by rw [h2]; exact hTx, by rw [h2]; exact hF.more hFx (by decide)⟩, hS.F h2⟩) hS.2.2 (by decide) (by decide)
  · obtain ⟨hr9, hT, hF1⟩ := hB
    rw [ht] at hT hF1
    have hF := hF.more hF1 (by decide)
    have hg3 := hr9
    try dsimp only at hw2
    refine lv_astore_n (lv' := [(3, .ref r1), (0, .ref o0), (1, .int p0), (2, .int p1)]) hx hb dX11_turn_5 rfl hl (by decide) rfl (fun ls hl => ?_)
    refine lv_aload_n hx hb dX11_turn_6 rfl (lv_at hl 0 rfl) ?_
    refine tw_getN hx hb hts bF2_X10 hown hK hT hg3 shc_13 rfl 2 (by decide) (hE.nw 10 rfl) (fun _ h9 => h9) dX11_turn_7 (fun v9 m4 h9 => ?_)
    obtain ⟨x5, rfl, gx5, kx5⟩ := h9 _ rfl
    refine lv_iconst (v := 3) hx hb dX11_turn_10 (by decide) ?_
    have t6 : -2147483648 ≤ x5.toInt ∧ x5.toInt ≤ 2147483647 := ti_all x5
    refine lv_icmp_eq (tgt := 22) hx hb dX11_turn_11 (by decide) (fun c7 => ?_) (fun c7 => ?_)
    · have t8 : x5.toInt = 3 := ti_eq c7 rfl (by decide)
      refine lv_iconst (v := 1) hx hb dX11_turn_22 (by decide) ?_
      refine lv_goto (tgt := 27) hx hb dX11_turn_23 (by decide) ?_
      have hFc := gA_free hG hA hS
      refine vx_callv (vx_runS (As := [.int 1]) (rest := []) ⟨hx, hb, hml, hown, hts⟩ (c_needKind1 l hlt dC dI kA adK adV G H nC nS hT (by omega) (by omega)) (va_cwS 1 hts (goodIn_app (goodIn_r _ [13, 14, 6] rfl (by decide +kernel)) (goodIn_ca (goodIn_r _ [12] rfl (by decide +kernel)) (bs2_in _ _))) rfl rfl rfl (by decide +kernel) ⟨(Nat.le_of_ble_eq_true rfl), (Nat.le_of_ble_eq_true rfl)⟩) ⟨fun a U g mk q => by obtain ⟨q0, q1, qK, qE⟩ := q; exact ⟨q0, q1, va_K.moved (u := U) (U := U.calling g mk a) (Vm.Alike.refl U.vm) qK, EVC.blind g mk a qE⟩, fun U hU hW => ⟨rfl, hU, va_K.moved hW.alike hK, hE.call hS hFc hU hW⟩⟩ rfl rfl hl.1 rfl (lv_room (Nat.le_of_ble_eq_true rfl)) dX11_turn_27 ⟨(Nat.le_of_ble_eq_true rfl), (Nat.le_of_ble_eq_true rfl)⟩) hS (fun q _ h => hFc q h) hFc (fun q _ h => hFc q h) (fun E ce q9 u t H locs ht hvm _ hw10 _ _ hS hce hcv hcl => ?_) (fun u t H locs ht hvm hw10 hB _ _ hS => ?_)
      · obtain ⟨hw10, hTx, hFx⟩ := hw10; rw [ht] at hTx hFx
        exact vx_out (fun x h => (hnt x h).elim) hlocks hce hcv hcl (fun t2 h2 hW => ⟨(), trivial, ⟨((fun h9 => (Or.inl h9)) hw10), by rw [h2]; exact hTx, by rw [h2]; exact hF.more hFx (by decide)⟩, hS.F h2⟩) hS.2.2 (by decide) (by decide)
      · obtain ⟨hT, hF1⟩ := hB
        rw [ht] at hT hF1
        have hF := hF.more hF1 (by decide)
        try dsimp only at hw10
        refine lv_aload_n hx hb dX11_turn_30 rfl (lv_at hl 1 rfl) ?_
        refine tw_get hx hb hts bF2_X11 hown hK hT hr_o0 shc_14 rfl 2 (by decide) (ht_at2 hts 14 rfl) (fun _ h9 => h9) dX11_turn_31 (fun v9 m12 h9 => ?_)
        obtain ⟨b13, rfl, hg14⟩ := h9 _ rfl
        have hFc := gA_free hG hA hS
        refine va_callv (va_runV (As := []) (rest := []) ⟨hx, hb, hml, hown, hts⟩ (c_forget l dC dI kA adK adV G H nC nS b13 hT hg14 (by omega) (by omega)) (cwV 0 hts (goodIn_app (goodIn_r _ [19, 20, 21, 22] rfl (by decide +kernel)) (goodIn_ca (goodIn_r _ [16, 17, 18] rfl (by decide +kernel)) (bs2_in _ _))) rfl rfl rfl (by decide +kernel) ⟨(Nat.le_of_ble_eq_true rfl), (Nat.le_of_ble_eq_true rfl)⟩) ⟨fun a U g mk q => by obtain ⟨q0, q1, qK, qE⟩ := q; exact ⟨q0, q1, va_K.moved (u := U) (U := U.calling g mk a) (Vm.Alike.refl U.vm) qK, EVC.blind g mk a qE⟩, gH_rc hK hT hg14 shc_9 rfl, fun U hU hW => ⟨rfl, hU, va_K.moved hW.alike hK, hE.call hS hFc hU hW⟩⟩ rfl rfl hl.1 rfl (lv_room (Nat.le_of_ble_eq_true rfl)) dX11_turn_34 ⟨(Nat.le_of_ble_eq_true rfl), (Nat.le_of_ble_eq_true rfl)⟩) hS (fun q _ h => hFc q h) hFc (fun u t H locs ht hvm hw16 hB _ _ hS => ?_)
        obtain ⟨hT, hF1⟩ := hB
        rw [ht] at hT hF1
        have hF := hF.more hF1 (by decide)
        try dsimp only at hw16
        refine lv_aload_n hx hb dX11_turn_37 rfl (lv_at hl 0 rfl) ?_
        refine tw_getN hx hb hts bF2_X10 hown hK hT hg3 shc_13 rfl 9 (by decide) (hE.nw 11 rfl) (fun _ h9 => h9) dX11_turn_38 (fun v9 m19 h9 => ?_)
        obtain ⟨x20, rfl, gx20, kx20⟩ := h9 _ rfl
        refine lv_iload_n hx hb dX11_turn_41 rfl (lv_at hl 3 rfl) ?_
        refine lv_icmp_eq (tgt := 49) hx hb dX11_turn_42 (by decide) (fun c21 => ?_) (fun c21 => ?_)
        · have t22 : x20.toInt = p1.toInt := ti_eq c21 rfl rfl
          refine lv_iconst (v := 0) hx hb dX11_turn_49 (by decide) ?_
          refine lv_istore (lv' := [(4, .int 0), (3, .ref r1), (0, .ref o0), (1, .int p0), (2, .int p1)]) hx hb dX11_turn_50 hl (by decide) rfl (fun ls hl => ?_)
          refine lv_aload_n hx hb dX11_turn_52 rfl (lv_at hl 1 rfl) ?_
          refine lv_iload_n hx hb dX11_turn_53 rfl (lv_at hl 4 rfl) ?_
          refine tw_putN (v := .int p1) (ty := .boolean) hx hb hts bF2_X10 tyX10 tyX10_ok nmX10 hown hK hT hG hS hg3 shc_13 rfl 9 (by decide) (hE.nw 11 rfl) (fun _ h9 => h9) rfl (by decide +kernel) (nar_b (by have q8 := ti_all p1; omega)) (fit_b (by have q8 := ti_all p1; omega)) (gl_at rfl (gi_of (show p1.toInt = p1.toInt from rfl) (by omega) (by omega))) dX11_turn_54 (fun H locs hT oq m23 oj hS => ?_)
          have hF := hF.put hg3 skc_13 oq oj (by decide)
          refine lv_iload hx hb dX11_turn_57 (lv_at hl 0 rfl) ?_
          refine W.widen (k := 2) (n := 12) (by decide) (by decide) ?_
          exact vx_ret (W.zret (v := 0) hx hb hr (by decide) (fun t ht hW => ⟨⟨0, (), rfl, (by exact (rg_t (a := 0) (by decide) (by first | decide | omega) (by first | decide | omega))), by (try dsimp only); rw [ht]; exact ⟨hT, hF⟩⟩, hS.F ht⟩) hS.2.2 dX11_turn_59)
        · have t26 : x20.toInt ≠ p1.toInt := ti_ne c21 rfl rfl
          refine lv_iconst (v := 1) hx hb dX11_turn_45 (by decide) ?_
          refine lv_goto (tgt := 50) hx hb dX11_turn_46 (by decide) ?_
          refine lv_istore (lv' := [(4, .int 1), (3, .ref r1), (0, .ref o0), (1, .int p0), (2, .int p1)]) hx hb dX11_turn_50 hl (by decide) rfl (fun ls hl => ?_)
          refine lv_aload_n hx hb dX11_turn_52 rfl (lv_at hl 1 rfl) ?_
          refine lv_iload_n hx hb dX11_turn_53 rfl (lv_at hl 4 rfl) ?_
          refine tw_putN (v := .int p1) (ty := .boolean) hx hb hts bF2_X10 tyX10 tyX10_ok nmX10 hown hK hT hG hS hg3 shc_13 rfl 9 (by decide) (hE.nw 11 rfl) (fun _ h9 => h9) rfl (by decide +kernel) (nar_b (by have q8 := ti_all p1; omega)) (fit_b (by have q8 := ti_all p1; omega)) (gl_at rfl (gi_of (show p1.toInt = p1.toInt from rfl) (by omega) (by omega))) dX11_turn_54 (fun H locs hT oq m27 oj hS => ?_)
          have hF := hF.put hg3 skc_13 oq oj (by decide)
          refine lv_iload hx hb dX11_turn_57 (lv_at hl 0 rfl) ?_
          refine W.widen (k := 2) (n := 12) (by decide) (by decide) ?_
          exact vx_ret (W.zret (v := 1) hx hb hr (by decide) (fun t ht hW => ⟨⟨1, (), rfl, (by exact (rg_t (a := 1) (by decide) (by first | decide | omega) (by first | decide | omega))), by (try dsimp only); rw [ht]; exact ⟨hT, hF⟩⟩, hS.F ht⟩) hS.2.2 dX11_turn_59)
    · have t30 : x5.toInt ≠ 3 := ti_ne c7 rfl (by decide)
      refine lv_aload_n hx hb dX11_turn_14 rfl (lv_at hl 0 rfl) ?_
      refine tw_getNM (v := .int x5) hx hb hts bF2_X10 hown hK hT hg3 shc_13 rfl 2 (by decide) (hE.nw 10 rfl) (fun _ h9 => h9) m4 dX11_turn_15 ?_
      refine lv_iconst (v := 4) hx hb dX11_turn_18 (by decide) ?_
      refine lv_icmp_ne (tgt := 26) hx hb dX11_turn_19 (by decide) (fun c31 => ?_) (fun c31 => ?_)
      · have t32 : x5.toInt ≠ 4 := ti_ne c31 rfl (by decide)
        refine lv_iconst (v := 0) hx hb dX11_turn_26 (by decide) ?_
        have hFc := gA_free hG hA hS
        refine vx_callN (vx_runS (As := [.int 0]) (rest := []) ⟨hx, hb, hml, hown, hts⟩ (c_needKind0 l hlt dC dI kA adK adV G H nC nS hT (by omega) (by omega)) (va_cwS 1 hts (goodIn_app (goodIn_r _ [13, 14, 6] rfl (by decide +kernel)) (goodIn_ca (goodIn_r _ [12, 23, 24] rfl (by decide +kernel)) (bs2_in _ _))) rfl rfl rfl (by decide +kernel) ⟨(Nat.le_of_ble_eq_true rfl), (Nat.le_of_ble_eq_true rfl)⟩) ⟨fun a U g mk q => by obtain ⟨q0, q1, qK, qE⟩ := q; exact ⟨q0, q1, va_K.moved (u := U) (U := U.calling g mk a) (Vm.Alike.refl U.vm) qK, EVC.blind g mk a qE⟩, fun U hU hW => ⟨rfl, hU, va_K.moved hW.alike hK, hE.call hS hFc hU hW⟩⟩ rfl rfl hl.1 rfl (lv_room (Nat.le_of_ble_eq_true rfl)) dX11_turn_27 ⟨(Nat.le_of_ble_eq_true rfl), (Nat.le_of_ble_eq_true rfl)⟩) hS hFc (fun q _ h => hFc q h) (fun E ce q9 u t H locs ht hvm _ hw34 _ _ hS hce hcv hcl => ?_)
        obtain ⟨hw34, hTx, hFx⟩ := hw34; rw [ht] at hTx hFx
        exact vx_out (fun x h => (hnt x h).elim) hlocks hce hcv hcl (fun t2 h2 hW => ⟨(), trivial, ⟨((fun h9 => (Or.inl h9)) hw34), by rw [h2]; exact hTx, by rw [h2]; exact hF.more hFx (by decide)⟩, hS.F h2⟩) hS.2.2 (by decide) (by decide)
      · have t35 : x5.toInt = 4 := ti_eq c31 rfl (by decide)
        refine lv_iconst (v := 1) hx hb dX11_turn_22 (by decide) ?_
        refine lv_goto (tgt := 27) hx hb dX11_turn_23 (by decide) ?_
        have hFc := gA_free hG hA hS
        refine vx_callv (vx_runS (As := [.int 1]) (rest := []) ⟨hx, hb, hml, hown, hts⟩ (c_needKind1 l hlt dC dI kA adK adV G H nC nS hT (by omega) (by omega)) (va_cwS 1 hts (goodIn_app (goodIn_r _ [13, 14, 6] rfl (by decide +kernel)) (goodIn_ca (goodIn_r _ [12] rfl (by decide +kernel)) (bs2_in _ _))) rfl rfl rfl (by decide +kernel) ⟨(Nat.le_of_ble_eq_true rfl), (Nat.le_of_ble_eq_true rfl)⟩) ⟨fun a U g mk q => by obtain ⟨q0, q1, qK, qE⟩ := q; exact ⟨q0, q1, va_K.moved (u := U) (U := U.calling g mk a) (Vm.Alike.refl U.vm) qK, EVC.blind g mk a qE⟩, fun U hU hW => ⟨rfl, hU, va_K.moved hW.alike hK, hE.call hS hFc hU hW⟩⟩ rfl rfl hl.1 rfl (lv_room (Nat.le_of_ble_eq_true rfl)) dX11_turn_27 ⟨(Nat.le_of_ble_eq_true rfl), (Nat.le_of_ble_eq_true rfl)⟩) hS (fun q _ h => hFc q h) hFc (fun q _ h => hFc q h) (fun E ce q9 u t H locs ht hvm _ hw37 _ _ hS hce hcv hcl => ?_) (fun u t H locs ht hvm hw37 hB _ _ hS => ?_)
        · obtain ⟨hw37, hTx, hFx⟩ := hw37; rw [ht] at hTx hFx
          exact vx_out (fun x h => (hnt x h).elim) hlocks hce hcv hcl (fun t2 h2 hW => ⟨(), trivial, ⟨((fun h9 => (Or.inl h9)) hw37), by rw [h2]; exact hTx, by rw [h2]; exact hF.more hFx (by decide)⟩, hS.F h2⟩) hS.2.2 (by decide) (by decide)
        · obtain ⟨hT, hF1⟩ := hB
          rw [ht] at hT hF1
          have hF := hF.more hF1 (by decide)
          try dsimp only at hw37
          refine lv_aload_n hx hb dX11_turn_30 rfl (lv_at hl 1 rfl) ?_
          refine tw_get hx hb hts bF2_X11 hown hK hT hr_o0 shc_14 rfl 2 (by decide) (ht_at2 hts 14 rfl) (fun _ h9 => h9) dX11_turn_31 (fun v9 m39 h9 => ?_)
          obtain ⟨b40, rfl, hg41⟩ := h9 _ rfl
          have hFc := gA_free hG hA hS
          refine va_callv (va_runV (As := []) (rest := []) ⟨hx, hb, hml, hown, hts⟩ (c_forget l dC dI kA adK adV G H nC nS b40 hT hg41 (by omega) (by omega)) (cwV 0 hts (goodIn_app (goodIn_r _ [19, 20, 21, 22] rfl (by decide +kernel)) (goodIn_ca (goodIn_r _ [16, 17, 18] rfl (by decide +kernel)) (bs2_in _ _))) rfl rfl rfl (by decide +kernel) ⟨(Nat.le_of_ble_eq_true rfl), (Nat.le_of_ble_eq_true rfl)⟩) ⟨fun a U g mk q => by obtain ⟨q0, q1, qK, qE⟩ := q; exact ⟨q0, q1, va_K.moved (u := U) (U := U.calling g mk a) (Vm.Alike.refl U.vm) qK, EVC.blind g mk a qE⟩, gH_rc hK hT hg41 shc_9 rfl, fun U hU hW => ⟨rfl, hU, va_K.moved hW.alike hK, hE.call hS hFc hU hW⟩⟩ rfl rfl hl.1 rfl (lv_room (Nat.le_of_ble_eq_true rfl)) dX11_turn_34 ⟨(Nat.le_of_ble_eq_true rfl), (Nat.le_of_ble_eq_true rfl)⟩) hS (fun q _ h => hFc q h) hFc (fun u t H locs ht hvm hw43 hB _ _ hS => ?_)
          obtain ⟨hT, hF1⟩ := hB
          rw [ht] at hT hF1
          have hF := hF.more hF1 (by decide)
          try dsimp only at hw43
          refine lv_aload_n hx hb dX11_turn_37 rfl (lv_at hl 0 rfl) ?_
          refine tw_getN hx hb hts bF2_X10 hown hK hT hg3 shc_13 rfl 9 (by decide) (hE.nw 11 rfl) (fun _ h9 => h9) dX11_turn_38 (fun v9 m46 h9 => ?_)
          obtain ⟨x47, rfl, gx47, kx47⟩ := h9 _ rfl
          refine lv_iload_n hx hb dX11_turn_41 rfl (lv_at hl 3 rfl) ?_
          refine lv_icmp_eq (tgt := 49) hx hb dX11_turn_42 (by decide) (fun c48 => ?_) (fun c48 => ?_)
          · have t49 : x47.toInt = p1.toInt := ti_eq c48 rfl rfl
            refine lv_iconst (v := 0) hx hb dX11_turn_49 (by decide) ?_
            refine lv_istore (lv' := [(4, .int 0), (3, .ref r1), (0, .ref o0), (1, .int p0), (2, .int p1)]) hx hb dX11_turn_50 hl (by decide) rfl (fun ls hl => ?_)
            refine lv_aload_n hx hb dX11_turn_52 rfl (lv_at hl 1 rfl) ?_
            refine lv_iload_n hx hb dX11_turn_53 rfl (lv_at hl 4 rfl) ?_
            refine tw_putN (v := .int p1) (ty := .boolean) hx hb hts bF2_X10 tyX10 tyX10_ok nmX10 hown hK hT hG hS hg3 shc_13 rfl 9 (by decide) (hE.nw 11 rfl) (fun _ h9 => h9) rfl (by decide +kernel) (nar_b (by have q8 := ti_all p1; omega)) (fit_b (by have q8 := ti_all p1; omega)) (gl_at rfl (gi_of (show p1.toInt = p1.toInt from rfl) (by omega) (by omega))) dX11_turn_54 (fun H locs hT oq m50 oj hS => ?_)
            have hF := hF.put hg3 skc_13 oq oj (by decide)
            refine lv_iload hx hb dX11_turn_57 (lv_at hl 0 rfl) ?_
            refine W.widen (k := 2) (n := 12) (by decide) (by decide) ?_
            exact vx_ret (W.zret (v := 0) hx hb hr (by decide) (fun t ht hW => ⟨⟨0, (), rfl, (by exact (rg_t (a := 0) (by decide) (by first | decide | omega) (by first | decide | omega))), by (try dsimp only); rw [ht]; exact ⟨hT, hF⟩⟩, hS.F ht⟩) hS.2.2 dX11_turn_59)
          · have t53 : x47.toInt ≠ p1.toInt := ti_ne c48 rfl rfl
            refine lv_iconst (v := 1) hx hb dX11_turn_45 (by decide) ?_
            refine lv_goto (tgt := 50) hx hb dX11_turn_46 (by decide) ?_
            refine lv_istore (lv' := [(4, .int 1), (3, .ref r1), (0, .ref o0), (1, .int p0), (2, .int p1)]) hx hb dX11_turn_50 hl (by decide) rfl (fun ls hl => ?_)
            refine lv_aload_n hx hb dX11_turn_52 rfl (lv_at hl 1 rfl) ?_
            refine lv_iload_n hx hb dX11_turn_53 rfl (lv_at hl 4 rfl) ?_
            refine tw_putN (v := .int p1) (ty := .boolean) hx hb hts bF2_X10 tyX10 tyX10_ok nmX10 hown hK hT hG hS hg3 shc_13 rfl 9 (by decide) (hE.nw 11 rfl) (fun _ h9 => h9) rfl (by decide +kernel) (nar_b (by have q8 := ti_all p1; omega)) (fit_b (by have q8 := ti_all p1; omega)) (gl_at rfl (gi_of (show p1.toInt = p1.toInt from rfl) (by omega) (by omega))) dX11_turn_54 (fun H locs hT oq m54 oj hS => ?_)
            have hF := hF.put hg3 skc_13 oq oj (by decide)
            refine lv_iload hx hb dX11_turn_57 (lv_at hl 0 rfl) ?_
            refine W.widen (k := 2) (n := 12) (by decide) (by decide) ?_
            exact vx_ret (W.zret (v := 1) hx hb hr (by decide) (fun t ht hW => ⟨⟨1, (), rfl, (by exact (rg_t (a := 1) (by decide) (by first | decide | omega) (by first | decide | omega))), by (try dsimp only); rw [ht]; exact ⟨hT, hF⟩⟩, hS.F ht⟩) hS.2.2 dX11_turn_59)
def w_c_coal : List Cond := .code yX11_coal cX11_coal 4 (some .int) :: (HAppend.hAppend (α := List Cond) (β := List Cond) (γ := List Cond) [.code yX11_workOf cX11_workOf 2 (some (.object "SeaLand$Work")), .fieldLink RX11 16 "SeaLand" "lake" "LSeaLand$Lake;", .code yX11_within cX11_within 3 (some .boolean), .methodLink RX11 58 yX11_within, .static yX11_within, .initialized RX11, .classLink RX11 557 "java/lang/IndexOutOfBoundsException", .initialized "java/lang/IndexOutOfBoundsException", .methodLink RX11 167 yX11_workOf, .instanceMethod yX11_workOf, .selects RX11 yX11_workOf yX11_workOf, .code yX11_needNumbers cX11_needNumbers 1 none, .classLink RX11 547 "java/lang/IllegalArgumentException", .initialized "java/lang/IllegalArgumentException", .methodLink RX11 62 yX11_needNumbers, .static yX11_needNumbers, .constant RX11 96 100000, .code yX11_needKind cX11_needKind 1 none, .classLink RX11 552 "java/lang/ClassCastException", .initialized "java/lang/ClassCastException", .methodLink RX11 177 yX11_needKind, .static yX11_needKind, .fieldLink RX11 23 "SeaLand" "rows" "LSeaLand$Rows;", .code yX6_forget cX6_forget 1 none, .fieldLink RX6 18 "SeaLand$Rows" "kept" "I", .fieldLink RX6 22 "SeaLand$Rows" "oldest" "I", .methodLink RX11 76 yX6_forget, .instanceMethod yX6_forget, .selects RX6 yX6_forget yX6_forget, .initialized RX6] bs2)
set_option maxHeartbeats 4000000 in
set_option maxRecDepth 100000 in
theorem c_coal (l : Launch) (hlt : l.stackTraces = false) (dC : Nat → ClassId) (dI : Nat → Nat → Nat) (kA : Nat → ClassId) (adK adV : Nat → Nat) (G : gT) (H0 : Heap) (nC nS : Int) (o0 : Nat) (p0 : Int32) (p1 : Int32)  (hT : gH (dC, dI) kA (SHc nC nS) G H0) (hr_o0 : G o0 = some 14) (hgC : 0 ≤ nC ∧ nC ≤ 40) (hgS : 0 ≤ nS ∧ nS ≤ 60) : vx_Met l yX11_coal w_c_coal ({ frames := 7, cells := 2, slots := 12, locals := 121 }) (va_Pc [.ref o0, .int p0, .int p1] (fun U => U.heap = H0 ∧ va_K (dC, dI) vwCl (tyl kA) U ∧ EVC adK adV (gA G H0.size) U U.heap)) (va_Qi (fun (r : Int32) (u : Unit) => True) (fun (_ : Unit) (t : State) => gH (dC, dI) kA (SHc nC nS) G t.heap ∧ gF (dC, dI) SKc G ([(9, 2), (9, 3), (13, 8)] : List (Nat × Nat)) H0 t.heap) (gA G H0.size)) (vx_X (fun _ : Unit => True) (fun E _ t => (E = "java/lang/ClassCastException" ∨ E = "java/lang/IllegalArgumentException" ∨ E = "java/lang/IndexOutOfBoundsException") ∧ gH (dC, dI) kA (SHc nC nS) G t.heap ∧ gF (dC, dI) SKc G ([(9, 2), (9, 3), (13, 8)] : List (Nat × Nat)) H0 t.heap) (gA G H0.size)) 2 12 (gA G H0.size) := by
  refine vx_ofW (cc := cX11_coal) (maxL := 4) (ret := (some .int)) (by decide) rfl ?_
  intro p e s m args below meth c s₁ B hml hnt hv
  obtain ⟨rfl, hH0, hK, hE⟩ := hv
  have hx := B.exec
  have hb := B.bytes
  have hr := B.returns
  have hts := atoms_spec (ws := w_c_coal) B.pre
  have hown : s.vm.findClass RX11 = some m.cls := findClass_of_methodNamed B.named
  have hlocks := B.notSynchronized
  subst hH0
  generalize hAe : gA G s.heap.size = A at hE ⊢
  have hA : ∀ q : Nat, s.heap.size ≤ q → A q := fun q h => by rw [← hAe]; exact Or.inr h
  have hG := gA_of hAe
  have hS : va_S A s.heap s.heap [] := va_S.rf
  have hF : gF (dC, dI) SKc G ([(9, 2), (9, 3), (13, 8)] : List (Nat × Nat)) s.heap s.heap := gF.rf
  have hl := lv_entry ([.ref o0, .int p0, .int p1]) (n := 4) (Nat.le_of_ble_eq_true rfl)
  rw [lg_entry_eq]
  generalize (lg_sl ([.ref o0, .int p0, .int p1]) ++ List.replicate (4 - (lg_sl ([.ref o0, .int p0, .int p1])).length) Slot.unset).toArray = ls at hl ⊢
  have hl : lv_has ls 4 [(0, .ref o0), (1, .int p0), (2, .int p1)] := hl
  refine lv_aload_n hx hb dX11_coal_0 rfl (lv_at hl 0 rfl) ?_
  refine lv_iload_n hx hb dX11_coal_1 rfl (lv_at hl 1 rfl) ?_
  have hFc := gA_free hG hA hS
  refine vx_callr (vx_runV (As := [.int p0]) (rest := []) ⟨hx, hb, hml, hown, hts⟩ (c_workOf l hlt dC dI kA adK adV G s.heap nC nS o0 p0 hT hr_o0 (by omega) (by omega)) (cwV 1 hts (goodIn_app (goodIn_r _ [9, 10, 11, 6] rfl (by decide +kernel)) (goodIn_ca (goodIn_r _ [1, 2, 3, 4, 5, 6, 7, 8] rfl (by decide +kernel)) (bs2_in _ _))) rfl rfl rfl (by decide +kernel) ⟨(Nat.le_of_ble_eq_true rfl), (Nat.le_of_ble_eq_true rfl)⟩) ⟨fun a U g mk q => by obtain ⟨q0, q1, qK, qE⟩ := q; exact ⟨q0, q1, va_K.moved (u := U) (U := U.calling g mk a) (Vm.Alike.refl U.vm) qK, EVC.blind g mk a qE⟩, gH_rc hK hT hr_o0 shc_14 rfl, fun U hU hW => ⟨rfl, hU, va_K.moved hW.alike hK, hE.call hS hFc hU hW⟩⟩ rfl rfl hl.1 rfl (lv_room (Nat.le_of_ble_eq_true rfl)) dX11_coal_2 ⟨(Nat.le_of_ble_eq_true rfl), (Nat.le_of_ble_eq_true rfl)⟩) hS (fun q _ h => hFc q h) hFc (fun q _ h => hFc q h) (fun E ce q9 u t H locs ht hvm _ hw2 _ _ hS hce hcv hcl => ?_) (fun u r1 t H locs ht hvm hw2 hB _ _ hS => ?_)
  · obtain ⟨hw2, hTx, hFx⟩ := hw2; rw [ht] at hTx hFx
    exact vx_out (fun x h => (hnt x h).elim) hlocks hce hcv hcl (fun t2 h2 hW => ⟨(), trivial, ⟨((fun h9 => (Or.inr (Or.inr h9))) hw2), by rw [h2]; exact hTx, by rw [h2]; exact hF.more hFx (by decide)⟩, hS.F h2⟩) hS.2.2 (by decide) (by decide)
  · obtain ⟨hr9, hT, hF1⟩ := hB
    rw [ht] at hT hF1
    have hF := hF.more hF1 (by decide)
    have hg3 := hr9
    try dsimp only at hw2
    refine lv_astore_n (lv' := [(3, .ref r1), (0, .ref o0), (1, .int p0), (2, .int p1)]) hx hb dX11_coal_5 rfl hl (by decide) rfl (fun ls hl => ?_)
    refine lv_iload_n hx hb dX11_coal_6 rfl (lv_at hl 3 rfl) ?_
    refine lv_iconst (v := 0) hx hb dX11_coal_7 (by decide) ?_
    refine lv_sipush (v := 10000) hx hb dX11_coal_8 (by decide) ?_
    have hFc := gA_free hG hA hS
    refine va_calli (va_runS (As := [.int p1, .int 0, .int 10000]) (rest := []) ⟨hx, hb, hml, hown, hts⟩ (c_within l dC dI kA adK adV G H nC nS p1 0 10000 hT (by omega) (by omega)) (va_cwS 3 hts (goodIn_app (goodIn_r _ [4, 5, 6] rfl (by decide +kernel)) (goodIn_ca (goodIn_r _ [3] rfl (by decide +kernel)) (bs2_in _ _))) rfl rfl rfl (by decide +kernel) ⟨(Nat.le_of_ble_eq_true rfl), (Nat.le_of_ble_eq_true rfl)⟩) ⟨fun a U g mk q => by obtain ⟨q0, q1, qK, qE⟩ := q; exact ⟨q0, q1, va_K.moved (u := U) (U := U.calling g mk a) (Vm.Alike.refl U.vm) qK, EVC.blind g mk a qE⟩, fun U hU hW => ⟨rfl, hU, va_K.moved hW.alike hK, hE.call hS hFc hU hW⟩⟩ rfl rfl hl.1 rfl (lv_room (Nat.le_of_ble_eq_true rfl)) dX11_coal_11 ⟨(Nat.le_of_ble_eq_true rfl), (Nat.le_of_ble_eq_true rfl)⟩) hS (fun q _ h => hFc q h) hFc (fun r4 u t H locs ht hvm hw5 hB _ _ hS => ?_)
    obtain ⟨hT, hF1⟩ := hB
    rw [ht] at hT hF1
    have hF := hF.more hF1 (by decide)
    try dsimp only at hw5
    obtain ⟨h6, hi7, hi8⟩ := hw5
    refine lv_if_eq (tgt := 32) hx hb dX11_coal_14 (by decide) (fun c9 => ?_) (fun c9 => ?_)
    · have t10 : r4.toInt = 0 := ti_eq c9 rfl (by decide)
      have t11 : (0 : Int32).toInt = 0 := by decide
      have t12 : (10000 : Int32).toInt = 10000 := by decide
      have t13 : p1.toInt < (0 : Int32).toInt ∨ (10000 : Int32).toInt < p1.toInt := hi8 c9
      refine lv_iconst (v := 0) hx hb dX11_coal_32 (by decide) ?_
      have hFc := gA_free hG hA hS
      refine vx_callN (vx_runS (As := [.int 0]) (rest := []) ⟨hx, hb, hml, hown, hts⟩ (c_needNumbers0 l hlt dC dI kA adK adV G H nC nS hT (by omega) (by omega)) (va_cwS 1 hts (goodIn_app (goodIn_r _ [15, 16, 6] rfl (by decide +kernel)) (goodIn_ca (goodIn_r _ [12, 13, 14] rfl (by decide +kernel)) (bs2_in _ _))) rfl rfl rfl (by decide +kernel) ⟨(Nat.le_of_ble_eq_true rfl), (Nat.le_of_ble_eq_true rfl)⟩) ⟨fun a U g mk q => by obtain ⟨q0, q1, qK, qE⟩ := q; exact ⟨q0, q1, va_K.moved (u := U) (U := U.calling g mk a) (Vm.Alike.refl U.vm) qK, EVC.blind g mk a qE⟩, fun U hU hW => ⟨rfl, hU, va_K.moved hW.alike hK, hE.call hS hFc hU hW⟩⟩ rfl rfl hl.1 rfl (lv_room (Nat.le_of_ble_eq_true rfl)) dX11_coal_33 ⟨(Nat.le_of_ble_eq_true rfl), (Nat.le_of_ble_eq_true rfl)⟩) hS hFc (fun q _ h => hFc q h) (fun E ce q9 u t H locs ht hvm _ hw15 _ _ hS hce hcv hcl => ?_)
      obtain ⟨hw15, hTx, hFx⟩ := hw15; rw [ht] at hTx hFx
      exact vx_out (fun x h => (hnt x h).elim) hlocks hce hcv hcl (fun t2 h2 hW => ⟨(), trivial, ⟨((fun h9 => (Or.inr (Or.inl h9))) hw15), by rw [h2]; exact hTx, by rw [h2]; exact hF.more hFx (by decide)⟩, hS.F h2⟩) hS.2.2 (by decide) (by decide)
    · have t16 : r4.toInt ≠ 0 := ti_ne c9 rfl (by decide)
      have t17 : (0 : Int32).toInt = 0 := by decide
      have t18 : (10000 : Int32).toInt = 10000 := by decide
      have t19 : (0 : Int32).toInt ≤ p1.toInt ∧ p1.toInt ≤ (10000 : Int32).toInt := hi7 ((bit_of ⟨by omega, by omega⟩).resolve_left c9)
      refine lv_aload_n hx hb dX11_coal_17 rfl (lv_at hl 0 rfl) ?_
      refine tw_getN hx hb hts bF2_X10 hown hK hT hg3 shc_13 rfl 8 (by decide) (hE.nw 12 rfl) (fun _ h9 => h9) dX11_coal_18 (fun v9 m20 h9 => ?_)
      obtain ⟨x21, rfl, gx21, kx21⟩ := h9 _ rfl
      refine lv_iload_n hx hb dX11_coal_21 rfl (lv_at hl 3 rfl) ?_
      refine lv_iadd hx hb dX11_coal_22 ?_
      refine lv_topi (fun x22 ex22 => ?_)
      refine lv_ldc (v := 100000) hx hb hown (ht_at2 hts 16 rfl) dX11_coal_23 ?_
      have t23 : -2147483648 ≤ x22.toInt ∧ x22.toInt ≤ 2147483647 := ti_all x22
      refine lv_icmp_gt (tgt := 32) hx hb dX11_coal_25 (by decide) (fun c24 => ?_) (fun c24 => ?_)
      · have t25 : 100000 < x22.toInt := ti_lt c24 (by decide) rfl
        refine lv_iconst (v := 0) hx hb dX11_coal_32 (by decide) ?_
        have hFc := gA_free hG hA hS
        refine vx_callN (vx_runS (As := [.int 0]) (rest := []) ⟨hx, hb, hml, hown, hts⟩ (c_needNumbers0 l hlt dC dI kA adK adV G H nC nS hT (by omega) (by omega)) (va_cwS 1 hts (goodIn_app (goodIn_r _ [15, 16, 6] rfl (by decide +kernel)) (goodIn_ca (goodIn_r _ [12, 13, 14] rfl (by decide +kernel)) (bs2_in _ _))) rfl rfl rfl (by decide +kernel) ⟨(Nat.le_of_ble_eq_true rfl), (Nat.le_of_ble_eq_true rfl)⟩) ⟨fun a U g mk q => by obtain ⟨q0, q1, qK, qE⟩ := q; exact ⟨q0, q1, va_K.moved (u := U) (U := U.calling g mk a) (Vm.Alike.refl U.vm) qK, EVC.blind g mk a qE⟩, fun U hU hW => ⟨rfl, hU, va_K.moved hW.alike hK, hE.call hS hFc hU hW⟩⟩ rfl rfl hl.1 rfl (lv_room (Nat.le_of_ble_eq_true rfl)) dX11_coal_33 ⟨(Nat.le_of_ble_eq_true rfl), (Nat.le_of_ble_eq_true rfl)⟩) hS hFc (fun q _ h => hFc q h) (fun E ce q9 u t H locs ht hvm _ hw27 _ _ hS hce hcv hcl => ?_)
        obtain ⟨hw27, hTx, hFx⟩ := hw27; rw [ht] at hTx hFx
        exact vx_out (fun x h => (hnt x h).elim) hlocks hce hcv hcl (fun t2 h2 hW => ⟨(), trivial, ⟨((fun h9 => (Or.inr (Or.inl h9))) hw27), by rw [h2]; exact hTx, by rw [h2]; exact hF.more hFx (by decide)⟩, hS.F h2⟩) hS.2.2 (by decide) (by decide)
      · have t28 : x22.toInt ≤ 100000 := ti_nlt c24 (by decide) rfl
        refine lv_iconst (v := 1) hx hb dX11_coal_28 (by decide) ?_
        refine lv_goto (tgt := 33) hx hb dX11_coal_29 (by decide) ?_
        have hFc := gA_free hG hA hS
        refine vx_callv (vx_runS (As := [.int 1]) (rest := []) ⟨hx, hb, hml, hown, hts⟩ (c_needNumbers1 l hlt dC dI kA adK adV G H nC nS hT (by omega) (by omega)) (va_cwS 1 hts (goodIn_app (goodIn_r _ [15, 16, 6] rfl (by decide +kernel)) (goodIn_ca (goodIn_r _ [12] rfl (by decide +kernel)) (bs2_in _ _))) rfl rfl rfl (by decide +kernel) ⟨(Nat.le_of_ble_eq_true rfl), (Nat.le_of_ble_eq_true rfl)⟩) ⟨fun a U g mk q => by obtain ⟨q0, q1, qK, qE⟩ := q; exact ⟨q0, q1, va_K.moved (u := U) (U := U.calling g mk a) (Vm.Alike.refl U.vm) qK, EVC.blind g mk a qE⟩, fun U hU hW => ⟨rfl, hU, va_K.moved hW.alike hK, hE.call hS hFc hU hW⟩⟩ rfl rfl hl.1 rfl (lv_room (Nat.le_of_ble_eq_true rfl)) dX11_coal_33 ⟨(Nat.le_of_ble_eq_true rfl), (Nat.le_of_ble_eq_true rfl)⟩) hS (fun q _ h => hFc q h) hFc (fun q _ h => hFc q h) (fun E ce q9 u t H locs ht hvm _ hw30 _ _ hS hce hcv hcl => ?_) (fun u t H locs ht hvm hw30 hB _ _ hS => ?_)
        · obtain ⟨hw30, hTx, hFx⟩ := hw30; rw [ht] at hTx hFx
          exact vx_out (fun x h => (hnt x h).elim) hlocks hce hcv hcl (fun t2 h2 hW => ⟨(), trivial, ⟨((fun h9 => (Or.inr (Or.inl h9))) hw30), by rw [h2]; exact hTx, by rw [h2]; exact hF.more hFx (by decide)⟩, hS.F h2⟩) hS.2.2 (by decide) (by decide)
        · obtain ⟨hT, hF1⟩ := hB
          rw [ht] at hT hF1
          have m31 := (hF1.fld hg3 skc_13 (k := 8) (by decide) (by decide)).trans m20
          have hF := hF.more hF1 (by decide)
          try dsimp only at hw30
          refine lv_aload_n hx hb dX11_coal_36 rfl (lv_at hl 0 rfl) ?_
          refine tw_getN hx hb hts bF2_X10 hown hK hT hg3 shc_13 rfl 2 (by decide) (hE.nw 10 rfl) (fun _ h9 => h9) dX11_coal_37 (fun v9 m32 h9 => ?_)
          obtain ⟨x33, rfl, gx33, kx33⟩ := h9 _ rfl
          refine lv_iconst (v := 3) hx hb dX11_coal_40 (by decide) ?_
          have t34 : -2147483648 ≤ x33.toInt ∧ x33.toInt ≤ 2147483647 := ti_all x33
          refine lv_icmp_ne (tgt := 48) hx hb dX11_coal_41 (by decide) (fun c35 => ?_) (fun c35 => ?_)
          · have t36 : x33.toInt ≠ 3 := ti_ne c35 rfl (by decide)
            refine lv_iconst (v := 0) hx hb dX11_coal_48 (by decide) ?_
            have hFc := gA_free hG hA hS
            refine vx_callN (vx_runS (As := [.int 0]) (rest := []) ⟨hx, hb, hml, hown, hts⟩ (c_needKind0 l hlt dC dI kA adK adV G H nC nS hT (by omega) (by omega)) (va_cwS 1 hts (goodIn_app (goodIn_r _ [21, 22, 6] rfl (by decide +kernel)) (goodIn_ca (goodIn_r _ [18, 19, 20] rfl (by decide +kernel)) (bs2_in _ _))) rfl rfl rfl (by decide +kernel) ⟨(Nat.le_of_ble_eq_true rfl), (Nat.le_of_ble_eq_true rfl)⟩) ⟨fun a U g mk q => by obtain ⟨q0, q1, qK, qE⟩ := q; exact ⟨q0, q1, va_K.moved (u := U) (U := U.calling g mk a) (Vm.Alike.refl U.vm) qK, EVC.blind g mk a qE⟩, fun U hU hW => ⟨rfl, hU, va_K.moved hW.alike hK, hE.call hS hFc hU hW⟩⟩ rfl rfl hl.1 rfl (lv_room (Nat.le_of_ble_eq_true rfl)) dX11_coal_49 ⟨(Nat.le_of_ble_eq_true rfl), (Nat.le_of_ble_eq_true rfl)⟩) hS hFc (fun q _ h => hFc q h) (fun E ce q9 u t H locs ht hvm _ hw38 _ _ hS hce hcv hcl => ?_)
            obtain ⟨hw38, hTx, hFx⟩ := hw38; rw [ht] at hTx hFx
            exact vx_out (fun x h => (hnt x h).elim) hlocks hce hcv hcl (fun t2 h2 hW => ⟨(), trivial, ⟨((fun h9 => (Or.inl h9)) hw38), by rw [h2]; exact hTx, by rw [h2]; exact hF.more hFx (by decide)⟩, hS.F h2⟩) hS.2.2 (by decide) (by decide)
          · have t39 : x33.toInt = 3 := ti_eq c35 rfl (by decide)
            refine lv_iconst (v := 1) hx hb dX11_coal_44 (by decide) ?_
            refine lv_goto (tgt := 49) hx hb dX11_coal_45 (by decide) ?_
            have hFc := gA_free hG hA hS
            refine vx_callv (vx_runS (As := [.int 1]) (rest := []) ⟨hx, hb, hml, hown, hts⟩ (c_needKind1 l hlt dC dI kA adK adV G H nC nS hT (by omega) (by omega)) (va_cwS 1 hts (goodIn_app (goodIn_r _ [21, 22, 6] rfl (by decide +kernel)) (goodIn_ca (goodIn_r _ [18] rfl (by decide +kernel)) (bs2_in _ _))) rfl rfl rfl (by decide +kernel) ⟨(Nat.le_of_ble_eq_true rfl), (Nat.le_of_ble_eq_true rfl)⟩) ⟨fun a U g mk q => by obtain ⟨q0, q1, qK, qE⟩ := q; exact ⟨q0, q1, va_K.moved (u := U) (U := U.calling g mk a) (Vm.Alike.refl U.vm) qK, EVC.blind g mk a qE⟩, fun U hU hW => ⟨rfl, hU, va_K.moved hW.alike hK, hE.call hS hFc hU hW⟩⟩ rfl rfl hl.1 rfl (lv_room (Nat.le_of_ble_eq_true rfl)) dX11_coal_49 ⟨(Nat.le_of_ble_eq_true rfl), (Nat.le_of_ble_eq_true rfl)⟩) hS (fun q _ h => hFc q h) hFc (fun q _ h => hFc q h) (fun E ce q9 u t H locs ht hvm _ hw41 _ _ hS hce hcv hcl => ?_) (fun u t H locs ht hvm hw41 hB _ _ hS => ?_)
            · obtain ⟨hw41, hTx, hFx⟩ := hw41; rw [ht] at hTx hFx
              exact vx_out (fun x h => (hnt x h).elim) hlocks hce hcv hcl (fun t2 h2 hW => ⟨(), trivial, ⟨((fun h9 => (Or.inl h9)) hw41), by rw [h2]; exact hTx, by rw [h2]; exact hF.more hFx (by decide)⟩, hS.F h2⟩) hS.2.2 (by decide) (by decide)
            · obtain ⟨hT, hF1⟩ := hB
              rw [ht] at hT hF1
              have m42 := (hF1.fld hg3 skc_13 (k := 8) (by decide) (by decide)).trans m31
              have hF := hF.more hF1 (by decide)
              try dsimp only at hw41
              refine lv_aload_n hx hb dX11_coal_52 rfl (lv_at hl 1 rfl) ?_
              refine tw_get hx hb hts bF2_X11 hown hK hT hr_o0 shc_14 rfl 2 (by decide) (ht_at2 hts 22 rfl) (fun _ h9 => h9) dX11_coal_53 (fun v9 m44 h9 => ?_)
              obtain ⟨b45, rfl, hg46⟩ := h9 _ rfl
              have hFc := gA_free hG hA hS
              refine va_callv (va_runV (As := []) (rest := []) ⟨hx, hb, hml, hown, hts⟩ (c_forget l dC dI kA adK adV G H nC nS b45 hT hg46 (by omega) (by omega)) (cwV 0 hts (goodIn_app (goodIn_r _ [27, 28, 29, 30] rfl (by decide +kernel)) (goodIn_ca (goodIn_r _ [24, 25, 26] rfl (by decide +kernel)) (bs2_in _ _))) rfl rfl rfl (by decide +kernel) ⟨(Nat.le_of_ble_eq_true rfl), (Nat.le_of_ble_eq_true rfl)⟩) ⟨fun a U g mk q => by obtain ⟨q0, q1, qK, qE⟩ := q; exact ⟨q0, q1, va_K.moved (u := U) (U := U.calling g mk a) (Vm.Alike.refl U.vm) qK, EVC.blind g mk a qE⟩, gH_rc hK hT hg46 shc_9 rfl, fun U hU hW => ⟨rfl, hU, va_K.moved hW.alike hK, hE.call hS hFc hU hW⟩⟩ rfl rfl hl.1 rfl (lv_room (Nat.le_of_ble_eq_true rfl)) dX11_coal_56 ⟨(Nat.le_of_ble_eq_true rfl), (Nat.le_of_ble_eq_true rfl)⟩) hS (fun q _ h => hFc q h) hFc (fun u t H locs ht hvm hw48 hB _ _ hS => ?_)
              obtain ⟨hT, hF1⟩ := hB
              rw [ht] at hT hF1
              have m49 := (hF1.fld hg3 skc_13 (k := 8) (by decide) (by decide)).trans m42
              have hF := hF.more hF1 (by decide)
              try dsimp only at hw48
              refine lv_aload_n hx hb dX11_coal_59 rfl (lv_at hl 0 rfl) ?_
              refine lv_dup hx hb dX11_coal_60 rfl ?_
              refine tw_getNM (v := .int x21) hx hb hts bF2_X10 hown hK hT hg3 shc_13 rfl 8 (by decide) (hE.nw 12 rfl) (fun _ h9 => h9) m49 dX11_coal_61 ?_
              refine lv_iload_n hx hb dX11_coal_64 rfl (lv_at hl 3 rfl) ?_
              refine lv_iadd hx hb dX11_coal_65 ?_
              refine lv_topi (fun x52 ex52 => ?_)
              refine tw_putN (v := .int x52) (ty := .int) hx hb hts bF2_X10 tyX10 tyX10_ok nmX10 hown hK hT hG hS hg3 shc_13 rfl 8 (by decide) (hE.nw 12 rfl) (fun _ h9 => h9) rfl (by decide +kernel) rfl rfl (gl_at rfl (gi_all _)) dX11_coal_66 (fun H locs hT oq m53 oj hS => ?_)
              have hF := hF.put hg3 skc_13 oq oj (by decide)
              refine lv_aload_n hx hb dX11_coal_69 rfl (lv_at hl 0 rfl) ?_
              refine tw_getNM (v := .int x52) hx hb hts bF2_X10 hown hK hT hg3 shc_13 rfl 8 (by decide) (hE.nw 12 rfl) (fun _ h9 => h9) m53 dX11_coal_70 ?_
              refine W.widen (k := 2) (n := 12) (by decide) (by decide) ?_
              exact vx_ret (W.iret (v := x52) hx hb hr (fun t ht hW => ⟨⟨x52, (), rfl, (by exact trivial), by (try dsimp only); rw [ht]; exact ⟨hT, hF⟩⟩, hS.F ht⟩) hS.2.2 dX11_coal_73)
def w_c_work : List Cond := .code yX11_work cX11_work 4 (some .int) :: (HAppend.hAppend (α := List Cond) (β := List Cond) (γ := List Cond) [.code yX11_workOf cX11_workOf 2 (some (.object "SeaLand$Work")), .fieldLink RX11 16 "SeaLand" "lake" "LSeaLand$Lake;", .code yX11_within cX11_within 3 (some .boolean), .methodLink RX11 58 yX11_within, .static yX11_within, .initialized RX11, .classLink RX11 557 "java/lang/IndexOutOfBoundsException", .initialized "java/lang/IndexOutOfBoundsException", .methodLink RX11 167 yX11_workOf, .instanceMethod yX11_workOf, .selects RX11 yX11_workOf yX11_workOf, .code yX3_sizeOf cX3_sizeOf 2 (some .int), .code yX3_crestOf cX3_crestOf 2 (some .int), .fieldLink RX3 21 "SeaLand$Lake" "ground" "LSeaLand$Ground;", .code yX10_thickness cX10_thickness 3 (some .int), .fieldLink RX10 34 "SeaLand$Work" "layers" "I", .fieldLink RX10 9 "SeaLand$Work" "thick" "[I", .methodLink RX3 80 yX10_thickness, .instanceMethod yX10_thickness, .selects RX10 yX10_thickness yX10_thickness, .initialized RX10, .methodLink RX3 84 yX3_crestOf, .instanceMethod yX3_crestOf, .selects RX3 yX3_crestOf yX3_crestOf, .initialized RX3, .methodLink RX11 213 yX3_sizeOf, .instanceMethod yX3_sizeOf, .selects RX3 yX3_sizeOf yX3_sizeOf, .code yX10_isBank cX10_isBank 1 (some .boolean), .fieldLink RX10 18 "SeaLand$Work" "kind" "I", .methodLink RX11 171 yX10_isBank, .instanceMethod yX10_isBank, .selects RX10 yX10_isBank yX10_isBank, .classLink RX11 134 "java/util/NoSuchElementException", .initialized "java/util/NoSuchElementException"] bs2)
set_option maxHeartbeats 4000000 in
set_option maxRecDepth 100000 in
theorem c_work (l : Launch) (hlt : l.stackTraces = false) (dC : Nat → ClassId) (dI : Nat → Nat → Nat) (kA : Nat → ClassId) (adK adV : Nat → Nat) (G : gT) (H0 : Heap) (nC nS : Int) (o0 : Nat) (p0 : Int32) (p1 : Int32)  (hT : gH (dC, dI) kA (SHc nC nS) G H0) (hr_o0 : G o0 = some 14) (hgC : 0 ≤ nC ∧ nC ≤ 40) (hgS : 0 ≤ nS ∧ nS ≤ 60) : vx_Met l yX11_work w_c_work ({ frames := 7, cells := 2, slots := 12, locals := 121 }) (va_Pc [.ref o0, .int p0, .int p1] (fun U => U.heap = H0 ∧ va_K (dC, dI) vwCl (tyl kA) U ∧ EVC adK adV (gA G H0.size) U U.heap)) (va_Qi (fun (r : Int32) (u : Unit) => True) (fun (_ : Unit) (t : State) => gH (dC, dI) kA (SHc nC nS) G t.heap ∧ gF (dC, dI) SKc G ([] : List (Nat × Nat)) H0 t.heap) (gA G H0.size)) (vx_X (fun _ : Unit => True) (fun E _ t => (E = "java/lang/IndexOutOfBoundsException" ∨ E = "java/util/NoSuchElementException") ∧ gH (dC, dI) kA (SHc nC nS) G t.heap ∧ gF (dC, dI) SKc G ([] : List (Nat × Nat)) H0 t.heap) (gA G H0.size)) 2 12 (gA G H0.size) := by
  refine vx_ofW (cc := cX11_work) (maxL := 4) (ret := (some .int)) (by decide) rfl ?_
  intro p e s m args below meth c s₁ B hml hnt hv
  obtain ⟨rfl, hH0, hK, hE⟩ := hv
  have hx := B.exec
  have hb := B.bytes
  have hr := B.returns
  have hts := atoms_spec (ws := w_c_work) B.pre
  have hown : s.vm.findClass RX11 = some m.cls := findClass_of_methodNamed B.named
  have hlocks := B.notSynchronized
  subst hH0
  generalize hAe : gA G s.heap.size = A at hE ⊢
  have hA : ∀ q : Nat, s.heap.size ≤ q → A q := fun q h => by rw [← hAe]; exact Or.inr h
  have hG := gA_of hAe
  have hS : va_S A s.heap s.heap [] := va_S.rf
  have hF : gF (dC, dI) SKc G ([] : List (Nat × Nat)) s.heap s.heap := gF.rf
  have hl := lv_entry ([.ref o0, .int p0, .int p1]) (n := 4) (Nat.le_of_ble_eq_true rfl)
  rw [lg_entry_eq]
  generalize (lg_sl ([.ref o0, .int p0, .int p1]) ++ List.replicate (4 - (lg_sl ([.ref o0, .int p0, .int p1])).length) Slot.unset).toArray = ls at hl ⊢
  have hl : lv_has ls 4 [(0, .ref o0), (1, .int p0), (2, .int p1)] := hl
  refine lv_aload_n hx hb dX11_work_0 rfl (lv_at hl 0 rfl) ?_
  refine lv_iload_n hx hb dX11_work_1 rfl (lv_at hl 1 rfl) ?_
  have hFc := gA_free hG hA hS
  refine vx_callr (vx_runV (As := [.int p0]) (rest := []) ⟨hx, hb, hml, hown, hts⟩ (c_workOf l hlt dC dI kA adK adV G s.heap nC nS o0 p0 hT hr_o0 (by omega) (by omega)) (cwV 1 hts (goodIn_app (goodIn_r _ [9, 10, 11, 6] rfl (by decide +kernel)) (goodIn_ca (goodIn_r _ [1, 2, 3, 4, 5, 6, 7, 8] rfl (by decide +kernel)) (bs2_in _ _))) rfl rfl rfl (by decide +kernel) ⟨(Nat.le_of_ble_eq_true rfl), (Nat.le_of_ble_eq_true rfl)⟩) ⟨fun a U g mk q => by obtain ⟨q0, q1, qK, qE⟩ := q; exact ⟨q0, q1, va_K.moved (u := U) (U := U.calling g mk a) (Vm.Alike.refl U.vm) qK, EVC.blind g mk a qE⟩, gH_rc hK hT hr_o0 shc_14 rfl, fun U hU hW => ⟨rfl, hU, va_K.moved hW.alike hK, hE.call hS hFc hU hW⟩⟩ rfl rfl hl.1 rfl (lv_room (Nat.le_of_ble_eq_true rfl)) dX11_work_2 ⟨(Nat.le_of_ble_eq_true rfl), (Nat.le_of_ble_eq_true rfl)⟩) hS (fun q _ h => hFc q h) hFc (fun q _ h => hFc q h) (fun E ce q9 u t H locs ht hvm _ hw2 _ _ hS hce hcv hcl => ?_) (fun u r1 t H locs ht hvm hw2 hB _ _ hS => ?_)
  · obtain ⟨hw2, hTx, hFx⟩ := hw2; rw [ht] at hTx hFx
    exact vx_out (fun x h => (hnt x h).elim) hlocks hce hcv hcl (fun t2 h2 hW => ⟨(), trivial, ⟨((fun h9 => (Or.inl h9)) hw2), by rw [h2]; exact hTx, by rw [h2]; exact hF.more hFx (by decide)⟩, hS.F h2⟩) hS.2.2 (by decide) (by decide)
  · obtain ⟨hr9, hT, hF1⟩ := hB
    rw [ht] at hT hF1
    have hF := hF.more hF1 (by decide)
    have hg3 := hr9
    try dsimp only at hw2
    refine lv_astore_n (lv' := [(3, .ref r1), (0, .ref o0), (1, .int p0), (2, .int p1)]) hx hb dX11_work_5 rfl hl (by decide) rfl (fun ls hl => ?_)
    refine lv_iload_n hx hb dX11_work_6 rfl (lv_at hl 3 rfl) ?_
    by_cases hs4 : p1 = 0
    · subst hs4
      refine lv_tableIn (x := 0) (off := 45) (tgt := 52) hx hb dX11_work_7 (by decide) (by decide) (by decide) (by decide) ?_
      refine lv_aload_n hx hb dX11_work_52 rfl (lv_at hl 0 rfl) ?_
      refine tw_getN hx hb hts bF2_X10 hown hK hT hg3 shc_13 rfl 2 (by decide) (hE.nw 10 rfl) (fun _ h9 => h9) dX11_work_53 (fun v9 m5 h9 => ?_)
      obtain ⟨x6, rfl, gx6, kx6⟩ := h9 _ rfl
      refine W.widen (k := 2) (n := 12) (by decide) (by decide) ?_
      exact vx_ret (W.iret (v := x6) hx hb hr (fun t ht hW => ⟨⟨x6, (), rfl, (by exact trivial), by (try dsimp only); rw [ht]; exact ⟨hT, hF⟩⟩, hS.F ht⟩) hS.2.2 dX11_work_56)
    by_cases hs7 : p1 = 1
    · subst hs7
      refine lv_tableIn (x := 1) (off := 50) (tgt := 57) hx hb dX11_work_7 (by decide) (by decide) (by decide) (by decide) ?_
      refine lv_aload_n hx hb dX11_work_57 rfl (lv_at hl 0 rfl) ?_
      refine tw_getN hx hb hts bF2_X10 hown hK hT hg3 shc_13 rfl 3 (by decide) (hE.nw 13 rfl) (fun _ h9 => h9) dX11_work_58 (fun v9 m8 h9 => ?_)
      obtain ⟨x9, rfl, gx9, kx9⟩ := h9 _ rfl
      refine W.widen (k := 2) (n := 12) (by decide) (by decide) ?_
      exact vx_ret (W.iret (v := x9) hx hb hr (fun t ht hW => ⟨⟨x9, (), rfl, (by exact trivial), by (try dsimp only); rw [ht]; exact ⟨hT, hF⟩⟩, hS.F ht⟩) hS.2.2 dX11_work_61)
    by_cases hs10 : p1 = 2
    · subst hs10
      refine lv_tableIn (x := 2) (off := 55) (tgt := 62) hx hb dX11_work_7 (by decide) (by decide) (by decide) (by decide) ?_
      refine lv_aload_n hx hb dX11_work_62 rfl (lv_at hl 0 rfl) ?_
      refine tw_getN hx hb hts bF2_X10 hown hK hT hg3 shc_13 rfl 2 (by decide) (hE.nw 10 rfl) (fun _ h9 => h9) dX11_work_63 (fun v9 m11 h9 => ?_)
      obtain ⟨x12, rfl, gx12, kx12⟩ := h9 _ rfl
      have t13 : -2147483648 ≤ x12.toInt ∧ x12.toInt ≤ 2147483647 := ti_all x12
      refine lv_if_ne (tgt := 73) hx hb dX11_work_66 (by decide) (fun c14 => ?_) (fun c14 => ?_)
      · have t15 : x12.toInt ≠ 0 := ti_ne c14 rfl (by decide)
        refine lv_iconst (v := 0) hx hb dX11_work_73 (by decide) ?_
        refine W.widen (k := 2) (n := 12) (by decide) (by decide) ?_
        exact vx_ret (W.iret (v := 0) hx hb hr (fun t ht hW => ⟨⟨0, (), rfl, (by exact trivial), by (try dsimp only); rw [ht]; exact ⟨hT, hF⟩⟩, hS.F ht⟩) hS.2.2 dX11_work_74)
      · have t16 : x12.toInt = 0 := ti_eq c14 rfl (by decide)
        refine lv_iconst (v := 1) hx hb dX11_work_69 (by decide) ?_
        refine lv_goto (tgt := 74) hx hb dX11_work_70 (by decide) ?_
        refine W.widen (k := 2) (n := 12) (by decide) (by decide) ?_
        exact vx_ret (W.iret (v := 1) hx hb hr (fun t ht hW => ⟨⟨1, (), rfl, (by exact trivial), by (try dsimp only); rw [ht]; exact ⟨hT, hF⟩⟩, hS.F ht⟩) hS.2.2 dX11_work_74)
    by_cases hs17 : p1 = 3
    · subst hs17
      refine lv_tableIn (x := 3) (off := 68) (tgt := 75) hx hb dX11_work_7 (by decide) (by decide) (by decide) (by decide) ?_
      refine lv_aload_n hx hb dX11_work_75 rfl (lv_at hl 0 rfl) ?_
      refine tw_getN hx hb hts bF2_X10 hown hK hT hg3 shc_13 rfl 10 (by decide) (hE.nw 14 rfl) (fun _ h9 => h9) dX11_work_76 (fun v9 m18 h9 => ?_)
      obtain ⟨x19, rfl, gx19, kx19⟩ := h9 _ rfl
      refine W.widen (k := 2) (n := 12) (by decide) (by decide) ?_
      exact vx_ret (W.iret (v := x19) hx hb hr (fun t ht hW => ⟨⟨x19, (), rfl, (by exact trivial), by (try dsimp only); rw [ht]; exact ⟨hT, hF⟩⟩, hS.F ht⟩) hS.2.2 dX11_work_79)
    by_cases hs20 : p1 = 4
    · subst hs20
      refine lv_tableIn (x := 4) (off := 73) (tgt := 80) hx hb dX11_work_7 (by decide) (by decide) (by decide) (by decide) ?_
      refine lv_aload_n hx hb dX11_work_80 rfl (lv_at hl 0 rfl) ?_
      refine tw_getN hx hb hts bF2_X10 hown hK hT hg3 shc_13 rfl 11 (by decide) (hE.nw 15 rfl) (fun _ h9 => h9) dX11_work_81 (fun v9 m21 h9 => ?_)
      obtain ⟨x22, rfl, gx22, kx22⟩ := h9 _ rfl
      refine W.widen (k := 2) (n := 12) (by decide) (by decide) ?_
      exact vx_ret (W.iret (v := x22) hx hb hr (fun t ht hW => ⟨⟨x22, (), rfl, (by exact trivial), by (try dsimp only); rw [ht]; exact ⟨hT, hF⟩⟩, hS.F ht⟩) hS.2.2 dX11_work_84)
    by_cases hs23 : p1 = 5
    · subst hs23
      refine lv_tableIn (x := 5) (off := 78) (tgt := 85) hx hb dX11_work_7 (by decide) (by decide) (by decide) (by decide) ?_
      refine lv_aload_n hx hb dX11_work_85 rfl (lv_at hl 1 rfl) ?_
      refine tw_get hx hb hts bF2_X11 hown hK hT hr_o0 shc_14 rfl 1 (by decide) (ht_at2 hts 1 rfl) (fun _ h9 => h9) dX11_work_86 (fun v9 m24 h9 => ?_)
      obtain ⟨b25, rfl, hg26⟩ := h9 _ rfl
      refine lv_aload_n hx hb dX11_work_89 rfl (lv_at hl 0 rfl) ?_
      have hFc := gA_free hG hA hS
      refine va_calli (va_runV (As := [.ref r1]) (rest := []) ⟨hx, hb, hml, hown, hts⟩ (c_sizeOf l dC dI kA adK adV G H nC nS b25 r1 hT hg3 hg26 (by omega) (by omega)) (cwV 1 hts (goodIn_app (goodIn_r _ [26, 27, 28, 25] rfl (by decide +kernel)) (goodIn_ca (goodIn_r _ [12, 13, 14, 15, 16, 17, 18, 19, 20, 21, 22, 23, 24, 25] rfl (by decide +kernel)) (bs2_in _ _))) rfl rfl rfl (by decide +kernel) ⟨(Nat.le_of_ble_eq_true rfl), (Nat.le_of_ble_eq_true rfl)⟩) ⟨fun a U g mk q => by obtain ⟨q0, q1, qK, qE⟩ := q; exact ⟨q0, q1, va_K.moved (u := U) (U := U.calling g mk a) (Vm.Alike.refl U.vm) qK, EVC.blind g mk a qE⟩, gH_rc hK hT hg26 shc_6 rfl, fun U hU hW => ⟨rfl, hU, va_K.moved hW.alike hK, hE.call hS hFc hU hW⟩⟩ rfl rfl hl.1 rfl (lv_room (Nat.le_of_ble_eq_true rfl)) dX11_work_90 ⟨(Nat.le_of_ble_eq_true rfl), (Nat.le_of_ble_eq_true rfl)⟩) hS (fun q _ h => hFc q h) hFc (fun r27 u t H locs ht hvm hw28 hB _ _ hS => ?_)
      obtain ⟨hT, hF1⟩ := hB
      rw [ht] at hT hF1
      have hF := hF.more hF1 (by decide)
      try dsimp only at hw28
      refine W.widen (k := 2) (n := 12) (by decide) (by decide) ?_
      exact vx_ret (W.iret (v := r27) hx hb hr (fun t ht hW => ⟨⟨r27, (), rfl, (by exact trivial), by (try dsimp only); rw [ht]; exact ⟨hT, hF⟩⟩, hS.F ht⟩) hS.2.2 dX11_work_93)
    by_cases hs30 : p1 = 6
    · subst hs30
      refine lv_tableIn (x := 6) (off := 87) (tgt := 94) hx hb dX11_work_7 (by decide) (by decide) (by decide) (by decide) ?_
      refine lv_aload_n hx hb dX11_work_94 rfl (lv_at hl 0 rfl) ?_
      have hFc := gA_free hG hA hS
      refine va_calli (va_runV (As := []) (rest := []) ⟨hx, hb, hml, hown, hts⟩ (c_isBank l dC dI kA adK adV G H nC nS r1 hT hg3 (by omega) (by omega)) (cwV 0 hts (goodIn_app (goodIn_r _ [31, 32, 33, 21] rfl (by decide +kernel)) (goodIn_ca (goodIn_r _ [29, 30] rfl (by decide +kernel)) (bs2_in _ _))) rfl rfl rfl (by decide +kernel) ⟨(Nat.le_of_ble_eq_true rfl), (Nat.le_of_ble_eq_true rfl)⟩) ⟨fun a U g mk q => by obtain ⟨q0, q1, qK, qE⟩ := q; exact ⟨q0, q1, va_K.moved (u := U) (U := U.calling g mk a) (Vm.Alike.refl U.vm) qK, EVC.blind g mk a qE⟩, gH_rc hK hT hg3 shc_13 rfl, fun U hU hW => ⟨rfl, hU, va_K.moved hW.alike hK, hE.call hS hFc hU hW⟩⟩ rfl rfl hl.1 rfl (lv_room (Nat.le_of_ble_eq_true rfl)) dX11_work_95 ⟨(Nat.le_of_ble_eq_true rfl), (Nat.le_of_ble_eq_true rfl)⟩) hS (fun q _ h => hFc q h) hFc (fun r31 u t H locs ht hvm hw32 hB _ _ hS => ?_)
      obtain ⟨hT, hF1⟩ := hB
      rw [ht] at hT hF1
      have hF := hF.more hF1 (by decide)
      try dsimp only at hw32
      have h33 := hw32
      refine lv_if_eq (tgt := 108) hx hb dX11_work_98 (by decide) (fun c34 => ?_) (fun c34 => ?_)
      · have t35 : r31.toInt = 0 := ti_eq c34 rfl (by decide)
        refine lv_aload_n hx hb dX11_work_108 rfl (lv_at hl 0 rfl) ?_
        refine tw_getN hx hb hts bF2_X10 hown hK hT hg3 shc_13 rfl 8 (by decide) (hE.nw 12 rfl) (fun _ h9 => h9) dX11_work_109 (fun v9 m36 h9 => ?_)
        obtain ⟨x37, rfl, gx37, kx37⟩ := h9 _ rfl
        refine W.widen (k := 2) (n := 12) (by decide) (by decide) ?_
        exact vx_ret (W.iret (v := x37) hx hb hr (fun t ht hW => ⟨⟨x37, (), rfl, (by exact trivial), by (try dsimp only); rw [ht]; exact ⟨hT, hF⟩⟩, hS.F ht⟩) hS.2.2 dX11_work_112)
      · have t38 : r31.toInt ≠ 0 := ti_ne c34 rfl (by decide)
        refine lv_aload_n hx hb dX11_work_101 rfl (lv_at hl 0 rfl) ?_
        refine tw_getN hx hb hts bF2_X10 hown hK hT hg3 shc_13 rfl 7 (by decide) (hE.nw 9 rfl) (fun _ h9 => h9) dX11_work_102 (fun v9 m39 h9 => ?_)
        obtain ⟨x40, rfl, gx40, kx40⟩ := h9 _ rfl
        refine lv_goto (tgt := 112) hx hb dX11_work_105 (by decide) ?_
        refine W.widen (k := 2) (n := 12) (by decide) (by decide) ?_
        exact vx_ret (W.iret (v := x40) hx hb hr (fun t ht hW => ⟨⟨x40, (), rfl, (by exact trivial), by (try dsimp only); rw [ht]; exact ⟨hT, hF⟩⟩, hS.F ht⟩) hS.2.2 dX11_work_112)
    by_cases hs41 : p1 = 7
    · subst hs41
      refine lv_tableIn (x := 7) (off := 106) (tgt := 113) hx hb dX11_work_7 (by decide) (by decide) (by decide) (by decide) ?_
      refine lv_aload_n hx hb dX11_work_113 rfl (lv_at hl 0 rfl) ?_
      refine tw_getN hx hb hts bF2_X10 hown hK hT hg3 shc_13 rfl 9 (by decide) (hE.nw 11 rfl) (fun _ h9 => h9) dX11_work_114 (fun v9 m42 h9 => ?_)
      obtain ⟨x43, rfl, gx43, kx43⟩ := h9 _ rfl
      refine lv_if_eq (tgt := 124) hx hb dX11_work_117 (by decide) (fun c44 => ?_) (fun c44 => ?_)
      · have t45 : x43.toInt = 0 := ti_eq c44 rfl (by decide)
        refine lv_iconst (v := 0) hx hb dX11_work_124 (by decide) ?_
        refine W.widen (k := 2) (n := 12) (by decide) (by decide) ?_
        exact vx_ret (W.iret (v := 0) hx hb hr (fun t ht hW => ⟨⟨0, (), rfl, (by exact trivial), by (try dsimp only); rw [ht]; exact ⟨hT, hF⟩⟩, hS.F ht⟩) hS.2.2 dX11_work_125)
      · have t46 : x43.toInt ≠ 0 := ti_ne c44 rfl (by decide)
        refine lv_iconst (v := 1) hx hb dX11_work_120 (by decide) ?_
        refine lv_goto (tgt := 125) hx hb dX11_work_121 (by decide) ?_
        refine W.widen (k := 2) (n := 12) (by decide) (by decide) ?_
        exact vx_ret (W.iret (v := 1) hx hb hr (fun t ht hW => ⟨⟨1, (), rfl, (by exact trivial), by (try dsimp only); rw [ht]; exact ⟨hT, hF⟩⟩, hS.F ht⟩) hS.2.2 dX11_work_125)
    have ho47 : p1.toInt < 0 ∨ 7 < p1.toInt := by
      by_cases hz9 : p1.toInt < 0
      · exact Or.inl hz9
      have u9 : (0 : Int) ≤ p1.toInt := Int.not_lt.mp hz9
      have u9 := ll_nx (k1 := 1) u9 hs4 (by decide) (by decide)
      have u9 := ll_nx (k1 := 2) u9 hs7 (by decide) (by decide)
      have u9 := ll_nx (k1 := 3) u9 hs10 (by decide) (by decide)
      have u9 := ll_nx (k1 := 4) u9 hs17 (by decide) (by decide)
      have u9 := ll_nx (k1 := 5) u9 hs20 (by decide) (by decide)
      have u9 := ll_nx (k1 := 6) u9 hs23 (by decide) (by decide)
      have u9 := ll_nx (k1 := 7) u9 hs30 (by decide) (by decide)
      have u9 := ll_nx (k1 := 8) u9 hs41 (by decide) (by decide)
      exact Or.inr (Int.lt_of_lt_of_le (by decide) u9)
    refine lv_tableOut (tgt := 126) hx hb dX11_work_7 ho47 (by decide) ?_
    obtain ⟨sa48, hsa48⟩ := hE.str 2 rfl
    exact vy_throwS rxN_0 rxN_1 rxN_2 rxN_5 (names := ["java/lang/RuntimeException", "java/lang/Exception"]) hx hb hlt hown (by decide +kernel) (by decide +kernel) (ht_at2 hts 33 rfl) (ht_at2 hts 34 rfl) hsa48 (bX2_at2 hts hE) bX_ok2_134 hE.1.1.2.2.1 hE.1.1.2.2.2 hS (by rw [hml]; exact hl.1) dX11_work_126 dX11_work_129 dX11_work_130 dX11_work_132 dX11_work_135 (fun x h => (hnt x h).elim) (by decide) (Nat.le_of_ble_eq_true rfl) (Nat.le_of_ble_eq_true rfl) (Nat.le_of_ble_eq_true rfl) hlocks (fun t hW hz hq => ⟨(), trivial, ⟨(Or.inr rfl), hT.ext hq, hF.ext hT hq⟩, Nat.le_trans hS.1 hz, fun q h1 h2 => (hq q (Nat.lt_of_lt_of_le h1 hS.1)).trans (hS.2.1 q h1 h2)⟩) hS.2.2 (by decide) (by decide)
def w_c_seep : List Cond := .code yX11_seep cX11_seep 4 (some .int) :: (HAppend.hAppend (α := List Cond) (β := List Cond) (γ := List Cond) [.code yX11_workOf cX11_workOf 2 (some (.object "SeaLand$Work")), .fieldLink RX11 16 "SeaLand" "lake" "LSeaLand$Lake;", .code yX11_within cX11_within 3 (some .boolean), .methodLink RX11 58 yX11_within, .static yX11_within, .initialized RX11, .classLink RX11 557 "java/lang/IndexOutOfBoundsException", .initialized "java/lang/IndexOutOfBoundsException", .methodLink RX11 167 yX11_workOf, .instanceMethod yX11_workOf, .selects RX11 yX11_workOf yX11_workOf, .code yX11_needNumbers cX11_needNumbers 1 none, .classLink RX11 547 "java/lang/IllegalArgumentException", .initialized "java/lang/IllegalArgumentException", .methodLink RX11 62 yX11_needNumbers, .static yX11_needNumbers, .code yX10_isBank cX10_isBank 1 (some .boolean), .fieldLink RX10 18 "SeaLand$Work" "kind" "I", .methodLink RX11 171 yX10_isBank, .instanceMethod yX10_isBank, .selects RX10 yX10_isBank yX10_isBank, .initialized RX10, .code yX11_needKind cX11_needKind 1 none, .classLink RX11 552 "java/lang/ClassCastException", .initialized "java/lang/ClassCastException", .methodLink RX11 177 yX11_needKind, .static yX11_needKind, .code yX3_seepOf cX3_seepOf 5 (some .int), .fieldLink RX3 21 "SeaLand$Lake" "ground" "LSeaLand$Ground;", .code yX2_levelOf cX2_levelOf 2 (some .int), .fieldLink RX2 15 "SeaLand$Ground" "height" "[I", .fieldLink RX2 25 "SeaLand$Ground" "water" "[I", .methodLink RX3 40 yX2_levelOf, .instanceMethod yX2_levelOf, .selects RX2 yX2_levelOf yX2_levelOf, .initialized RX2, .methodLink RX3 97 Lib.Math.max.name, .static Lib.Math.max.name, .initialized "java/lang/Math", .code Lib.Math.max.name Lib.Math.max.code 2 (some .int), .code yX10_leakBelow cX10_leakBelow 6 (some .int), .fieldLink RX10 34 "SeaLand$Work" "layers" "I", .fieldLink RX10 9 "SeaLand$Work" "thick" "[I", .fieldLink RX10 15 "SeaLand$Work" "clay" "[I", .methodLink RX3 100 yX10_leakBelow, .instanceMethod yX10_leakBelow, .selects RX10 yX10_leakBelow yX10_leakBelow, .methodLink RX11 219 yX3_seepOf, .instanceMethod yX3_seepOf, .selects RX3 yX3_seepOf yX3_seepOf, .initialized RX3] bs2)
set_option maxHeartbeats 4000000 in
set_option maxRecDepth 100000 in
theorem c_seep (l : Launch) (hlt : l.stackTraces = false) (dC : Nat → ClassId) (dI : Nat → Nat → Nat) (kA : Nat → ClassId) (adK adV : Nat → Nat) (G : gT) (H0 : Heap) (nC nS : Int) (o0 : Nat) (p0 : Int32) (p1 : Int32)  (hT : gH (dC, dI) kA (SHc nC nS) G H0) (hr_o0 : G o0 = some 14) (hgC : 0 ≤ nC ∧ nC ≤ 40) (hgS : 0 ≤ nS ∧ nS ≤ 60) : vx_Met l yX11_seep w_c_seep ({ frames := 7, cells := 2, slots := 12, locals := 121 }) (va_Pc [.ref o0, .int p0, .int p1] (fun U => U.heap = H0 ∧ va_K (dC, dI) vwCl (tyl kA) U ∧ EVC adK adV (gA G H0.size) U U.heap)) (va_Qi (fun (r : Int32) (u : Unit) => (-21474836 ≤ r.toInt ∧ r.toInt ≤ 21474836)) (fun (_ : Unit) (t : State) => gH (dC, dI) kA (SHc nC nS) G t.heap ∧ gF (dC, dI) SKc G ([] : List (Nat × Nat)) H0 t.heap) (gA G H0.size)) (vx_X (fun _ : Unit => True) (fun E _ t => (E = "java/lang/ClassCastException" ∨ E = "java/lang/IllegalArgumentException" ∨ E = "java/lang/IndexOutOfBoundsException") ∧ gH (dC, dI) kA (SHc nC nS) G t.heap ∧ gF (dC, dI) SKc G ([] : List (Nat × Nat)) H0 t.heap) (gA G H0.size)) 2 12 (gA G H0.size) := by
  refine vx_ofW (cc := cX11_seep) (maxL := 4) (ret := (some .int)) (by decide) rfl ?_
  intro p e s m args below meth c s₁ B hml hnt hv
  obtain ⟨rfl, hH0, hK, hE⟩ := hv
  have hx := B.exec
  have hb := B.bytes
  have hr := B.returns
  have hts := atoms_spec (ws := w_c_seep) B.pre
  have hown : s.vm.findClass RX11 = some m.cls := findClass_of_methodNamed B.named
  have hlocks := B.notSynchronized
  subst hH0
  generalize hAe : gA G s.heap.size = A at hE ⊢
  have hA : ∀ q : Nat, s.heap.size ≤ q → A q := fun q h => by rw [← hAe]; exact Or.inr h
  have hG := gA_of hAe
  have hS : va_S A s.heap s.heap [] := va_S.rf
  have hF : gF (dC, dI) SKc G ([] : List (Nat × Nat)) s.heap s.heap := gF.rf
  have hl := lv_entry ([.ref o0, .int p0, .int p1]) (n := 4) (Nat.le_of_ble_eq_true rfl)
  rw [lg_entry_eq]
  generalize (lg_sl ([.ref o0, .int p0, .int p1]) ++ List.replicate (4 - (lg_sl ([.ref o0, .int p0, .int p1])).length) Slot.unset).toArray = ls at hl ⊢
  have hl : lv_has ls 4 [(0, .ref o0), (1, .int p0), (2, .int p1)] := hl
  refine lv_aload_n hx hb dX11_seep_0 rfl (lv_at hl 0 rfl) ?_
  refine lv_iload_n hx hb dX11_seep_1 rfl (lv_at hl 1 rfl) ?_
  have hFc := gA_free hG hA hS
  refine vx_callr (vx_runV (As := [.int p0]) (rest := []) ⟨hx, hb, hml, hown, hts⟩ (c_workOf l hlt dC dI kA adK adV G s.heap nC nS o0 p0 hT hr_o0 (by omega) (by omega)) (cwV 1 hts (goodIn_app (goodIn_r _ [9, 10, 11, 6] rfl (by decide +kernel)) (goodIn_ca (goodIn_r _ [1, 2, 3, 4, 5, 6, 7, 8] rfl (by decide +kernel)) (bs2_in _ _))) rfl rfl rfl (by decide +kernel) ⟨(Nat.le_of_ble_eq_true rfl), (Nat.le_of_ble_eq_true rfl)⟩) ⟨fun a U g mk q => by obtain ⟨q0, q1, qK, qE⟩ := q; exact ⟨q0, q1, va_K.moved (u := U) (U := U.calling g mk a) (Vm.Alike.refl U.vm) qK, EVC.blind g mk a qE⟩, gH_rc hK hT hr_o0 shc_14 rfl, fun U hU hW => ⟨rfl, hU, va_K.moved hW.alike hK, hE.call hS hFc hU hW⟩⟩ rfl rfl hl.1 rfl (lv_room (Nat.le_of_ble_eq_true rfl)) dX11_seep_2 ⟨(Nat.le_of_ble_eq_true rfl), (Nat.le_of_ble_eq_true rfl)⟩) hS (fun q _ h => hFc q h) hFc (fun q _ h => hFc q h) (fun E ce q9 u t H locs ht hvm _ hw2 _ _ hS hce hcv hcl => ?_) (fun u r1 t H locs ht hvm hw2 hB _ _ hS => ?_)
  · obtain ⟨hw2, hTx, hFx⟩ := hw2; rw [ht] at hTx hFx
    exact vx_out (fun x h => (hnt x h).elim) hlocks hce hcv hcl (fun t2 h2 hW => ⟨(), trivial, ⟨((fun h9 => (Or.inr (Or.inr h9))) hw2), by rw [h2]; exact hTx, by rw [h2]; exact hF.more hFx (by decide)⟩, hS.F h2⟩) hS.2.2 (by decide) (by decide)
  · obtain ⟨hr9, hT, hF1⟩ := hB
    rw [ht] at hT hF1
    have hF := hF.more hF1 (by decide)
    have hg3 := hr9
    try dsimp only at hw2
    refine lv_astore_n (lv' := [(3, .ref r1), (0, .ref o0), (1, .int p0), (2, .int p1)]) hx hb dX11_seep_5 rfl hl (by decide) rfl (fun ls hl => ?_)
    refine lv_iload_n hx hb dX11_seep_6 rfl (lv_at hl 3 rfl) ?_
    refine lv_sipush (v := (-1000)) hx hb dX11_seep_7 (by decide) ?_
    refine lv_sipush (v := 1000) hx hb dX11_seep_10 (by decide) ?_
    have hFc := gA_free hG hA hS
    refine va_calli (va_runS (As := [.int p1, .int (-1000), .int 1000]) (rest := []) ⟨hx, hb, hml, hown, hts⟩ (c_within l dC dI kA adK adV G H nC nS p1 (-1000) 1000 hT (by omega) (by omega)) (va_cwS 3 hts (goodIn_app (goodIn_r _ [4, 5, 6] rfl (by decide +kernel)) (goodIn_ca (goodIn_r _ [3] rfl (by decide +kernel)) (bs2_in _ _))) rfl rfl rfl (by decide +kernel) ⟨(Nat.le_of_ble_eq_true rfl), (Nat.le_of_ble_eq_true rfl)⟩) ⟨fun a U g mk q => by obtain ⟨q0, q1, qK, qE⟩ := q; exact ⟨q0, q1, va_K.moved (u := U) (U := U.calling g mk a) (Vm.Alike.refl U.vm) qK, EVC.blind g mk a qE⟩, fun U hU hW => ⟨rfl, hU, va_K.moved hW.alike hK, hE.call hS hFc hU hW⟩⟩ rfl rfl hl.1 rfl (lv_room (Nat.le_of_ble_eq_true rfl)) dX11_seep_13 ⟨(Nat.le_of_ble_eq_true rfl), (Nat.le_of_ble_eq_true rfl)⟩) hS (fun q _ h => hFc q h) hFc (fun r4 u t H locs ht hvm hw5 hB _ _ hS => ?_)
    obtain ⟨hT, hF1⟩ := hB
    rw [ht] at hT hF1
    have hF := hF.more hF1 (by decide)
    try dsimp only at hw5
    obtain ⟨h6, hi7, hi8⟩ := hw5
    have hb9 : r4 = 0 ∨ r4 = 1 := bit_of ⟨by omega, by omega⟩
    rcases hb9 with rfl | rfl
    · have t10 : (-1000 : Int32).toInt = (-1000) := by decide
      have t11 : (1000 : Int32).toInt = 1000 := by decide
      have t12 : p1.toInt < (-1000 : Int32).toInt ∨ (1000 : Int32).toInt < p1.toInt := hi8 rfl
      have hFc := gA_free hG hA hS
      refine vx_callN (vx_runS (As := [.int 0]) (rest := []) ⟨hx, hb, hml, hown, hts⟩ (c_needNumbers0 l hlt dC dI kA adK adV G H nC nS hT (by omega) (by omega)) (va_cwS 1 hts (goodIn_app (goodIn_r _ [15, 16, 6] rfl (by decide +kernel)) (goodIn_ca (goodIn_r _ [12, 13, 14] rfl (by decide +kernel)) (bs2_in _ _))) rfl rfl rfl (by decide +kernel) ⟨(Nat.le_of_ble_eq_true rfl), (Nat.le_of_ble_eq_true rfl)⟩) ⟨fun a U g mk q => by obtain ⟨q0, q1, qK, qE⟩ := q; exact ⟨q0, q1, va_K.moved (u := U) (U := U.calling g mk a) (Vm.Alike.refl U.vm) qK, EVC.blind g mk a qE⟩, fun U hU hW => ⟨rfl, hU, va_K.moved hW.alike hK, hE.call hS hFc hU hW⟩⟩ rfl rfl hl.1 rfl (lv_room (Nat.le_of_ble_eq_true rfl)) dX11_seep_16 ⟨(Nat.le_of_ble_eq_true rfl), (Nat.le_of_ble_eq_true rfl)⟩) hS hFc (fun q _ h => hFc q h) (fun E ce q9 u t H locs ht hvm _ hw14 _ _ hS hce hcv hcl => ?_)
      obtain ⟨hw14, hTx, hFx⟩ := hw14; rw [ht] at hTx hFx
      exact vx_out (fun x h => (hnt x h).elim) hlocks hce hcv hcl (fun t2 h2 hW => ⟨(), trivial, ⟨((fun h9 => (Or.inr (Or.inl h9))) hw14), by rw [h2]; exact hTx, by rw [h2]; exact hF.more hFx (by decide)⟩, hS.F h2⟩) hS.2.2 (by decide) (by decide)
    · have t15 : (-1000 : Int32).toInt = (-1000) := by decide
      have t16 : (1000 : Int32).toInt = 1000 := by decide
      have t17 : (-1000 : Int32).toInt ≤ p1.toInt ∧ p1.toInt ≤ (1000 : Int32).toInt := hi7 rfl
      have hFc := gA_free hG hA hS
      refine vx_callv (vx_runS (As := [.int 1]) (rest := []) ⟨hx, hb, hml, hown, hts⟩ (c_needNumbers1 l hlt dC dI kA adK adV G H nC nS hT (by omega) (by omega)) (va_cwS 1 hts (goodIn_app (goodIn_r _ [15, 16, 6] rfl (by decide +kernel)) (goodIn_ca (goodIn_r _ [12] rfl (by decide +kernel)) (bs2_in _ _))) rfl rfl rfl (by decide +kernel) ⟨(Nat.le_of_ble_eq_true rfl), (Nat.le_of_ble_eq_true rfl)⟩) ⟨fun a U g mk q => by obtain ⟨q0, q1, qK, qE⟩ := q; exact ⟨q0, q1, va_K.moved (u := U) (U := U.calling g mk a) (Vm.Alike.refl U.vm) qK, EVC.blind g mk a qE⟩, fun U hU hW => ⟨rfl, hU, va_K.moved hW.alike hK, hE.call hS hFc hU hW⟩⟩ rfl rfl hl.1 rfl (lv_room (Nat.le_of_ble_eq_true rfl)) dX11_seep_16 ⟨(Nat.le_of_ble_eq_true rfl), (Nat.le_of_ble_eq_true rfl)⟩) hS (fun q _ h => hFc q h) hFc (fun q _ h => hFc q h) (fun E ce q9 u t H locs ht hvm _ hw19 _ _ hS hce hcv hcl => ?_) (fun u t H locs ht hvm hw19 hB _ _ hS => ?_)
      · obtain ⟨hw19, hTx, hFx⟩ := hw19; rw [ht] at hTx hFx
        exact vx_out (fun x h => (hnt x h).elim) hlocks hce hcv hcl (fun t2 h2 hW => ⟨(), trivial, ⟨((fun h9 => (Or.inr (Or.inl h9))) hw19), by rw [h2]; exact hTx, by rw [h2]; exact hF.more hFx (by decide)⟩, hS.F h2⟩) hS.2.2 (by decide) (by decide)
      · obtain ⟨hT, hF1⟩ := hB
        rw [ht] at hT hF1
        have hF := hF.more hF1 (by decide)
        try dsimp only at hw19
        refine lv_aload_n hx hb dX11_seep_19 rfl (lv_at hl 0 rfl) ?_
        have hFc := gA_free hG hA hS
        refine va_calli (va_runV (As := []) (rest := []) ⟨hx, hb, hml, hown, hts⟩ (c_isBank l dC dI kA adK adV G H nC nS r1 hT hg3 (by omega) (by omega)) (cwV 0 hts (goodIn_app (goodIn_r _ [19, 20, 21, 22] rfl (by decide +kernel)) (goodIn_ca (goodIn_r _ [17, 18] rfl (by decide +kernel)) (bs2_in _ _))) rfl rfl rfl (by decide +kernel) ⟨(Nat.le_of_ble_eq_true rfl), (Nat.le_of_ble_eq_true rfl)⟩) ⟨fun a U g mk q => by obtain ⟨q0, q1, qK, qE⟩ := q; exact ⟨q0, q1, va_K.moved (u := U) (U := U.calling g mk a) (Vm.Alike.refl U.vm) qK, EVC.blind g mk a qE⟩, gH_rc hK hT hg3 shc_13 rfl, fun U hU hW => ⟨rfl, hU, va_K.moved hW.alike hK, hE.call hS hFc hU hW⟩⟩ rfl rfl hl.1 rfl (lv_room (Nat.le_of_ble_eq_true rfl)) dX11_seep_20 ⟨(Nat.le_of_ble_eq_true rfl), (Nat.le_of_ble_eq_true rfl)⟩) hS (fun q _ h => hFc q h) hFc (fun r20 u t H locs ht hvm hw21 hB _ _ hS => ?_)
        obtain ⟨hT, hF1⟩ := hB
        rw [ht] at hT hF1
        have hF := hF.more hF1 (by decide)
        try dsimp only at hw21
        have h22 := hw21
        have hb23 : r20 = 0 ∨ r20 = 1 := bit_of ⟨by omega, by omega⟩
        rcases hb23 with rfl | rfl
        · have hFc := gA_free hG hA hS
          refine vx_callN (vx_runS (As := [.int 0]) (rest := []) ⟨hx, hb, hml, hown, hts⟩ (c_needKind0 l hlt dC dI kA adK adV G H nC nS hT (by omega) (by omega)) (va_cwS 1 hts (goodIn_app (goodIn_r _ [26, 27, 6] rfl (by decide +kernel)) (goodIn_ca (goodIn_r _ [23, 24, 25] rfl (by decide +kernel)) (bs2_in _ _))) rfl rfl rfl (by decide +kernel) ⟨(Nat.le_of_ble_eq_true rfl), (Nat.le_of_ble_eq_true rfl)⟩) ⟨fun a U g mk q => by obtain ⟨q0, q1, qK, qE⟩ := q; exact ⟨q0, q1, va_K.moved (u := U) (U := U.calling g mk a) (Vm.Alike.refl U.vm) qK, EVC.blind g mk a qE⟩, fun U hU hW => ⟨rfl, hU, va_K.moved hW.alike hK, hE.call hS hFc hU hW⟩⟩ rfl rfl hl.1 rfl (lv_room (Nat.le_of_ble_eq_true rfl)) dX11_seep_23 ⟨(Nat.le_of_ble_eq_true rfl), (Nat.le_of_ble_eq_true rfl)⟩) hS hFc (fun q _ h => hFc q h) (fun E ce q9 u t H locs ht hvm _ hw25 _ _ hS hce hcv hcl => ?_)
          obtain ⟨hw25, hTx, hFx⟩ := hw25; rw [ht] at hTx hFx
          exact vx_out (fun x h => (hnt x h).elim) hlocks hce hcv hcl (fun t2 h2 hW => ⟨(), trivial, ⟨((fun h9 => (Or.inl h9)) hw25), by rw [h2]; exact hTx, by rw [h2]; exact hF.more hFx (by decide)⟩, hS.F h2⟩) hS.2.2 (by decide) (by decide)
        · have hFc := gA_free hG hA hS
          refine vx_callv (vx_runS (As := [.int 1]) (rest := []) ⟨hx, hb, hml, hown, hts⟩ (c_needKind1 l hlt dC dI kA adK adV G H nC nS hT (by omega) (by omega)) (va_cwS 1 hts (goodIn_app (goodIn_r _ [26, 27, 6] rfl (by decide +kernel)) (goodIn_ca (goodIn_r _ [23] rfl (by decide +kernel)) (bs2_in _ _))) rfl rfl rfl (by decide +kernel) ⟨(Nat.le_of_ble_eq_true rfl), (Nat.le_of_ble_eq_true rfl)⟩) ⟨fun a U g mk q => by obtain ⟨q0, q1, qK, qE⟩ := q; exact ⟨q0, q1, va_K.moved (u := U) (U := U.calling g mk a) (Vm.Alike.refl U.vm) qK, EVC.blind g mk a qE⟩, fun U hU hW => ⟨rfl, hU, va_K.moved hW.alike hK, hE.call hS hFc hU hW⟩⟩ rfl rfl hl.1 rfl (lv_room (Nat.le_of_ble_eq_true rfl)) dX11_seep_23 ⟨(Nat.le_of_ble_eq_true rfl), (Nat.le_of_ble_eq_true rfl)⟩) hS (fun q _ h => hFc q h) hFc (fun q _ h => hFc q h) (fun E ce q9 u t H locs ht hvm _ hw27 _ _ hS hce hcv hcl => ?_) (fun u t H locs ht hvm hw27 hB _ _ hS => ?_)
          · obtain ⟨hw27, hTx, hFx⟩ := hw27; rw [ht] at hTx hFx
            exact vx_out (fun x h => (hnt x h).elim) hlocks hce hcv hcl (fun t2 h2 hW => ⟨(), trivial, ⟨((fun h9 => (Or.inl h9)) hw27), by rw [h2]; exact hTx, by rw [h2]; exact hF.more hFx (by decide)⟩, hS.F h2⟩) hS.2.2 (by decide) (by decide)
          · obtain ⟨hT, hF1⟩ := hB
            rw [ht] at hT hF1
            have hF := hF.more hF1 (by decide)
            try dsimp only at hw27
            refine lv_aload_n hx hb dX11_seep_26 rfl (lv_at hl 0 rfl) ?_
            refine tw_getN hx hb hts bF2_X10 hown hK hT hg3 shc_13 rfl 2 (by decide) (hE.nw 10 rfl) (fun _ h9 => h9) dX11_seep_27 (fun v9 m28 h9 => ?_)
            obtain ⟨x29, rfl, gx29, kx29⟩ := h9 _ rfl
            refine lv_iconst (v := 1) hx hb dX11_seep_30 (by decide) ?_
            have t30 : -2147483648 ≤ x29.toInt ∧ x29.toInt ≤ 2147483647 := ti_all x29
            refine lv_icmp_ne (tgt := 38) hx hb dX11_seep_31 (by decide) (fun c31 => ?_) (fun c31 => ?_)
            · have t32 : x29.toInt ≠ 1 := ti_ne c31 rfl (by decide)
              refine lv_aload_n hx hb dX11_seep_38 rfl (lv_at hl 1 rfl) ?_
              refine tw_get hx hb hts bF2_X11 hown hK hT hr_o0 shc_14 rfl 1 (by decide) (ht_at2 hts 1 rfl) (fun _ h9 => h9) dX11_seep_39 (fun v9 m33 h9 => ?_)
              obtain ⟨b34, rfl, hg35⟩ := h9 _ rfl
              refine lv_aload_n hx hb dX11_seep_42 rfl (lv_at hl 0 rfl) ?_
              refine lv_iload_n hx hb dX11_seep_43 rfl (lv_at hl 3 rfl) ?_
              have hFc := gA_free hG hA hS
              refine va_calli (va_runV (As := [.ref r1, .int p1]) (rest := []) ⟨hx, hb, hml, hown, hts⟩ (c_seepOf l dC dI kA adK adV G H nC nS b34 r1 p1 hT hg3 hg35 (by omega) (by omega)) (cwV 2 hts (goodIn_app (goodIn_r _ [48, 49, 50, 51] rfl (by decide +kernel)) (goodIn_ca (goodIn_r _ [28, 29, 30, 31, 32, 33, 34, 35, 36, 37, 38, 39, 40, 41, 42, 43, 44, 45, 46, 47, 22] rfl (by decide +kernel)) (bs2_in _ _))) rfl rfl rfl (by decide +kernel) ⟨(Nat.le_of_ble_eq_true rfl), (Nat.le_of_ble_eq_true rfl)⟩) ⟨fun a U g mk q => by obtain ⟨q0, q1, qK, qE⟩ := q; exact ⟨q0, q1, va_K.moved (u := U) (U := U.calling g mk a) (Vm.Alike.refl U.vm) qK, EVC.blind g mk a qE⟩, gH_rc hK hT hg35 shc_6 rfl, fun U hU hW => ⟨rfl, hU, va_K.moved hW.alike hK, hE.call hS hFc hU hW⟩⟩ rfl rfl hl.1 rfl (lv_room (Nat.le_of_ble_eq_true rfl)) dX11_seep_44 ⟨(Nat.le_of_ble_eq_true rfl), (Nat.le_of_ble_eq_true rfl)⟩) hS (fun q _ h => hFc q h) hFc (fun r36 u t H locs ht hvm hw37 hB _ _ hS => ?_)
              obtain ⟨hT, hF1⟩ := hB
              rw [ht] at hT hF1
              have hF := hF.more hF1 (by decide)
              try dsimp only at hw37
              have h40 := hw37
              refine W.widen (k := 2) (n := 12) (by decide) (by decide) ?_
              exact vx_ret (W.iret (v := r36) hx hb hr (fun t ht hW => ⟨⟨r36, (), rfl, (by exact (by have q8 := ti_all r36; omega)), by (try dsimp only); rw [ht]; exact ⟨hT, hF⟩⟩, hS.F ht⟩) hS.2.2 dX11_seep_47)
            · have t41 : x29.toInt = 1 := ti_eq c31 rfl (by decide)
              refine lv_iconst (v := 0) hx hb dX11_seep_34 (by decide) ?_
              refine lv_goto (tgt := 47) hx hb dX11_seep_35 (by decide) ?_
              refine W.widen (k := 2) (n := 12) (by decide) (by decide) ?_
              exact vx_ret (W.iret (v := 0) hx hb hr (fun t ht hW => ⟨⟨0, (), rfl, (by exact (rg_t (a := 0) (by decide) (by first | decide | omega) (by first | decide | omega))), by (try dsimp only); rw [ht]; exact ⟨hT, hF⟩⟩, hS.F ht⟩) hS.2.2 dX11_seep_47)
def w_c_shut : List Cond := .code yX11_shut cX11_shut 3 (some .boolean) :: (HAppend.hAppend (α := List Cond) (β := List Cond) (γ := List Cond) [.code yX11_workOf cX11_workOf 2 (some (.object "SeaLand$Work")), .fieldLink RX11 16 "SeaLand" "lake" "LSeaLand$Lake;", .code yX11_within cX11_within 3 (some .boolean), .methodLink RX11 58 yX11_within, .static yX11_within, .initialized RX11, .classLink RX11 557 "java/lang/IndexOutOfBoundsException", .initialized "java/lang/IndexOutOfBoundsException", .methodLink RX11 167 yX11_workOf, .instanceMethod yX11_workOf, .selects RX11 yX11_workOf yX11_workOf, .code yX11_needKind cX11_needKind 1 none, .classLink RX11 552 "java/lang/ClassCastException", .initialized "java/lang/ClassCastException", .methodLink RX11 177 yX11_needKind, .static yX11_needKind, .fieldLink RX11 23 "SeaLand" "rows" "LSeaLand$Rows;", .code yX6_forget cX6_forget 1 none, .fieldLink RX6 18 "SeaLand$Rows" "kept" "I", .fieldLink RX6 22 "SeaLand$Rows" "oldest" "I", .methodLink RX11 76 yX6_forget, .instanceMethod yX6_forget, .selects RX6 yX6_forget yX6_forget, .initialized RX6] bs2)
set_option maxHeartbeats 4000000 in
set_option maxRecDepth 100000 in
theorem c_shut (l : Launch) (hlt : l.stackTraces = false) (dC : Nat → ClassId) (dI : Nat → Nat → Nat) (kA : Nat → ClassId) (adK adV : Nat → Nat) (G : gT) (H0 : Heap) (nC nS : Int) (o0 : Nat) (p0 : Int32)  (hT : gH (dC, dI) kA (SHc nC nS) G H0) (hr_o0 : G o0 = some 14) (hgC : 0 ≤ nC ∧ nC ≤ 40) (hgS : 0 ≤ nS ∧ nS ≤ 60) : vx_Met l yX11_shut w_c_shut ({ frames := 7, cells := 2, slots := 12, locals := 121 }) (va_Pc [.ref o0, .int p0] (fun U => U.heap = H0 ∧ va_K (dC, dI) vwCl (tyl kA) U ∧ EVC adK adV (gA G H0.size) U U.heap)) (va_Qi (fun (r : Int32) (u : Unit) => (1 ≤ r.toInt ∧ r.toInt ≤ 1)) (fun (_ : Unit) (t : State) => gH (dC, dI) kA (SHc nC nS) G t.heap ∧ gF (dC, dI) SKc G ([(9, 2), (9, 3), (13, 2)] : List (Nat × Nat)) H0 t.heap) (gA G H0.size)) (vx_X (fun _ : Unit => True) (fun E _ t => (E = "java/lang/ClassCastException" ∨ E = "java/lang/IndexOutOfBoundsException") ∧ gH (dC, dI) kA (SHc nC nS) G t.heap ∧ gF (dC, dI) SKc G ([(9, 2), (9, 3), (13, 2)] : List (Nat × Nat)) H0 t.heap) (gA G H0.size)) 2 12 (gA G H0.size) := by
  refine vx_ofW (cc := cX11_shut) (maxL := 3) (ret := (some .boolean)) (by decide) rfl ?_
  intro p e s m args below meth c s₁ B hml hnt hv
  obtain ⟨rfl, hH0, hK, hE⟩ := hv
  have hx := B.exec
  have hb := B.bytes
  have hr := B.returns
  have hts := atoms_spec (ws := w_c_shut) B.pre
  have hown : s.vm.findClass RX11 = some m.cls := findClass_of_methodNamed B.named
  have hlocks := B.notSynchronized
  subst hH0
  generalize hAe : gA G s.heap.size = A at hE ⊢
  have hA : ∀ q : Nat, s.heap.size ≤ q → A q := fun q h => by rw [← hAe]; exact Or.inr h
  have hG := gA_of hAe
  have hS : va_S A s.heap s.heap [] := va_S.rf
  have hF : gF (dC, dI) SKc G ([(9, 2), (9, 3), (13, 2)] : List (Nat × Nat)) s.heap s.heap := gF.rf
  have hl := lv_entry ([.ref o0, .int p0]) (n := 3) (Nat.le_of_ble_eq_true rfl)
  rw [lg_entry_eq]
  generalize (lg_sl ([.ref o0, .int p0]) ++ List.replicate (3 - (lg_sl ([.ref o0, .int p0])).length) Slot.unset).toArray = ls at hl ⊢
  have hl : lv_has ls 3 [(0, .ref o0), (1, .int p0)] := hl
  refine lv_aload_n hx hb dX11_shut_0 rfl (lv_at hl 0 rfl) ?_
  refine lv_iload_n hx hb dX11_shut_1 rfl (lv_at hl 1 rfl) ?_
  have hFc := gA_free hG hA hS
  refine vx_callr (vx_runV (As := [.int p0]) (rest := []) ⟨hx, hb, hml, hown, hts⟩ (c_workOf l hlt dC dI kA adK adV G s.heap nC nS o0 p0 hT hr_o0 (by omega) (by omega)) (cwV 1 hts (goodIn_app (goodIn_r _ [9, 10, 11, 6] rfl (by decide +kernel)) (goodIn_ca (goodIn_r _ [1, 2, 3, 4, 5, 6, 7, 8] rfl (by decide +kernel)) (bs2_in _ _))) rfl rfl rfl (by decide +kernel) ⟨(Nat.le_of_ble_eq_true rfl), (Nat.le_of_ble_eq_true rfl)⟩) ⟨fun a U g mk q => by obtain ⟨q0, q1, qK, qE⟩ := q; exact ⟨q0, q1, va_K.moved (u := U) (U := U.calling g mk a) (Vm.Alike.refl U.vm) qK, EVC.blind g mk a qE⟩, gH_rc hK hT hr_o0 shc_14 rfl, fun U hU hW => ⟨rfl, hU, va_K.moved hW.alike hK, hE.call hS hFc hU hW⟩⟩ rfl rfl hl.1 rfl (lv_room (Nat.le_of_ble_eq_true rfl)) dX11_shut_2 ⟨(Nat.le_of_ble_eq_true rfl), (Nat.le_of_ble_eq_true rfl)⟩) hS (fun q _ h => hFc q h) hFc (fun q _ h => hFc q h) (fun E ce q9 u t H locs ht hvm _ hw2 _ _ hS hce hcv hcl => ?_) (fun u r1 t H locs ht hvm hw2 hB _ _ hS => ?_)
  · obtain ⟨hw2, hTx, hFx⟩ := hw2; rw [ht] at hTx hFx
    exact vx_out (fun x h => (hnt x h).elim) hlocks hce hcv hcl (fun t2 h2 hW => ⟨(), trivial, ⟨((fun h9 => (Or.inr h9)) hw2), by rw [h2]; exact hTx, by rw [h2]; exact hF.more hFx (by decide)⟩, hS.F h2⟩) hS.2.2 (by decide) (by decide)
  · obtain ⟨hr9, hT, hF1⟩ := hB
    rw [ht] at hT hF1
    have hF := hF.more hF1 (by decide)
    have hg3 := hr9
    try dsimp only at hw2
    refine lv_astore_n (lv' := [(2, .ref r1), (0, .ref o0), (1, .int p0)]) hx hb dX11_shut_5 rfl hl (by decide) rfl (fun ls hl => ?_)
    refine lv_aload_n hx hb dX11_shut_6 rfl (lv_at hl 0 rfl) ?_
    refine tw_getN hx hb hts bF2_X10 hown hK hT hg3 shc_13 rfl 2 (by decide) (hE.nw 10 rfl) (fun _ h9 => h9) dX11_shut_7 (fun v9 m4 h9 => ?_)
    obtain ⟨x5, rfl, gx5, kx5⟩ := h9 _ rfl
    refine lv_iconst (v := 1) hx hb dX11_shut_10 (by decide) ?_
    have t6 : -2147483648 ≤ x5.toInt ∧ x5.toInt ≤ 2147483647 := ti_all x5
    refine lv_icmp_ne (tgt := 18) hx hb dX11_shut_11 (by decide) (fun c7 => ?_) (fun c7 => ?_)
    · have t8 : x5.toInt ≠ 1 := ti_ne c7 rfl (by decide)
      refine lv_iconst (v := 0) hx hb dX11_shut_18 (by decide) ?_
      have hFc := gA_free hG hA hS
      refine vx_callN (vx_runS (As := [.int 0]) (rest := []) ⟨hx, hb, hml, hown, hts⟩ (c_needKind0 l hlt dC dI kA adK adV G H nC nS hT (by omega) (by omega)) (va_cwS 1 hts (goodIn_app (goodIn_r _ [15, 16, 6] rfl (by decide +kernel)) (goodIn_ca (goodIn_r _ [12, 13, 14] rfl (by decide +kernel)) (bs2_in _ _))) rfl rfl rfl (by decide +kernel) ⟨(Nat.le_of_ble_eq_true rfl), (Nat.le_of_ble_eq_true rfl)⟩) ⟨fun a U g mk q => by obtain ⟨q0, q1, qK, qE⟩ := q; exact ⟨q0, q1, va_K.moved (u := U) (U := U.calling g mk a) (Vm.Alike.refl U.vm) qK, EVC.blind g mk a qE⟩, fun U hU hW => ⟨rfl, hU, va_K.moved hW.alike hK, hE.call hS hFc hU hW⟩⟩ rfl rfl hl.1 rfl (lv_room (Nat.le_of_ble_eq_true rfl)) dX11_shut_19 ⟨(Nat.le_of_ble_eq_true rfl), (Nat.le_of_ble_eq_true rfl)⟩) hS hFc (fun q _ h => hFc q h) (fun E ce q9 u t H locs ht hvm _ hw10 _ _ hS hce hcv hcl => ?_)
      obtain ⟨hw10, hTx, hFx⟩ := hw10; rw [ht] at hTx hFx
      exact vx_out (fun x h => (hnt x h).elim) hlocks hce hcv hcl (fun t2 h2 hW => ⟨(), trivial, ⟨((fun h9 => (Or.inl h9)) hw10), by rw [h2]; exact hTx, by rw [h2]; exact hF.more hFx (by decide)⟩, hS.F h2⟩) hS.2.2 (by decide) (by decide)
    · have t11 : x5.toInt = 1 := ti_eq c7 rfl (by decide)
      refine lv_iconst (v := 1) hx hb dX11_shut_14 (by decide) ?_
      refine lv_goto (tgt := 19) hx hb dX11_shut_15 (by decide) ?_
      have hFc := gA_free hG hA hS
      refine vx_callv (vx_runS (As := [.int 1]) (rest := []) ⟨hx, hb, hml, hown, hts⟩ (c_needKind1 l hlt dC dI kA adK adV G H nC nS hT (by omega) (by omega)) (va_cwS 1 hts (goodIn_app (goodIn_r _ [15, 16, 6] rfl (by decide +kernel)) (goodIn_ca (goodIn_r _ [12] rfl (by decide +kernel)) (bs2_in _ _))) rfl rfl rfl (by decide +kernel) ⟨(Nat.le_of_ble_eq_true rfl), (Nat.le_of_ble_eq_true rfl)⟩) ⟨fun a U g mk q => by obtain ⟨q0, q1, qK, qE⟩ := q; exact ⟨q0, q1, va_K.moved (u := U) (U := U.calling g mk a) (Vm.Alike.refl U.vm) qK, EVC.blind g mk a qE⟩, fun U hU hW => ⟨rfl, hU, va_K.moved hW.alike hK, hE.call hS hFc hU hW⟩⟩ rfl rfl hl.1 rfl (lv_room (Nat.le_of_ble_eq_true rfl)) dX11_shut_19 ⟨(Nat.le_of_ble_eq_true rfl), (Nat.le_of_ble_eq_true rfl)⟩) hS (fun q _ h => hFc q h) hFc (fun q _ h => hFc q h) (fun E ce q9 u t H locs ht hvm _ hw13 _ _ hS hce hcv hcl => ?_) (fun u t H locs ht hvm hw13 hB _ _ hS => ?_)
      · obtain ⟨hw13, hTx, hFx⟩ := hw13; rw [ht] at hTx hFx
        exact vx_out (fun x h => (hnt x h).elim) hlocks hce hcv hcl (fun t2 h2 hW => ⟨(), trivial, ⟨((fun h9 => (Or.inl h9)) hw13), by rw [h2]; exact hTx, by rw [h2]; exact hF.more hFx (by decide)⟩, hS.F h2⟩) hS.2.2 (by decide) (by decide)
      · obtain ⟨hT, hF1⟩ := hB
        rw [ht] at hT hF1
        have hF := hF.more hF1 (by decide)
        try dsimp only at hw13
        refine lv_aload_n hx hb dX11_shut_22 rfl (lv_at hl 1 rfl) ?_
        refine tw_get hx hb hts bF2_X11 hown hK hT hr_o0 shc_14 rfl 2 (by decide) (ht_at2 hts 16 rfl) (fun _ h9 => h9) dX11_shut_23 (fun v9 m15 h9 => ?_)
        obtain ⟨b16, rfl, hg17⟩ := h9 _ rfl
        have hFc := gA_free hG hA hS
        refine va_callv (va_runV (As := []) (rest := []) ⟨hx, hb, hml, hown, hts⟩ (c_forget l dC dI kA adK adV G H nC nS b16 hT hg17 (by omega) (by omega)) (cwV 0 hts (goodIn_app (goodIn_r _ [21, 22, 23, 24] rfl (by decide +kernel)) (goodIn_ca (goodIn_r _ [18, 19, 20] rfl (by decide +kernel)) (bs2_in _ _))) rfl rfl rfl (by decide +kernel) ⟨(Nat.le_of_ble_eq_true rfl), (Nat.le_of_ble_eq_true rfl)⟩) ⟨fun a U g mk q => by obtain ⟨q0, q1, qK, qE⟩ := q; exact ⟨q0, q1, va_K.moved (u := U) (U := U.calling g mk a) (Vm.Alike.refl U.vm) qK, EVC.blind g mk a qE⟩, gH_rc hK hT hg17 shc_9 rfl, fun U hU hW => ⟨rfl, hU, va_K.moved hW.alike hK, hE.call hS hFc hU hW⟩⟩ rfl rfl hl.1 rfl (lv_room (Nat.le_of_ble_eq_true rfl)) dX11_shut_26 ⟨(Nat.le_of_ble_eq_true rfl), (Nat.le_of_ble_eq_true rfl)⟩) hS (fun q _ h => hFc q h) hFc (fun u t H locs ht hvm hw19 hB _ _ hS => ?_)
        obtain ⟨hT, hF1⟩ := hB
        rw [ht] at hT hF1
        have hF := hF.more hF1 (by decide)
        try dsimp only at hw19
        refine lv_aload_n hx hb dX11_shut_29 rfl (lv_at hl 0 rfl) ?_
        refine lv_iconst (v := 0) hx hb dX11_shut_30 (by decide) ?_
        refine tw_putN (v := .int 0) (ty := .int) hx hb hts bF2_X10 tyX10 tyX10_ok nmX10 hown hK hT hG hS hg3 shc_13 rfl 2 (by decide) (hE.nw 10 rfl) (fun _ h9 => h9) rfl (by decide +kernel) rfl rfl (gl_at rfl (gi_all _)) dX11_shut_31 (fun H locs hT oq m22 oj hS => ?_)
        have hF := hF.put hg3 skc_13 oq oj (by decide)
        refine lv_iconst (v := 1) hx hb dX11_shut_34 (by decide) ?_
        refine W.widen (k := 2) (n := 12) (by decide) (by decide) ?_
        exact vx_ret (W.zret (v := 1) hx hb hr (by decide) (fun t ht hW => ⟨⟨1, (), rfl, (by exact (rg_t (a := 1) (by decide) (by first | decide | omega) (by first | decide | omega))), by (try dsimp only); rw [ht]; exact ⟨hT, hF⟩⟩, hS.F ht⟩) hS.2.2 dX11_shut_35)
