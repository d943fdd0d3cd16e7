set_option maxHeartbeats 4000000 in
set_option maxRecDepth 100000 in
theorem c_landC (l : Launch) (hlt : l.stackTraces = false) (dC : Nat → ClassId) (dI : Nat → Nat → Nat) (kA : Nat → ClassId) (adK adV : Nat → Nat) (G : gT) (H0 : Heap) (nC nS : Int) (o0 : Nat) (p0 : Int32) (p1 : Int32) (p2 : Int32) (p3 : Int32) (p4 : Int32) (lk : Nat) (ho : Int32) (gr : Nat) (la : Nat) (VL : Nat → Int32)  (hT : gH (dC, dI) kA (SHc nC nS) G H0) (hr_o0 : G o0 = some 14) (hm_lk : el H0 o0 (dI 14 1) = some (.ref lk)) (hr_lk : G lk = some 6) (hm_ho : el H0 lk (dI 6 4) = some (.int ho)) (hm_gr : el H0 lk (dI 6 1) = some (.ref gr)) (hr_gr : G gr = some 5) (hm_la : el H0 gr (dI 5 0) = some (.ref la)) (hr_la : G la = some 25) (hq0 : 0 ≤ ho.toInt ∧ ho.toInt ≤ 40000) (hc_VL : ct H0 la 96 VL) (hgC : 0 ≤ nC ∧ nC ≤ 40) (hgS : 0 ≤ nS ∧ nS ≤ 60) : vx_Met l yX11_land w_c_landC ({ frames := 7, cells := 3, slots := 18, locals := 120 }) (va_Pc [.ref o0, .int p0, .int p1, .int p2, .int p3, .int p4] (fun U => U.heap = H0 ∧ va_K (dC, dI) vwCl (tyl kA) U ∧ EVC adK adV (gA G H0.size) U U.heap)) (va_Qi (fun (r : Int32) (u : Unit) => (0 ≤ r.toInt ∧ r.toInt ≤ 96) ∧ (laC ho.toInt p0.toInt p1.toInt p2.toInt p3.toInt p4.toInt = 0) ∧ (r.toInt = ldN (fun j => (VL j).toInt) p0.toInt p1.toInt 96)) (fun (_ : Unit) (t : State) => gH (dC, dI) kA (SHc nC nS) G t.heap ∧ gF (dC, dI) SKc G ([(5, 14), (9, 2), (9, 3), (25, 0), (26, 0), (27, 0), (28, 0), (29, 0), (30, 0)] : List (Nat × Nat)) H0 t.heap ∧ ct t.heap la 96 (lyV VL 1 p0.toInt p1.toInt 96)) (gA G H0.size)) (vx_X (fun _ : Unit => True) (fun E _ t => (E = "java/lang/IllegalArgumentException" ∨ E = "java/lang/IllegalStateException" ∨ E = "java/lang/IndexOutOfBoundsException") ∧ ((E = "java/lang/IllegalArgumentException" ∧ laC ho.toInt p0.toInt p1.toInt p2.toInt p3.toInt p4.toInt = 2) ∨ (E = "java/lang/IllegalStateException" ∧ laC ho.toInt p0.toInt p1.toInt p2.toInt p3.toInt p4.toInt = 3) ∨ (E = "java/lang/IndexOutOfBoundsException" ∧ laC ho.toInt p0.toInt p1.toInt p2.toInt p3.toInt p4.toInt = 1)) ∧ gH (dC, dI) kA (SHc nC nS) G t.heap ∧ gF (dC, dI) SKc G ([(5, 14), (9, 2), (9, 3), (25, 0), (26, 0), (27, 0), (28, 0), (29, 0), (30, 0)] : List (Nat × Nat)) H0 t.heap ∧ ct t.heap la 96 VL) (gA G H0.size)) 3 18 (gA G H0.size) := by
  refine vx_ofW (cc := cX11_land) (maxL := 8) (ret := (some .int)) (by decide) rfl ?_
  intro p e s m args below meth c s₁ B hml hnt hv
  obtain ⟨rfl, hH0, hK, hE⟩ := hv
  have hx := B.exec
  have hb := B.bytes
  have hr := B.returns
  have hts := atoms_spec (ws := w_c_landC) B.pre
  have hown : s.vm.findClass RX11 = some m.cls := findClass_of_methodNamed B.named
  have hlocks := B.notSynchronized
  subst hH0
  generalize hAe : gA G s.heap.size = A at hE ⊢
  have hA : ∀ q : Nat, s.heap.size ≤ q → A q := fun q h => by rw [← hAe]; exact Or.inr h
  have hG := gA_of hAe
  have hS : va_S A s.heap s.heap [] := va_S.rf
  have hF : gF (dC, dI) SKc G ([(5, 14), (9, 2), (9, 3), (25, 0), (26, 0), (27, 0), (28, 0), (29, 0), (30, 0)] : List (Nat × Nat)) s.heap s.heap := gF.rf
  have hl := lv_entry ([.ref o0, .int p0, .int p1, .int p2, .int p3, .int p4]) (n := 8) (Nat.le_of_ble_eq_true rfl)
  rw [lg_entry_eq]
  generalize (lg_sl ([.ref o0, .int p0, .int p1, .int p2, .int p3, .int p4]) ++ List.replicate (8 - (lg_sl ([.ref o0, .int p0, .int p1, .int p2, .int p3, .int p4])).length) Slot.unset).toArray = ls at hl ⊢
  have hl : lv_has ls 8 [(0, .ref o0), (1, .int p0), (2, .int p1), (3, .int p2), (4, .int p3), (5, .int p4)] := hl
  refine lv_iload_n hx hb dX11_land_0 rfl (lv_at hl 1 rfl) ?_
  have hFc := gA_free hG hA hS
  refine vx_callv (vx_runS (As := [.int p0]) (rest := []) ⟨hx, hb, hml, hown, hts⟩ (c_needSquareE l hlt dC dI kA adK adV G s.heap nC nS p0 hT (by omega) (by omega)) (va_cwS 1 hts (goodIn_app (goodIn_r _ [8, 9, 5] rfl (by decide +kernel)) (goodIn_ca (goodIn_r _ [1, 2, 3, 4, 5, 6, 7] rfl (by decide +kernel)) (bs2_in _ _))) rfl rfl rfl (by decide +kernel) ⟨(Nat.le_of_ble_eq_true rfl), (Nat.le_of_ble_eq_true rfl)⟩) ⟨fun a U g mk q => by obtain ⟨q0, q1, qK, qE⟩ := q; exact ⟨q0, q1, va_K.moved (u := U) (U := U.calling g mk a) (Vm.Alike.refl U.vm) qK, EVC.blind g mk a qE⟩, fun U hU hW => ⟨rfl, hU, va_K.moved hW.alike hK, hE.call hS hFc hU hW⟩⟩ rfl rfl hl.1 rfl (lv_room (Nat.le_of_ble_eq_true rfl)) dX11_land_1 ⟨(Nat.le_of_ble_eq_true rfl), (Nat.le_of_ble_eq_true rfl)⟩) hS (fun q _ h => hFc q h) hFc (fun q _ h => hFc q h) (fun E ce q9 u t H locs ht hvm _ hw2 _ _ hS hce hcv hcl => ?_) (fun u t H locs ht hvm hw2 hB _ _ hS => ?_)
  · obtain ⟨hw2, hxf, hTx, hFx⟩ := hw2; rw [ht] at hTx hFx
    exact vx_out (fun x h => (hnt x h).elim) hlocks hce hcv hcl (fun t2 h2 hW => ⟨(), trivial, ⟨((fun h9 => (Or.inr (Or.inr h9))) hw2), (Or.inr (Or.inr (⟨hw2, (by have := laC_s ho.toInt p0.toInt p1.toInt p2.toInt p3.toInt p4.toInt; first | omega | exact hxf.elim)⟩))), by rw [h2]; exact hTx, by rw [h2]; exact hF.more hFx (by decide), by rw [h2]; exact hc_VL.kept (hFx.arr hr_la skc_25 (by decide))⟩, hS.F h2⟩) hS.2.2 (by decide) (by decide)
  · obtain ⟨hT, hF1⟩ := hB
    rw [ht] at hT hF1
    have m3 := (hF1.fld hr_o0 skc_14 (k := 1) (by decide) (by decide)).trans hm_lk
    have m4 := (hF1.fld hr_lk skc_6 (k := 4) (by decide) (by decide)).trans hm_ho
    have m5 := (hF1.fld hr_lk skc_6 (k := 1) (by decide) (by decide)).trans hm_gr
    have m6 := (hF1.fld hr_gr skc_5 (k := 0) (by decide) (by decide)).trans hm_la
    have m7 := hc_VL.kept (hF1.arr hr_la skc_25 (by decide))
    have hF := hF.more hF1 (by decide)
    try dsimp only at hw2
    have hf8 := hw2
    refine lv_iload_n hx hb dX11_land_4 rfl (lv_at hl 2 rfl) ?_
    have hFc := gA_free hG hA hS
    refine vx_callv (vx_runS (As := [.int p1]) (rest := []) ⟨hx, hb, hml, hown, hts⟩ (c_needSquareE l hlt dC dI kA adK adV G H nC nS p1 hT (by omega) (by omega)) (va_cwS 1 hts (goodIn_app (goodIn_r _ [8, 9, 5] rfl (by decide +kernel)) (goodIn_ca (goodIn_r _ [1, 2, 3, 4, 5, 6, 7] rfl (by decide +kernel)) (bs2_in _ _))) rfl rfl rfl (by decide +kernel) ⟨(Nat.le_of_ble_eq_true rfl), (Nat.le_of_ble_eq_true rfl)⟩) ⟨fun a U g mk q => by obtain ⟨q0, q1, qK, qE⟩ := q; exact ⟨q0, q1, va_K.moved (u := U) (U := U.calling g mk a) (Vm.Alike.refl U.vm) qK, EVC.blind g mk a qE⟩, fun U hU hW => ⟨rfl, hU, va_K.moved hW.alike hK, hE.call hS hFc hU hW⟩⟩ rfl rfl hl.1 rfl (lv_room (Nat.le_of_ble_eq_true rfl)) dX11_land_5 ⟨(Nat.le_of_ble_eq_true rfl), (Nat.le_of_ble_eq_true rfl)⟩) hS (fun q _ h => hFc q h) hFc (fun q _ h => hFc q h) (fun E ce q9 u t H locs ht hvm _ hw10 _ _ hS hce hcv hcl => ?_) (fun u t H locs ht hvm hw10 hB _ _ hS => ?_)
    · obtain ⟨hw10, hxf, hTx, hFx⟩ := hw10; rw [ht] at hTx hFx
      exact vx_out (fun x h => (hnt x h).elim) hlocks hce hcv hcl (fun t2 h2 hW => ⟨(), trivial, ⟨((fun h9 => (Or.inr (Or.inr h9))) hw10), (Or.inr (Or.inr (⟨hw10, (by have := laC_s ho.toInt p0.toInt p1.toInt p2.toInt p3.toInt p4.toInt; first | omega | exact hxf.elim)⟩))), by rw [h2]; exact hTx, by rw [h2]; exact hF.more hFx (by decide), by rw [h2]; exact m7.kept (hFx.arr hr_la skc_25 (by decide))⟩, hS.F h2⟩) hS.2.2 (by decide) (by decide)
    · obtain ⟨hT, hF1⟩ := hB
      rw [ht] at hT hF1
      have m11 := (hF1.fld hr_o0 skc_14 (k := 1) (by decide) (by decide)).trans m3
      have m12 := (hF1.fld hr_lk skc_6 (k := 4) (by decide) (by decide)).trans m4
      have m13 := (hF1.fld hr_lk skc_6 (k := 1) (by decide) (by decide)).trans m5
      have m14 := (hF1.fld hr_gr skc_5 (k := 0) (by decide) (by decide)).trans m6
      have m15 := m7.kept (hF1.arr hr_la skc_25 (by decide))
      have hF := hF.more hF1 (by decide)
      try dsimp only at hw10
      have hf16 := hw10
      refine lv_iload_n hx hb dX11_land_8 rfl (lv_at hl 3 rfl) ?_
      refine lv_sipush (v := (-900)) hx hb dX11_land_9 (by decide) ?_
      refine lv_sipush (v := 300) hx hb dX11_land_12 (by decide) ?_
      have hFc := gA_free hG hA hS
      refine va_calli (va_runS (As := [.int p2, .int (-900), .int 300]) (rest := []) ⟨hx, hb, hml, hown, hts⟩ (c_within l dC dI kA adK adV G H nC nS p2 (-900) 300 hT (by omega) (by omega)) (va_cwS 3 hts (goodIn_app (goodIn_r _ [3, 4, 5] rfl (by decide +kernel)) (goodIn_ca (goodIn_r _ [2] rfl (by decide +kernel)) (bs2_in _ _))) rfl rfl rfl (by decide +kernel) ⟨(Nat.le_of_ble_eq_true rfl), (Nat.le_of_ble_eq_true rfl)⟩) ⟨fun a U g mk q => by obtain ⟨q0, q1, qK, qE⟩ := q; exact ⟨q0, q1, va_K.moved (u := U) (U := U.calling g mk a) (Vm.Alike.refl U.vm) qK, EVC.blind g mk a qE⟩, fun U hU hW => ⟨rfl, hU, va_K.moved hW.alike hK, hE.call hS hFc hU hW⟩⟩ rfl rfl hl.1 rfl (lv_room (Nat.le_of_ble_eq_true rfl)) dX11_land_15 ⟨(Nat.le_of_ble_eq_true rfl), (Nat.le_of_ble_eq_true rfl)⟩) hS (fun q _ h => hFc q h) hFc (fun r17 u t H locs ht hvm hw18 hB _ _ hS => ?_)
      obtain ⟨hT, hF1⟩ := hB
      rw [ht] at hT hF1
      have m19 := (hF1.fld hr_o0 skc_14 (k := 1) (by decide) (by decide)).trans m11
      have m20 := (hF1.fld hr_lk skc_6 (k := 4) (by decide) (by decide)).trans m12
      have m21 := (hF1.fld hr_lk skc_6 (k := 1) (by decide) (by decide)).trans m13
      have m22 := (hF1.fld hr_gr skc_5 (k := 0) (by decide) (by decide)).trans m14
      have m23 := m15.kept (hF1.arr hr_la skc_25 (by decide))
      have hF := hF.more hF1 (by decide)
      try dsimp only at hw18
      obtain ⟨h24, hi25, hi26⟩ := hw18
      refine lv_if_eq (tgt := 46) hx hb dX11_land_18 (by decide) (fun c27 => ?_) (fun c27 => ?_)
      · have t28 : r17.toInt = 0 := ti_eq c27 rfl (by decide)
        have t29 : (-900 : Int32).toInt = (-900) := by decide
        have t30 : (300 : Int32).toInt = 300 := by decide
        have t31 : p2.toInt < (-900 : Int32).toInt ∨ (300 : Int32).toInt < p2.toInt := hi26 c27
        refine lv_iconst (v := 0) hx hb dX11_land_46 (by decide) ?_
        have hFc := gA_free hG hA hS
        refine vx_callN (vx_runS (As := [.int 0]) (rest := []) ⟨hx, hb, hml, hown, hts⟩ (c_needNumbers0 l hlt dC dI kA adK adV G H nC nS hT (by omega) (by omega)) (va_cwS 1 hts (goodIn_app (goodIn_r _ [13, 14, 5] rfl (by decide +kernel)) (goodIn_ca (goodIn_r _ [10, 11, 12] rfl (by decide +kernel)) (bs2_in _ _))) rfl rfl rfl (by decide +kernel) ⟨(Nat.le_of_ble_eq_true rfl), (Nat.le_of_ble_eq_true rfl)⟩) ⟨fun a U g mk q => by obtain ⟨q0, q1, qK, qE⟩ := q; exact ⟨q0, q1, va_K.moved (u := U) (U := U.calling g mk a) (Vm.Alike.refl U.vm) qK, EVC.blind g mk a qE⟩, fun U hU hW => ⟨rfl, hU, va_K.moved hW.alike hK, hE.call hS hFc hU hW⟩⟩ rfl rfl hl.1 rfl (lv_room (Nat.le_of_ble_eq_true rfl)) dX11_land_47 ⟨(Nat.le_of_ble_eq_true rfl), (Nat.le_of_ble_eq_true rfl)⟩) hS hFc (fun q _ h => hFc q h) (fun E ce q9 u t H locs ht hvm _ hw33 _ _ hS hce hcv hcl => ?_)
        obtain ⟨hw33, hTx, hFx⟩ := hw33; rw [ht] at hTx hFx
        exact vx_out (fun x h => (hnt x h).elim) hlocks hce hcv hcl (fun t2 h2 hW => ⟨(), trivial, ⟨((fun h9 => (Or.inl h9)) hw33), (Or.inl ⟨hw33, (by have := laC_s ho.toInt p0.toInt p1.toInt p2.toInt p3.toInt p4.toInt; first | omega | exact hxf.elim)⟩), by rw [h2]; exact hTx, by rw [h2]; exact hF.more hFx (by decide), by rw [h2]; exact m23.kept (hFx.arr hr_la skc_25 (by decide))⟩, hS.F h2⟩) hS.2.2 (by decide) (by decide)
      · have t34 : r17.toInt ≠ 0 := ti_ne c27 rfl (by decide)
        have t35 : (-900 : Int32).toInt = (-900) := by decide
        have t36 : (300 : Int32).toInt = 300 := by decide
        have t37 : (-900 : Int32).toInt ≤ p2.toInt ∧ p2.toInt ≤ (300 : Int32).toInt := hi25 ((bit_of ⟨by omega, by omega⟩).resolve_left c27)
        refine lv_iload hx hb dX11_land_21 (lv_at hl 4 rfl) ?_
        refine lv_iconst (v := 0) hx hb dX11_land_23 (by decide) ?_
        refine lv_iconst (v := 2) hx hb dX11_land_24 (by decide) ?_
        have hFc := gA_free hG hA hS
        refine va_calli (va_runS (As := [.int p3, .int 0, .int 2]) (rest := []) ⟨hx, hb, hml, hown, hts⟩ (c_within l dC dI kA adK adV G H nC nS p3 0 2 hT (by omega) (by omega)) (va_cwS 3 hts (goodIn_app (goodIn_r _ [3, 4, 5] rfl (by decide +kernel)) (goodIn_ca (goodIn_r _ [2] rfl (by decide +kernel)) (bs2_in _ _))) rfl rfl rfl (by decide +kernel) ⟨(Nat.le_of_ble_eq_true rfl), (Nat.le_of_ble_eq_true rfl)⟩) ⟨fun a U g mk q => by obtain ⟨q0, q1, qK, qE⟩ := q; exact ⟨q0, q1, va_K.moved (u := U) (U := U.calling g mk a) (Vm.Alike.refl U.vm) qK, EVC.blind g mk a qE⟩, fun U hU hW => ⟨rfl, hU, va_K.moved hW.alike hK, hE.call hS hFc hU hW⟩⟩ rfl rfl hl.1 rfl (lv_room (Nat.le_of_ble_eq_true rfl)) dX11_land_25 ⟨(Nat.le_of_ble_eq_true rfl), (Nat.le_of_ble_eq_true rfl)⟩) hS (fun q _ h => hFc q h) hFc (fun r38 u t H locs ht hvm hw39 hB _ _ hS => ?_)
        obtain ⟨hT, hF1⟩ := hB
        rw [ht] at hT hF1
        have m40 := (hF1.fld hr_o0 skc_14 (k := 1) (by decide) (by decide)).trans m19
        have m41 := (hF1.fld hr_lk skc_6 (k := 4) (by decide) (by decide)).trans m20
        have m42 := (hF1.fld hr_lk skc_6 (k := 1) (by decide) (by decide)).trans m21
        have m43 := (hF1.fld hr_gr skc_5 (k := 0) (by decide) (by decide)).trans m22
        have m44 := m23.kept (hF1.arr hr_la skc_25 (by decide))
        have hF := hF.more hF1 (by decide)
        try dsimp only at hw39
        obtain ⟨h45, hi46, hi47⟩ := hw39
        refine lv_if_eq (tgt := 46) hx hb dX11_land_28 (by decide) (fun c48 => ?_) (fun c48 => ?_)
        · have t49 : r38.toInt = 0 := ti_eq c48 rfl (by decide)
          have t50 : (0 : Int32).toInt = 0 := by decide
          have t51 : (2 : Int32).toInt = 2 := by decide
          have t52 : p3.toInt < (0 : Int32).toInt ∨ (2 : Int32).toInt < p3.toInt := hi47 c48
          refine lv_iconst (v := 0) hx hb dX11_land_46 (by decide) ?_
          have hFc := gA_free hG hA hS
          refine vx_callN (vx_runS (As := [.int 0]) (rest := []) ⟨hx, hb, hml, hown, hts⟩ (c_needNumbers0 l hlt dC dI kA adK adV G H nC nS hT (by omega) (by omega)) (va_cwS 1 hts (goodIn_app (goodIn_r _ [13, 14, 5] rfl (by decide +kernel)) (goodIn_ca (goodIn_r _ [10, 11, 12] rfl (by decide +kernel)) (bs2_in _ _))) rfl rfl rfl (by decide +kernel) ⟨(Nat.le_of_ble_eq_true rfl), (Nat.le_of_ble_eq_true rfl)⟩) ⟨fun a U g mk q => by obtain ⟨q0, q1, qK, qE⟩ := q; exact ⟨q0, q1, va_K.moved (u := U) (U := U.calling g mk a) (Vm.Alike.refl U.vm) qK, EVC.blind g mk a qE⟩, fun U hU hW => ⟨rfl, hU, va_K.moved hW.alike hK, hE.call hS hFc hU hW⟩⟩ rfl rfl hl.1 rfl (lv_room (Nat.le_of_ble_eq_true rfl)) dX11_land_47 ⟨(Nat.le_of_ble_eq_true rfl), (Nat.le_of_ble_eq_true rfl)⟩) hS hFc (fun q _ h => hFc q h) (fun E ce q9 u t H locs ht hvm _ hw54 _ _ hS hce hcv hcl => ?_)
          obtain ⟨hw54, hTx, hFx⟩ := hw54; rw [ht] at hTx hFx
          exact vx_out (fun x h => (hnt x h).elim) hlocks hce hcv hcl (fun t2 h2 hW => ⟨(), trivial, ⟨((fun h9 => (Or.inl h9)) hw54), (Or.inl ⟨hw54, (by have := laC_s ho.toInt p0.toInt p1.toInt p2.toInt p3.toInt p4.toInt; first | omega | exact hxf.elim)⟩), by rw [h2]; exact hTx, by rw [h2]; exact hF.more hFx (by decide), by rw [h2]; exact m44.kept (hFx.arr hr_la skc_25 (by decide))⟩, hS.F h2⟩) hS.2.2 (by decide) (by decide)
        · have t55 : r38.toInt ≠ 0 := ti_ne c48 rfl (by decide)
          have t56 : (0 : Int32).toInt = 0 := by decide
          have t57 : (2 : Int32).toInt = 2 := by decide
          have t58 : (0 : Int32).toInt ≤ p3.toInt ∧ p3.toInt ≤ (2 : Int32).toInt := hi46 ((bit_of ⟨by omega, by omega⟩).resolve_left c48)
          refine lv_iload hx hb dX11_land_31 (lv_at hl 5 rfl) ?_
          refine lv_iconst (v := 0) hx hb dX11_land_33 (by decide) ?_
          refine lv_bipush (v := 20) hx hb dX11_land_34 (by decide) ?_
          have hFc := gA_free hG hA hS
          refine va_calli (va_runS (As := [.int p4, .int 0, .int 20]) (rest := []) ⟨hx, hb, hml, hown, hts⟩ (c_within l dC dI kA adK adV G H nC nS p4 0 20 hT (by omega) (by omega)) (va_cwS 3 hts (goodIn_app (goodIn_r _ [3, 4, 5] rfl (by decide +kernel)) (goodIn_ca (goodIn_r _ [2] rfl (by decide +kernel)) (bs2_in _ _))) rfl rfl rfl (by decide +kernel) ⟨(Nat.le_of_ble_eq_true rfl), (Nat.le_of_ble_eq_true rfl)⟩) ⟨fun a U g mk q => by obtain ⟨q0, q1, qK, qE⟩ := q; exact ⟨q0, q1, va_K.moved (u := U) (U := U.calling g mk a) (Vm.Alike.refl U.vm) qK, EVC.blind g mk a qE⟩, fun U hU hW => ⟨rfl, hU, va_K.moved hW.alike hK, hE.call hS hFc hU hW⟩⟩ rfl rfl hl.1 rfl (lv_room (Nat.le_of_ble_eq_true rfl)) dX11_land_36 ⟨(Nat.le_of_ble_eq_true rfl), (Nat.le_of_ble_eq_true rfl)⟩) hS (fun q _ h => hFc q h) hFc (fun r59 u t H locs ht hvm hw60 hB _ _ hS => ?_)
          obtain ⟨hT, hF1⟩ := hB
          rw [ht] at hT hF1
          have m61 := (hF1.fld hr_o0 skc_14 (k := 1) (by decide) (by decide)).trans m40
          have m62 := (hF1.fld hr_lk skc_6 (k := 4) (by decide) (by decide)).trans m41
          have m63 := (hF1.fld hr_lk skc_6 (k := 1) (by decide) (by decide)).trans m42
          have m64 := (hF1.fld hr_gr skc_5 (k := 0) (by decide) (by decide)).trans m43
          have m65 := m44.kept (hF1.arr hr_la skc_25 (by decide))
          have hF := hF.more hF1 (by decide)
          try dsimp only at hw60
          obtain ⟨h66, hi67, hi68⟩ := hw60
          refine lv_if_eq (tgt := 46) hx hb dX11_land_39 (by decide) (fun c69 => ?_) (fun c69 => ?_)
          · have t70 : r59.toInt = 0 := ti_eq c69 rfl (by decide)
            have t71 : (0 : Int32).toInt = 0 := by decide
            have t72 : (20 : Int32).toInt = 20 := by decide
            have t73 : p4.toInt < (0 : Int32).toInt ∨ (20 : Int32).toInt < p4.toInt := hi68 c69
            refine lv_iconst (v := 0) hx hb dX11_land_46 (by decide) ?_
            have hFc := gA_free hG hA hS
            refine vx_callN (vx_runS (As := [.int 0]) (rest := []) ⟨hx, hb, hml, hown, hts⟩ (c_needNumbers0 l hlt dC dI kA adK adV G H nC nS hT (by omega) (by omega)) (va_cwS 1 hts (goodIn_app (goodIn_r _ [13, 14, 5] rfl (by decide +kernel)) (goodIn_ca (goodIn_r _ [10, 11, 12] rfl (by decide +kernel)) (bs2_in _ _))) rfl rfl rfl (by decide +kernel) ⟨(Nat.le_of_ble_eq_true rfl), (Nat.le_of_ble_eq_true rfl)⟩) ⟨fun a U g mk q => by obtain ⟨q0, q1, qK, qE⟩ := q; exact ⟨q0, q1, va_K.moved (u := U) (U := U.calling g mk a) (Vm.Alike.refl U.vm) qK, EVC.blind g mk a qE⟩, fun U hU hW => ⟨rfl, hU, va_K.moved hW.alike hK, hE.call hS hFc hU hW⟩⟩ rfl rfl hl.1 rfl (lv_room (Nat.le_of_ble_eq_true rfl)) dX11_land_47 ⟨(Nat.le_of_ble_eq_true rfl), (Nat.le_of_ble_eq_true rfl)⟩) hS hFc (fun q _ h => hFc q h) (fun E ce q9 u t H locs ht hvm _ hw75 _ _ hS hce hcv hcl => ?_)
            obtain ⟨hw75, hTx, hFx⟩ := hw75; rw [ht] at hTx hFx
            exact vx_out (fun x h => (hnt x h).elim) hlocks hce hcv hcl (fun t2 h2 hW => ⟨(), trivial, ⟨((fun h9 => (Or.inl h9)) hw75), (Or.inl ⟨hw75, (by have := laC_s ho.toInt p0.toInt p1.toInt p2.toInt p3.toInt p4.toInt; first | omega | exact hxf.elim)⟩), by rw [h2]; exact hTx, by rw [h2]; exact hF.more hFx (by decide), by rw [h2]; exact m65.kept (hFx.arr hr_la skc_25 (by decide))⟩, hS.F h2⟩) hS.2.2 (by decide) (by decide)
          · have t76 : r59.toInt ≠ 0 := ti_ne c69 rfl (by decide)
            have t77 : (0 : Int32).toInt = 0 := by decide
            have t78 : (20 : Int32).toInt = 20 := by decide
            have t79 : (0 : Int32).toInt ≤ p4.toInt ∧ p4.toInt ≤ (20 : Int32).toInt := hi67 ((bit_of ⟨by omega, by omega⟩).resolve_left c69)
            refine lv_iconst (v := 1) hx hb dX11_land_42 (by decide) ?_
            refine lv_goto (tgt := 47) hx hb dX11_land_43 (by decide) ?_
            have hFc := gA_free hG hA hS
            refine vx_callv (vx_runS (As := [.int 1]) (rest := []) ⟨hx, hb, hml, hown, hts⟩ (c_needNumbers1X l hlt dC dI kA adK adV G H nC nS hT (by omega) (by omega)) (va_cwS 1 hts (goodIn_app (goodIn_r _ [13, 14, 5] rfl (by decide +kernel)) (goodIn_ca (goodIn_r _ [10] rfl (by decide +kernel)) (bs2_in _ _))) rfl rfl rfl (by decide +kernel) ⟨(Nat.le_of_ble_eq_true rfl), (Nat.le_of_ble_eq_true rfl)⟩) ⟨fun a U g mk q => by obtain ⟨q0, q1, qK, qE⟩ := q; exact ⟨q0, q1, va_K.moved (u := U) (U := U.calling g mk a) (Vm.Alike.refl U.vm) qK, EVC.blind g mk a qE⟩, fun U hU hW => ⟨rfl, hU, va_K.moved hW.alike hK, hE.call hS hFc hU hW⟩⟩ rfl rfl hl.1 rfl (lv_room (Nat.le_of_ble_eq_true rfl)) dX11_land_47 ⟨(Nat.le_of_ble_eq_true rfl), (Nat.le_of_ble_eq_true rfl)⟩) hS (fun q _ h => hFc q h) hFc (fun q _ h => hFc q h) (fun E ce q9 u t H locs ht hvm _ hw81 _ _ hS hce hcv hcl => ?_) (fun u t H locs ht hvm hw81 hB _ _ hS => ?_)
            · obtain ⟨hw81, hxf, hTx, hFx⟩ := hw81; rw [ht] at hTx hFx
              exact vx_out (fun x h => (hnt x h).elim) hlocks hce hcv hcl (fun t2 h2 hW => ⟨(), trivial, ⟨((fun h9 => (Or.inl h9)) hw81), (Or.inl ⟨hw81, (by have := laC_s ho.toInt p0.toInt p1.toInt p2.toInt p3.toInt p4.toInt; first | omega | exact hxf.elim)⟩), by rw [h2]; exact hTx, by rw [h2]; exact hF.more hFx (by decide), by rw [h2]; exact m65.kept (hFx.arr hr_la skc_25 (by decide))⟩, hS.F h2⟩) hS.2.2 (by decide) (by decide)
            · obtain ⟨hT, hF1⟩ := hB
              rw [ht] at hT hF1
              have m82 := (hF1.fld hr_o0 skc_14 (k := 1) (by decide) (by decide)).trans m61
              have m83 := (hF1.fld hr_lk skc_6 (k := 4) (by decide) (by decide)).trans m62
              have m84 := (hF1.fld hr_lk skc_6 (k := 1) (by decide) (by decide)).trans m63
              have m85 := (hF1.fld hr_gr skc_5 (k := 0) (by decide) (by decide)).trans m64
              have m86 := m65.kept (hF1.arr hr_la skc_25 (by decide))
              have hF := hF.more hF1 (by decide)
              try dsimp only at hw81
              refine lv_aload_n hx hb dX11_land_50 rfl (lv_at hl 0 rfl) ?_
              refine tw_getM (v := .ref lk) hx hb hts bF2_X11 hown hK hT hr_o0 shc_14 rfl 1 (by decide) (ht_at2 hts 14 rfl) (fun _ h9 => h9) m82 dX11_land_51 ?_
              refine tw_getNM (v := .int ho) hx hb hts bF2_X3 hown hK hT hr_lk shc_6 rfl 4 (by decide) (hE.nw 0 rfl) (fun _ h9 => h9) m83 dX11_land_54 ?_
              refine lv_if_le (tgt := 70) hx hb dX11_land_57 (by decide) (fun c87 => ?_) (fun c87 => ?_)
              · have t88 : ho.toInt ≤ 0 := ti_le c87 rfl (by decide)
                refine lv_aload_n hx hb dX11_land_70 rfl (lv_at hl 0 rfl) ?_
                refine tw_get hx hb hts bF2_X11 hown hK hT hr_o0 shc_14 rfl 2 (by decide) (ht_at2 hts 15 rfl) (fun _ h9 => h9) dX11_land_71 (fun v9 m89 h9 => ?_)
                obtain ⟨b90, rfl, hg91⟩ := h9 _ rfl
                have hFc := gA_free hG hA hS
                refine va_callv (va_runV (As := []) (rest := []) ⟨hx, hb, hml, hown, hts⟩ (c_forget l dC dI kA adK adV G H nC nS b90 hT hg91 (by omega) (by omega)) (cwV 0 hts (goodIn_app (goodIn_r _ [20, 21, 22, 23] rfl (by decide +kernel)) (goodIn_ca (goodIn_r _ [17, 18, 19] rfl (by decide +kernel)) (bs2_in _ _))) rfl rfl rfl (by decide +kernel) ⟨(Nat.le_of_ble_eq_true rfl), (Nat.le_of_ble_eq_true rfl)⟩) ⟨fun a U g mk q => by obtain ⟨q0, q1, qK, qE⟩ := q; exact ⟨q0, q1, va_K.moved (u := U) (U := U.calling g mk a) (Vm.Alike.refl U.vm) qK, EVC.blind g mk a qE⟩, gH_rc hK hT hg91 shc_9 rfl, fun U hU hW => ⟨rfl, hU, va_K.moved hW.alike hK, hE.call hS hFc hU hW⟩⟩ rfl rfl hl.1 rfl (lv_room (Nat.le_of_ble_eq_true rfl)) dX11_land_74 ⟨(Nat.le_of_ble_eq_true rfl), (Nat.le_of_ble_eq_true rfl)⟩) hS (fun q _ h => hFc q h) hFc (fun u t H locs ht hvm hw93 hB _ _ hS => ?_)
                obtain ⟨hT, hF1⟩ := hB
                rw [ht] at hT hF1
                have m94 := (hF1.fld hr_o0 skc_14 (k := 1) (by decide) (by decide)).trans m82
                have m95 := (hF1.fld hr_lk skc_6 (k := 4) (by decide) (by decide)).trans m83
                have m96 := (hF1.fld hr_lk skc_6 (k := 1) (by decide) (by decide)).trans m84
                have m97 := (hF1.fld hr_gr skc_5 (k := 0) (by decide) (by decide)).trans m85
                have m98 := m86.kept (hF1.arr hr_la skc_25 (by decide))
                have m99 := (hF1.fld hr_o0 skc_14 (k := 2) (by decide) (by decide)).trans m89
                have hF := hF.more hF1 (by decide)
                try dsimp only at hw93
                refine lv_iconst (v := 0) hx hb dX11_land_77 (by decide) ?_
                refine lv_istore (lv' := [(6, .int 0), (0, .ref o0), (1, .int p0), (2, .int p1), (3, .int p2), (4, .int p3), (5, .int p4)]) hx hb dX11_land_78 hl (by decide) rfl (fun ls hl => ?_)
                refine lv_iconst (v := 0) hx hb dX11_land_80 (by decide) ?_
                refine lv_istore (lv' := [(7, .int 0), (6, .int 0), (0, .ref o0), (1, .int p0), (2, .int p1), (3, .int p2), (4, .int p3), (5, .int p4)]) hx hb dX11_land_81 hl (by decide) rfl (fun ls hl => ?_)
                have key155 : ∀ (n155 i100 : Nat), i100 + n155 = 96 → 0 ≤ i100 → ∀ (z101 : Int32), ((0 + 0 * (i100 : Int) ≤ z101.toInt ∧ z101.toInt ≤ 0 + 1 * (i100 : Int)) ∧ (z101.toInt = ldN (fun j => (VL j).toInt) p0.toInt p1.toInt i100)) → ∀ (H : Heap) (locs : List Loc), gH (dC, dI) kA (SHc nC nS) G H → gF (dC, dI) SKc G ([(5, 14), (9, 2), (9, 3), (25, 0), (26, 0), (27, 0), (28, 0), (29, 0), (30, 0)] : List (Nat × Nat)) s.heap H → va_S A s.heap H locs → ct H la 96 (lyV VL 1 p0.toInt p1.toInt i100) → el H o0 (dI 14 1) = some (.ref lk) → el H lk (dI 6 4) = some (.int ho) → el H lk (dI 6 1) = some (.ref gr) → el H gr (dI 5 0) = some (.ref la) → el H o0 (dI 14 2) = some (.ref b90) → ∀ ls : Array Slot, lv_has ls 8 [(7, .int (nI i100)), (6, .int z101), (0, .ref o0), (1, .int p0), (2, .int p1), (3, .int p2), (4, .int p3), (5, .int p4)] → W p l e (headSpec w_c_landC ({ frames := 7, cells := 3, slots := 18, locals := 120 })).room s m #[.ref o0, .int p0, .int p1, .int p2, .int p3, .int p4] below meth c H locs 2 12 (vx_MQ below (va_Qi (fun (r : Int32) (u : Unit) => (0 ≤ r.toInt ∧ r.toInt ≤ 96) ∧ (laC ho.toInt p0.toInt p1.toInt p2.toInt p3.toInt p4.toInt = 0) ∧ (r.toInt = ldN (fun j => (VL j).toInt) p0.toInt p1.toInt 96)) (fun (_ : Unit) (t : State) => gH (dC, dI) kA (SHc nC nS) G t.heap ∧ gF (dC, dI) SKc G ([(5, 14), (9, 2), (9, 3), (25, 0), (26, 0), (27, 0), (28, 0), (29, 0), (30, 0)] : List (Nat × Nat)) s.heap t.heap ∧ ct t.heap la 96 (lyV VL 1 p0.toInt p1.toInt 96)) A) (vx_X (fun _ : Unit => True) (fun E _ t => (E = "java/lang/IllegalArgumentException" ∨ E = "java/lang/IllegalStateException" ∨ E = "java/lang/IndexOutOfBoundsException") ∧ ((E = "java/lang/IllegalArgumentException" ∧ laC ho.toInt p0.toInt p1.toInt p2.toInt p3.toInt p4.toInt = 2) ∨ (E = "java/lang/IllegalStateException" ∧ laC ho.toInt p0.toInt p1.toInt p2.toInt p3.toInt p4.toInt = 3) ∨ (E = "java/lang/IndexOutOfBoundsException" ∧ laC ho.toInt p0.toInt p1.toInt p2.toInt p3.toInt p4.toInt = 1)) ∧ gH (dC, dI) kA (SHc nC nS) G t.heap ∧ gF (dC, dI) SKc G ([(5, 14), (9, 2), (9, 3), (25, 0), (26, 0), (27, 0), (28, 0), (29, 0), (30, 0)] : List (Nat × Nat)) s.heap t.heap ∧ ct t.heap la 96 VL) A) #[.ref o0, .int p0, .int p1, .int p2, .int p3, .int p4] s 3 18 A) (F0 m 83 ls []) := by
                  intro n155
                  induction n155 with
                  | zero =>
                    intro i100 hn155 hlo156 z101 ⟨h102, hj109⟩ H locs hT hF hS m103 m104 m105 m106 m107 m108 ls hl
                    obtain rfl : 96 = i100 := by omega
                    refine lv_iload hx hb dX11_land_83 (lv_at hl 0 rfl) ?_
                    refine lv_bipush (v := 96) hx hb dX11_land_85 (by decide) ?_
                    refine lv_icmp_ge (tgt := 149) hx hb dX11_land_87 (by decide) (fun c157 => ?_) (fun c157 => (by exfalso; have q9 : ((96 : Nat) : Int) < 96 := ti_nle c157 (by decide) (nI_toInt (by omega)); omega))
                    have t158 : 96 ≤ ((96 : Nat) : Int) := ti_le c157 (by decide) (nI_toInt (by omega))
                    refine lv_iload hx hb dX11_land_149 (lv_at hl 1 rfl) ?_
                    refine W.widen (k := 3) (n := 18) (by decide) (by decide) ?_
                    exact vx_ret (W.iret (v := z101) hx hb hr (fun t ht hW => ⟨⟨z101, (), rfl, (by exact ⟨(by have q8 := ti_all z101; omega), (by have := laC_s ho.toInt p0.toInt p1.toInt p2.toInt p3.toInt p4.toInt; omega), hj109⟩), by (try dsimp only); rw [ht]; exact ⟨hT, hF, m103⟩⟩, hS.F ht⟩) hS.2.2 dX11_land_151)
                  | succ n155 ih155 =>
                    intro i100 hn155 hlo156 z101 ⟨h102, hj109⟩ H locs hT hF hS m103 m104 m105 m106 m107 m108 ls hl
                    have hlt158 : i100 < 96 := by omega
                    refine lv_iload hx hb dX11_land_83 (lv_at hl 0 rfl) ?_
                    refine lv_bipush (v := 96) hx hb dX11_land_85 (by decide) ?_
                    refine lv_icmp_ge (tgt := 149) hx hb dX11_land_87 (by decide) (fun c159 => (by exfalso; have q9 : 96 ≤ ((i100 : Nat) : Int) := ti_le c159 (by decide) (nI_toInt (by omega)); omega)) (fun c159 => ?_)
                    have t160 : ((i100 : Nat) : Int) < 96 := ti_nle c159 (by decide) (nI_toInt (by omega))
                    refine lv_iload hx hb dX11_land_90 (lv_at hl 0 rfl) ?_
                    refine lv_iload_n hx hb dX11_land_92 rfl (lv_at hl 3 rfl) ?_
                    refine lv_iload_n hx hb dX11_land_93 rfl (lv_at hl 4 rfl) ?_
                    have hFc := gA_free hG hA hS
                    refine va_calli (va_runS (As := [.int (nI i100), .int p0, .int p1]) (rest := []) ⟨hx, hb, hml, hown, hts⟩ (c_inRectangleE l dC dI kA adK adV G H nC nS (nI i100) p0 p1 hT (rg_t (a := ((i100 : Nat) : Int)) (nI_toInt (by omega)) (by omega) (by omega)) (by have q8 := ti_all p0; omega) (by have q8 := ti_all p1; omega) (by omega) (by omega)) (va_cwS 3 hts (goodIn_app (goodIn_r _ [35, 36, 5] rfl (by decide +kernel)) (goodIn_ca (goodIn_r _ [24, 25, 26, 27, 28, 29, 30, 31, 32, 33, 34, 5] rfl (by decide +kernel)) (bs2_in _ _))) rfl rfl rfl (by decide +kernel) ⟨(Nat.le_of_ble_eq_true rfl), (Nat.le_of_ble_eq_true rfl)⟩) ⟨fun a U g mk q => by obtain ⟨q0, q1, qK, qE⟩ := q; exact ⟨q0, q1, va_K.moved (u := U) (U := U.calling g mk a) (Vm.Alike.refl U.vm) qK, EVC.blind g mk a qE⟩, fun U hU hW => ⟨rfl, hU, va_K.moved hW.alike hK, hE.call hS hFc hU hW⟩⟩ rfl rfl hl.1 rfl (lv_room (Nat.le_of_ble_eq_true rfl)) dX11_land_94 ⟨(Nat.le_of_ble_eq_true rfl), (Nat.le_of_ble_eq_true rfl)⟩) hS (fun q _ h => hFc q h) hFc (fun r161 u t H locs ht hvm hw162 hB _ _ hS => ?_)
                    obtain ⟨hT, hF1⟩ := hB
                    rw [ht] at hT hF1
                    have m163 := m103.kept (hF1.arr hr_la skc_25 (by decide))
                    have m164 := (hF1.fld hr_o0 skc_14 (k := 1) (by decide) (by decide)).trans m104
                    have m165 := (hF1.fld hr_lk skc_6 (k := 4) (by decide) (by decide)).trans m105
                    have m166 := (hF1.fld hr_lk skc_6 (k := 1) (by decide) (by decide)).trans m106
                    have m167 := (hF1.fld hr_gr skc_5 (k := 0) (by decide) (by decide)).trans m107
                    have m168 := (hF1.fld hr_o0 skc_14 (k := 2) (by decide) (by decide)).trans m108
                    have hF := hF.more hF1 (by decide)
                    try dsimp only at hw162
                    obtain ⟨h169, hf170⟩ := hw162
                    have t171 : (nI i100).toInt = ((i100 : Nat) : Int) := nI_toInt (by omega)
                    refine lv_if_eq (tgt := 143) hx hb dX11_land_97 (by decide) (fun c172 => ?_) (fun c172 => ?_)
                    · have t173 : r161.toInt = 0 := ti_eq c172 rfl (by decide)
                      refine lv_iinc (v := nI (i100 + 1)) (lv' := [(7, .int (nI (i100 + 1))), (6, .int z101), (0, .ref o0), (1, .int p0), (2, .int p1), (3, .int p2), (4, .int p3), (5, .int p4)]) hx hb dX11_land_143 hl (k := 0) rfl (nI_add i100 1) (by decide) rfl (fun ls hl => ?_)
                      refine lv_goto (tgt := 83) hx hb dX11_land_146 (by decide) ?_
                      exact ih155 (i100 + 1) (by omega) (by omega) z101 ⟨(by have q8 := ti_all z101; omega), (ldN_out (inR_0 (s := ((i100 : Nat) : Int)) (a := p0.toInt) (b := p1.toInt) (by have q9 : (nI i100).toInt = ((i100 : Nat) : Int) := nI_toInt (by omega); omega)) hj109)⟩ _ _ hT hF hS (m163.ext (fun _ _ => ly_out (inR_0 (s := ((i100 : Nat) : Int)) (a := p0.toInt) (b := p1.toInt) (by have q9 : (nI i100).toInt = ((i100 : Nat) : Int) := nI_toInt (by omega); omega)))) m164 m165 m166 m167 m168 ls (lv_sub hl [0, 1, 2, 3, 4, 5, 6, 7] rfl)
                    · have t174 : r161.toInt ≠ 0 := ti_ne c172 rfl (by decide)
                      refine lv_iload hx hb dX11_land_100 (lv_at hl 1 rfl) ?_
                      refine lv_aload_n hx hb dX11_land_102 rfl (lv_at hl 2 rfl) ?_
                      refine tw_getM (v := .ref lk) hx hb hts bF2_X11 hown hK hT hr_o0 shc_14 rfl 1 (by decide) (ht_at2 hts 14 rfl) (fun _ h9 => h9) m164 dX11_land_103 ?_
                      refine tw_getNM (v := .ref gr) hx hb hts bF2_X3 hown hK hT hr_lk shc_6 rfl 1 (by decide) (hE.nw 1 rfl) (fun _ h9 => h9) m166 dX11_land_106 ?_
                      refine tw_getNM (v := .ref la) hx hb hts bF2_X2 hown hK hT hr_gr shc_5 rfl 0 (by decide) (hE.nw 2 rfl) (fun _ h9 => h9) m167 dX11_land_109 ?_
                      refine lv_iload hx hb dX11_land_112 (lv_at hl 0 rfl) ?_
                      refine tw_zald (i := (nI i100)) hx hb hK hT hr_la shc_25 rfl (vp_in_nI (by omega) (by decide)) dX11_land_114 (fun v9 m175 h9 => ?_)
                      obtain ⟨x176, rfl, gx176, kx176⟩ := h9
                      have cx176 := m163.at m175 (by have q9 := tn_of (show (nI i100).toInt = ((i100 : Nat) : Int) from (nI_toInt (by omega))) (by omega); omega)
                      refine lv_if_eq (tgt := 122) hx hb dX11_land_115 (by decide) (fun c177 => ?_) (fun c177 => ?_)
                      · have t178 : x176.toInt = 0 := ti_eq c177 rfl (by decide)
                        refine lv_iconst (v := 1) hx hb dX11_land_122 (by decide) ?_
                        refine lv_iadd hx hb dX11_land_123 ?_
                        refine lv_topi (fun x179 ex179 => ?_)
                        have t180 : x179.toInt = z101.toInt + 1 := ti_add ex179 rfl (by decide) (by omega) (by omega)
                        refine lv_istore (lv' := [(6, .int x179), (7, .int (nI i100)), (0, .ref o0), (1, .int p0), (2, .int p1), (3, .int p2), (4, .int p3), (5, .int p4)]) hx hb dX11_land_124 hl (by decide) rfl (fun ls hl => ?_)
                        refine lv_aload_n hx hb dX11_land_126 rfl (lv_at hl 2 rfl) ?_
                        refine tw_getM (v := .ref lk) hx hb hts bF2_X11 hown hK hT hr_o0 shc_14 rfl 1 (by decide) (ht_at2 hts 14 rfl) (fun _ h9 => h9) m164 dX11_land_127 ?_
                        refine tw_getNM (v := .ref gr) hx hb hts bF2_X3 hown hK hT hr_lk shc_6 rfl 1 (by decide) (hE.nw 1 rfl) (fun _ h9 => h9) m166 dX11_land_130 ?_
                        refine lv_iload hx hb dX11_land_133 (lv_at hl 1 rfl) ?_
                        refine lv_iload_n hx hb dX11_land_135 rfl (lv_at hl 5 rfl) ?_
                        refine lv_iload hx hb dX11_land_136 (lv_at hl 6 rfl) ?_
                        refine lv_iload hx hb dX11_land_138 (lv_at hl 7 rfl) ?_
                        have hFc := gA_free hG hA hS
                        refine va_callv (va_runV (As := [.int (nI i100), .int p2, .int p3, .int p4]) (rest := []) ⟨hx, hb, hml, hown, hts⟩ (c_tellLandC l dC dI kA adK adV G H nC nS gr (nI i100) p2 p3 p4 la (lyV VL 1 p0.toInt p1.toInt i100) hT hr_gr m167 hr_la (rg_t (a := ((i100 : Nat) : Int)) (nI_toInt (by omega)) (by omega) (by omega)) m163 (by omega) (by omega)) (cwV 4 hts (goodIn_app (goodIn_r _ [50, 51, 52, 49] rfl (by decide +kernel)) (goodIn_ca (goodIn_r _ [37, 38, 39, 40, 41, 42, 43, 44, 45, 46, 47, 48, 49] rfl (by decide +kernel)) (bs2_in _ _))) rfl rfl rfl (by decide +kernel) ⟨(Nat.le_of_ble_eq_true rfl), (Nat.le_of_ble_eq_true rfl)⟩) ⟨fun a U g mk q => by obtain ⟨q0, q1, qK, qE⟩ := q; exact ⟨q0, q1, va_K.moved (u := U) (U := U.calling g mk a) (Vm.Alike.refl U.vm) qK, EVC.blind g mk a qE⟩, gH_rc hK hT hr_gr shc_5 rfl, fun U hU hW => ⟨rfl, hU, va_K.moved hW.alike hK, hE.call hS hFc hU hW⟩⟩ rfl rfl hl.1 rfl (lv_room (Nat.le_of_ble_eq_true rfl)) dX11_land_140 ⟨(Nat.le_of_ble_eq_true rfl), (Nat.le_of_ble_eq_true rfl)⟩) hS (fun q _ h => hFc q h) hFc (fun u t H locs ht hvm hw182 hB _ _ hS => ?_)
                        obtain ⟨hT, hF1, m183⟩ := hB
                        rw [ht] at hT hF1 m183
                        have m185 := (hF1.fld hr_o0 skc_14 (k := 1) (by decide) (by decide)).trans m164
                        have m186 := (hF1.fld hr_lk skc_6 (k := 4) (by decide) (by decide)).trans m165
                        have m187 := (hF1.fld hr_lk skc_6 (k := 1) (by decide) (by decide)).trans m166
                        have m188 := (hF1.fld hr_gr skc_5 (k := 0) (by decide) (by decide)).trans m167
                        have m189 := (hF1.fld hr_o0 skc_14 (k := 2) (by decide) (by decide)).trans m168
                        have hF := hF.more hF1 (by decide)
                        try dsimp only at hw182
                        refine lv_iinc (v := nI (i100 + 1)) (lv' := [(7, .int (nI (i100 + 1))), (6, .int x179), (0, .ref o0), (1, .int p0), (2, .int p1), (3, .int p2), (4, .int p3), (5, .int p4)]) hx hb dX11_land_143 hl (k := 1) rfl (nI_add i100 1) (by decide) rfl (fun ls hl => ?_)
                        refine lv_goto (tgt := 83) hx hb dX11_land_146 (by decide) ?_
                        exact ih155 (i100 + 1) (by omega) (by omega) x179 ⟨(by have q8 := ti_all x179; omega), (by have c9 := (show (VL i100).toInt = x176.toInt from congrArg Int32.toInt ((cx176.trans (by rw [tn_nI (by omega)]; exact ly_at)).symm)); have := (show x179.toInt = x179.toInt from rfl); first | exact ldN_no (inR_1 (s := ((i100 : Nat) : Int)) (a := p0.toInt) (b := p1.toInt) (by have q9 : (nI i100).toInt = ((i100 : Nat) : Int) := nI_toInt (by omega); omega)) (by show (VL i100).toInt ≠ 0; omega) (by rw [← hj109]; omega) | exact ldN_one (inR_1 (s := ((i100 : Nat) : Int)) (a := p0.toInt) (b := p1.toInt) (by have q9 : (nI i100).toInt = ((i100 : Nat) : Int) := nI_toInt (by omega); omega)) (by show (VL i100).toInt = 0; omega) hj109 (by omega))⟩ _ _ hT hF hS (m183.ext (fun _ _ => by rw [tn_nI (by omega)]; exact ly_in (inR_1 (s := ((i100 : Nat) : Int)) (a := p0.toInt) (b := p1.toInt) (by have q9 : (nI i100).toInt = ((i100 : Nat) : Int) := nI_toInt (by omega); omega)))) m185 m186 m187 m188 m189 ls (lv_sub hl [0, 1, 2, 3, 4, 5, 6, 7] rfl)
                      · have t191 : x176.toInt ≠ 0 := ti_ne c177 rfl (by decide)
                        refine lv_iconst (v := 0) hx hb dX11_land_118 (by decide) ?_
                        refine lv_goto (tgt := 123) hx hb dX11_land_119 (by decide) ?_
                        refine lv_iadd hx hb dX11_land_123 ?_
                        refine lv_topi (fun x192 ex192 => ?_)
                        have t193 : x192.toInt = z101.toInt + 0 := ti_add ex192 rfl (by decide) (by omega) (by omega)
                        refine lv_istore (lv' := [(6, .int x192), (7, .int (nI i100)), (0, .ref o0), (1, .int p0), (2, .int p1), (3, .int p2), (4, .int p3), (5, .int p4)]) hx hb dX11_land_124 hl (by decide) rfl (fun ls hl => ?_)
                        refine lv_aload_n hx hb dX11_land_126 rfl (lv_at hl 2 rfl) ?_
                        refine tw_getM (v := .ref lk) hx hb hts bF2_X11 hown hK hT hr_o0 shc_14 rfl 1 (by decide) (ht_at2 hts 14 rfl) (fun _ h9 => h9) m164 dX11_land_127 ?_
                        refine tw_getNM (v := .ref gr) hx hb hts bF2_X3 hown hK hT hr_lk shc_6 rfl 1 (by decide) (hE.nw 1 rfl) (fun _ h9 => h9) m166 dX11_land_130 ?_
                        refine lv_iload hx hb dX11_land_133 (lv_at hl 1 rfl) ?_
                        refine lv_iload_n hx hb dX11_land_135 rfl (lv_at hl 5 rfl) ?_
                        refine lv_iload hx hb dX11_land_136 (lv_at hl 6 rfl) ?_
                        refine lv_iload hx hb dX11_land_138 (lv_at hl 7 rfl) ?_
                        have hFc := gA_free hG hA hS
                        refine va_callv (va_runV (As := [.int (nI i100), .int p2, .int p3, .int p4]) (rest := []) ⟨hx, hb, hml, hown, hts⟩ (c_tellLandC l dC dI kA adK adV G H nC nS gr (nI i100) p2 p3 p4 la (lyV VL 1 p0.toInt p1.toInt i100) hT hr_gr m167 hr_la (rg_t (a := ((i100 : Nat) : Int)) (nI_toInt (by omega)) (by omega) (by omega)) m163 (by omega) (by omega)) (cwV 4 hts (goodIn_app (goodIn_r _ [50, 51, 52, 49] rfl (by decide +kernel)) (goodIn_ca (goodIn_r _ [37, 38, 39, 40, 41, 42, 43, 44, 45, 46, 47, 48, 49] rfl (by decide +kernel)) (bs2_in _ _))) rfl rfl rfl (by decide +kernel) ⟨(Nat.le_of_ble_eq_true rfl), (Nat.le_of_ble_eq_true rfl)⟩) ⟨fun a U g mk q => by obtain ⟨q0, q1, qK, qE⟩ := q; exact ⟨q0, q1, va_K.moved (u := U) (U := U.calling g mk a) (Vm.Alike.refl U.vm) qK, EVC.blind g mk a qE⟩, gH_rc hK hT hr_gr shc_5 rfl, fun U hU hW => ⟨rfl, hU, va_K.moved hW.alike hK, hE.call hS hFc hU hW⟩⟩ rfl rfl hl.1 rfl (lv_room (Nat.le_of_ble_eq_true rfl)) dX11_land_140 ⟨(Nat.le_of_ble_eq_true rfl), (Nat.le_of_ble_eq_true rfl)⟩) hS (fun q _ h => hFc q h) hFc (fun u t H locs ht hvm hw195 hB _ _ hS => ?_)
                        obtain ⟨hT, hF1, m196⟩ := hB
                        rw [ht] at hT hF1 m196
                        have m198 := (hF1.fld hr_o0 skc_14 (k := 1) (by decide) (by decide)).trans m164
                        have m199 := (hF1.fld hr_lk skc_6 (k := 4) (by decide) (by decide)).trans m165
                        have m200 := (hF1.fld hr_lk skc_6 (k := 1) (by decide) (by decide)).trans m166
                        have m201 := (hF1.fld hr_gr skc_5 (k := 0) (by decide) (by decide)).trans m167
                        have m202 := (hF1.fld hr_o0 skc_14 (k := 2) (by decide) (by decide)).trans m168
                        have hF := hF.more hF1 (by decide)
                        try dsimp only at hw195
                        refine lv_iinc (v := nI (i100 + 1)) (lv' := [(7, .int (nI (i100 + 1))), (6, .int x192), (0, .ref o0), (1, .int p0), (2, .int p1), (3, .int p2), (4, .int p3), (5, .int p4)]) hx hb dX11_land_143 hl (k := 1) rfl (nI_add i100 1) (by decide) rfl (fun ls hl => ?_)
                        refine lv_goto (tgt := 83) hx hb dX11_land_146 (by decide) ?_
                        exact ih155 (i100 + 1) (by omega) (by omega) x192 ⟨(by have q8 := ti_all x192; omega), (by have c9 := (show (VL i100).toInt = x176.toInt from congrArg Int32.toInt ((cx176.trans (by rw [tn_nI (by omega)]; exact ly_at)).symm)); have := (show x192.toInt = x192.toInt from rfl); first | exact ldN_no (inR_1 (s := ((i100 : Nat) : Int)) (a := p0.toInt) (b := p1.toInt) (by have q9 : (nI i100).toInt = ((i100 : Nat) : Int) := nI_toInt (by omega); omega)) (by show (VL i100).toInt ≠ 0; omega) (by rw [← hj109]; omega) | exact ldN_one (inR_1 (s := ((i100 : Nat) : Int)) (a := p0.toInt) (b := p1.toInt) (by have q9 : (nI i100).toInt = ((i100 : Nat) : Int) := nI_toInt (by omega); omega)) (by show (VL i100).toInt = 0; omega) hj109 (by omega))⟩ _ _ hT hF hS (m196.ext (fun _ _ => by rw [tn_nI (by omega)]; exact ly_in (inR_1 (s := ((i100 : Nat) : Int)) (a := p0.toInt) (b := p1.toInt) (by have q9 : (nI i100).toInt = ((i100 : Nat) : Int) := nI_toInt (by omega); omega)))) m198 m199 m200 m201 m202 ls (lv_sub hl [0, 1, 2, 3, 4, 5, 6, 7] rfl)
                exact key155 (96 - 0) 0 (by omega) (Nat.le_refl _) 0 ⟨(rg_t (a := 0) (by decide) (by first | decide | omega) (by first | decide | omega)), (show (0 : Int32).toInt = 0 from by decide)⟩ _ _ hT hF hS (m98.ext (fun _ _ => ly_0)) m94 m95 m96 m97 m99 ls (lv_sub hl [0, 1, 2, 3, 4, 5, 6, 7] rfl)
              · have t204 : 0 < ho.toInt := ti_nle c87 rfl (by decide)
                obtain ⟨sa205, hsa205⟩ := hE.str 0 rfl
                exact vx_throwS (names := ["java/lang/RuntimeException", "java/lang/Exception"]) hx hb hlt hown (by decide +kernel) (by decide +kernel) (ht_at2 hts 52 rfl) (ht_at2 hts 53 rfl) hsa205 (bX2_at3 hts hE) bX_ok3_69 hE.1.1.2.2.1 hE.1.1.2.2.2 hS (by rw [hml]; exact hl.1) dX11_land_60 dX11_land_63 dX11_land_64 dX11_land_66 dX11_land_69 (fun x h => (hnt x h).elim) (by decide) (Nat.le_of_ble_eq_true rfl) (Nat.le_of_ble_eq_true rfl) (Nat.le_of_ble_eq_true rfl) hlocks (fun t hW hz hq => ⟨(), trivial, ⟨(Or.inr (Or.inl rfl)), (Or.inr (Or.inl ⟨rfl, (by have := laC_s ho.toInt p0.toInt p1.toInt p2.toInt p3.toInt p4.toInt; first | omega | exact hxf.elim)⟩)), hT.ext hq, hF.ext hT hq, m86.kept (hq _ (hT.lt hr_la))⟩, Nat.le_trans hS.1 hz, fun q h1 h2 => (hq q (Nat.lt_of_lt_of_le h1 hS.1)).trans (hS.2.1 q h1 h2)⟩) hS.2.2 (by decide) (by decide)
def w_c_fillC : List Cond := .code yX11_fill cX11_fill 4 (some .boolean) :: (HAppend.hAppend (α := List Cond) (β := List Cond) (γ := List Cond) [.code yX11_needSquare cX11_needSquare 1 none, .code yX11_within cX11_within 3 (some .boolean), .methodLink RX11 58 yX11_within, .static yX11_within, .initialized RX11, .classLink RX11 557 "java/lang/IndexOutOfBoundsException", .initialized "java/lang/IndexOutOfBoundsException", .methodLink RX11 55 yX11_needSquare, .static yX11_needSquare, .code yX11_needNumbers cX11_needNumbers 1 none, .classLink RX11 547 "java/lang/IllegalArgumentException", .initialized "java/lang/IllegalArgumentException", .methodLink RX11 62 yX11_needNumbers, .static yX11_needNumbers, .constant RX11 96 100000, .fieldLink RX11 16 "SeaLand" "lake" "LSeaLand$Lake;", .fieldLink RX11 23 "SeaLand" "rows" "LSeaLand$Rows;", .code yX6_forget cX6_forget 1 none, .fieldLink RX6 18 "SeaLand$Rows" "kept" "I", .fieldLink RX6 22 "SeaLand$Rows" "oldest" "I", .methodLink RX11 76 yX6_forget, .instanceMethod yX6_forget, .selects RX6 yX6_forget yX6_forget, .initialized RX6, .code yX2_tellWater cX2_tellWater 4 none, .fieldLink RX2 50 "SeaLand$Ground" "toldMore" "I", .fieldLink RX2 25 "SeaLand$Ground" "water" "[I", .fieldLink RX2 28 "SeaLand$Ground" "salt" "[I", .methodLink RX11 97 yX2_tellWater, .instanceMethod yX2_tellWater, .selects RX2 yX2_tellWater yX2_tellWater, .initialized RX2] bs2)
set_option maxHeartbeats 4000000 in
set_option maxRecDepth 100000 in
theorem c_fillC (l : Launch) (hlt : l.stackTraces = false) (dC : Nat → ClassId) (dI : Nat → Nat → Nat) (kA : Nat → ClassId) (adK adV : Nat → Nat) (G : gT) (H0 : Heap) (nC nS : Int) (o0 : Nat) (p0 : Int32) (p1 : Int32) (p2 : Int32) (lk : Nat) (gr : Nat) (la : Nat) (VL : Nat → Int32)  (hT : gH (dC, dI) kA (SHc nC nS) G H0) (hr_o0 : G o0 = some 14) (hm_lk : el H0 o0 (dI 14 1) = some (.ref lk)) (hr_lk : G lk = some 6) (hm_gr : el H0 lk (dI 6 1) = some (.ref gr)) (hr_gr : G gr = some 5) (hm_la : el H0 gr (dI 5 0) = some (.ref la)) (hr_la : G la = some 25) (hc_VL : ct H0 la 96 VL) (hgC : 0 ≤ nC ∧ nC ≤ 40) (hgS : 0 ≤ nS ∧ nS ≤ 60) : vx_Met l yX11_fill w_c_fillC ({ frames := 7, cells := 2, slots := 12, locals := 120 }) (va_Pc [.ref o0, .int p0, .int p1, .int p2] (fun U => U.heap = H0 ∧ va_K (dC, dI) vwCl (tyl kA) U ∧ EVC adK adV (gA G H0.size) U U.heap)) (va_Qi (fun (r : Int32) (u : Unit) => (0 ≤ r.toInt ∧ r.toInt ≤ 1) ∧ (fiC p0.toInt p1.toInt p2.toInt = 0) ∧ (r.toInt = (VL p0.toNatClampNeg).toInt)) (fun (_ : Unit) (t : State) => gH (dC, dI) kA (SHc nC nS) G t.heap ∧ gF (dC, dI) SKc G ([(5, 14), (9, 2), (9, 3), (29, 0), (30, 0)] : List (Nat × Nat)) H0 t.heap) (gA G H0.size)) (vx_X (fun _ : Unit => True) (fun E _ t => (E = "java/lang/IllegalArgumentException" ∨ E = "java/lang/IndexOutOfBoundsException") ∧ ((E = "java/lang/IllegalArgumentException" ∧ fiC p0.toInt p1.toInt p2.toInt = 2) ∨ (E = "java/lang/IndexOutOfBoundsException" ∧ fiC p0.toInt p1.toInt p2.toInt = 1)) ∧ gH (dC, dI) kA (SHc nC nS) G t.heap ∧ gF (dC, dI) SKc G ([(5, 14), (9, 2), (9, 3), (29, 0), (30, 0)] : List (Nat × Nat)) H0 t.heap) (gA G H0.size)) 2 12 (gA G H0.size) := by
  refine vx_ofW (cc := cX11_fill) (maxL := 4) (ret := (some .boolean)) (by decide) rfl ?_
  intro p e s m args below meth c s₁ B hml hnt hv
  obtain ⟨rfl, hH0, hK, hE⟩ := hv
  have hx := B.exec
  have hb := B.bytes
  have hr := B.returns
  have hts := atoms_spec (ws := w_c_fillC) B.pre
  have hown : s.vm.findClass RX11 = some m.cls := findClass_of_methodNamed B.named
  have hlocks := B.notSynchronized
  subst hH0
  generalize hAe : gA G s.heap.size = A at hE ⊢
  have hA : ∀ q : Nat, s.heap.size ≤ q → A q := fun q h => by rw [← hAe]; exact Or.inr h
  have hG := gA_of hAe
  have hS : va_S A s.heap s.heap [] := va_S.rf
  have hF : gF (dC, dI) SKc G ([(5, 14), (9, 2), (9, 3), (29, 0), (30, 0)] : List (Nat × Nat)) s.heap s.heap := gF.rf
  have hl := lv_entry ([.ref o0, .int p0, .int p1, .int p2]) (n := 4) (Nat.le_of_ble_eq_true rfl)
  rw [lg_entry_eq]
  generalize (lg_sl ([.ref o0, .int p0, .int p1, .int p2]) ++ List.replicate (4 - (lg_sl ([.ref o0, .int p0, .int p1, .int p2])).length) Slot.unset).toArray = ls at hl ⊢
  have hl : lv_has ls 4 [(0, .ref o0), (1, .int p0), (2, .int p1), (3, .int p2)] := hl
  refine lv_iload_n hx hb dX11_fill_0 rfl (lv_at hl 1 rfl) ?_
  have hFc := gA_free hG hA hS
  refine vx_callv (vx_runS (As := [.int p0]) (rest := []) ⟨hx, hb, hml, hown, hts⟩ (c_needSquareE l hlt dC dI kA adK adV G s.heap nC nS p0 hT (by omega) (by omega)) (va_cwS 1 hts (goodIn_app (goodIn_r _ [8, 9, 5] rfl (by decide +kernel)) (goodIn_ca (goodIn_r _ [1, 2, 3, 4, 5, 6, 7] rfl (by decide +kernel)) (bs2_in _ _))) rfl rfl rfl (by decide +kernel) ⟨(Nat.le_of_ble_eq_true rfl), (Nat.le_of_ble_eq_true rfl)⟩) ⟨fun a U g mk q => by obtain ⟨q0, q1, qK, qE⟩ := q; exact ⟨q0, q1, va_K.moved (u := U) (U := U.calling g mk a) (Vm.Alike.refl U.vm) qK, EVC.blind g mk a qE⟩, fun U hU hW => ⟨rfl, hU, va_K.moved hW.alike hK, hE.call hS hFc hU hW⟩⟩ rfl rfl hl.1 rfl (lv_room (Nat.le_of_ble_eq_true rfl)) dX11_fill_1 ⟨(Nat.le_of_ble_eq_true rfl), (Nat.le_of_ble_eq_true rfl)⟩) hS (fun q _ h => hFc q h) hFc (fun q _ h => hFc q h) (fun E ce q9 u t H locs ht hvm _ hw2 _ _ hS hce hcv hcl => ?_) (fun u t H locs ht hvm hw2 hB _ _ hS => ?_)
  · obtain ⟨hw2, hxf, hTx, hFx⟩ := hw2; rw [ht] at hTx hFx
    exact vx_out (fun x h => (hnt x h).elim) hlocks hce hcv hcl (fun t2 h2 hW => ⟨(), trivial, ⟨((fun h9 => (Or.inr h9)) hw2), (Or.inr (⟨hw2, (by have := fiC_s p0.toInt p1.toInt p2.toInt; first | omega | exact hxf.elim)⟩)), by rw [h2]; exact hTx, by rw [h2]; exact hF.more hFx (by decide)⟩, hS.F h2⟩) hS.2.2 (by decide) (by decide)
  · obtain ⟨hT, hF1⟩ := hB
    rw [ht] at hT hF1
    have m3 := (hF1.fld hr_o0 skc_14 (k := 1) (by decide) (by decide)).trans hm_lk
    have m4 := (hF1.fld hr_lk skc_6 (k := 1) (by decide) (by decide)).trans hm_gr
    have m5 := (hF1.fld hr_gr skc_5 (k := 0) (by decide) (by decide)).trans hm_la
    have m6 := hc_VL.kept (hF1.arr hr_la skc_25 (by decide))
    have hF := hF.more hF1 (by decide)
    try dsimp only at hw2
    have hf7 := hw2
    refine lv_iload_n hx hb dX11_fill_4 rfl (lv_at hl 2 rfl) ?_
    refine lv_iconst (v := 0) hx hb dX11_fill_5 (by decide) ?_
    refine lv_sipush (v := 900) hx hb dX11_fill_6 (by decide) ?_
    have hFc := gA_free hG hA hS
    refine va_calli (va_runS (As := [.int p1, .int 0, .int 900]) (rest := []) ⟨hx, hb, hml, hown, hts⟩ (c_within l dC dI kA adK adV G H nC nS p1 0 900 hT (by omega) (by omega)) (va_cwS 3 hts (goodIn_app (goodIn_r _ [3, 4, 5] rfl (by decide +kernel)) (goodIn_ca (goodIn_r _ [2] rfl (by decide +kernel)) (bs2_in _ _))) rfl rfl rfl (by decide +kernel) ⟨(Nat.le_of_ble_eq_true rfl), (Nat.le_of_ble_eq_true rfl)⟩) ⟨fun a U g mk q => by obtain ⟨q0, q1, qK, qE⟩ := q; exact ⟨q0, q1, va_K.moved (u := U) (U := U.calling g mk a) (Vm.Alike.refl U.vm) qK, EVC.blind g mk a qE⟩, fun U hU hW => ⟨rfl, hU, va_K.moved hW.alike hK, hE.call hS hFc hU hW⟩⟩ rfl rfl hl.1 rfl (lv_room (Nat.le_of_ble_eq_true rfl)) dX11_fill_9 ⟨(Nat.le_of_ble_eq_true rfl), (Nat.le_of_ble_eq_true rfl)⟩) hS (fun q _ h => hFc q h) hFc (fun r8 u t H locs ht hvm hw9 hB _ _ hS => ?_)
    obtain ⟨hT, hF1⟩ := hB
    rw [ht] at hT hF1
    have m10 := (hF1.fld hr_o0 skc_14 (k := 1) (by decide) (by decide)).trans m3
    have m11 := (hF1.fld hr_lk skc_6 (k := 1) (by decide) (by decide)).trans m4
    have m12 := (hF1.fld hr_gr skc_5 (k := 0) (by decide) (by decide)).trans m5
    have m13 := m6.kept (hF1.arr hr_la skc_25 (by decide))
    have hF := hF.more hF1 (by decide)
    try dsimp only at hw9
    obtain ⟨h14, hi15, hi16⟩ := hw9
    refine lv_if_eq (tgt := 29) hx hb dX11_fill_12 (by decide) (fun c17 => ?_) (fun c17 => ?_)
    · have t18 : r8.toInt = 0 := ti_eq c17 rfl (by decide)
      have t19 : (0 : Int32).toInt = 0 := by decide
      have t20 : (900 : Int32).toInt = 900 := by decide
      have t21 : p1.toInt < (0 : Int32).toInt ∨ (900 : Int32).toInt < p1.toInt := hi16 c17
      refine lv_iconst (v := 0) hx hb dX11_fill_29 (by decide) ?_
      have hFc := gA_free hG hA hS
      refine vx_callN (vx_runS (As := [.int 0]) (rest := []) ⟨hx, hb, hml, hown, hts⟩ (c_needNumbers0 l hlt dC dI kA adK adV G H nC nS hT (by omega) (by omega)) (va_cwS 1 hts (goodIn_app (goodIn_r _ [13, 14, 5] rfl (by decide +kernel)) (goodIn_ca (goodIn_r _ [10, 11, 12] rfl (by decide +kernel)) (bs2_in _ _))) rfl rfl rfl (by decide +kernel) ⟨(Nat.le_of_ble_eq_true rfl), (Nat.le_of_ble_eq_true rfl)⟩) ⟨fun a U g mk q => by obtain ⟨q0, q1, qK, qE⟩ := q; exact ⟨q0, q1, va_K.moved (u := U) (U := U.calling g mk a) (Vm.Alike.refl U.vm) qK, EVC.blind g mk a qE⟩, fun U hU hW => ⟨rfl, hU, va_K.moved hW.alike hK, hE.call hS hFc hU hW⟩⟩ rfl rfl hl.1 rfl (lv_room (Nat.le_of_ble_eq_true rfl)) dX11_fill_30 ⟨(Nat.le_of_ble_eq_true rfl), (Nat.le_of_ble_eq_true rfl)⟩) hS hFc (fun q _ h => hFc q h) (fun E ce q9 u t H locs ht hvm _ hw23 _ _ hS hce hcv hcl => ?_)
      obtain ⟨hw23, hTx, hFx⟩ := hw23; rw [ht] at hTx hFx
      exact vx_out (fun x h => (hnt x h).elim) hlocks hce hcv hcl (fun t2 h2 hW => ⟨(), trivial, ⟨((fun h9 => (Or.inl h9)) hw23), (Or.inl ⟨hw23, (by have := fiC_s p0.toInt p1.toInt p2.toInt; first | omega | exact hxf.elim)⟩), by rw [h2]; exact hTx, by rw [h2]; exact hF.more hFx (by decide)⟩, hS.F h2⟩) hS.2.2 (by decide) (by decide)
    · have t24 : r8.toInt ≠ 0 := ti_ne c17 rfl (by decide)
      have t25 : (0 : Int32).toInt = 0 := by decide
      have t26 : (900 : Int32).toInt = 900 := by decide
      have t27 : (0 : Int32).toInt ≤ p1.toInt ∧ p1.toInt ≤ (900 : Int32).toInt := hi15 ((bit_of ⟨by omega, by omega⟩).resolve_left c17)
      refine lv_iload_n hx hb dX11_fill_15 rfl (lv_at hl 3 rfl) ?_
      refine lv_iconst (v := 0) hx hb dX11_fill_16 (by decide) ?_
      refine lv_ldc (v := 100000) hx hb hown (ht_at2 hts 14 rfl) dX11_fill_17 ?_
      have hFc := gA_free hG hA hS
      refine va_calli (va_runS (As := [.int p2, .int 0, .int 100000]) (rest := []) ⟨hx, hb, hml, hown, hts⟩ (c_within l dC dI kA adK adV G H nC nS p2 0 100000 hT (by omega) (by omega)) (va_cwS 3 hts (goodIn_app (goodIn_r _ [3, 4, 5] rfl (by decide +kernel)) (goodIn_ca (goodIn_r _ [2] rfl (by decide +kernel)) (bs2_in _ _))) rfl rfl rfl (by decide +kernel) ⟨(Nat.le_of_ble_eq_true rfl), (Nat.le_of_ble_eq_true rfl)⟩) ⟨fun a U g mk q => by obtain ⟨q0, q1, qK, qE⟩ := q; exact ⟨q0, q1, va_K.moved (u := U) (U := U.calling g mk a) (Vm.Alike.refl U.vm) qK, EVC.blind g mk a qE⟩, fun U hU hW => ⟨rfl, hU, va_K.moved hW.alike hK, hE.call hS hFc hU hW⟩⟩ rfl rfl hl.1 rfl (lv_room (Nat.le_of_ble_eq_true rfl)) dX11_fill_19 ⟨(Nat.le_of_ble_eq_true rfl), (Nat.le_of_ble_eq_true rfl)⟩) hS (fun q _ h => hFc q h) hFc (fun r28 u t H locs ht hvm hw29 hB _ _ hS => ?_)
      obtain ⟨hT, hF1⟩ := hB
      rw [ht] at hT hF1
      have m30 := (hF1.fld hr_o0 skc_14 (k := 1) (by decide) (by decide)).trans m10
      have m31 := (hF1.fld hr_lk skc_6 (k := 1) (by decide) (by decide)).trans m11
      have m32 := (hF1.fld hr_gr skc_5 (k := 0) (by decide) (by decide)).trans m12
      have m33 := m13.kept (hF1.arr hr_la skc_25 (by decide))
      have hF := hF.more hF1 (by decide)
      try dsimp only at hw29
      obtain ⟨h34, hi35, hi36⟩ := hw29
      refine lv_if_eq (tgt := 29) hx hb dX11_fill_22 (by decide) (fun c37 => ?_) (fun c37 => ?_)
      · have t38 : r28.toInt = 0 := ti_eq c37 rfl (by decide)
        have t39 : (0 : Int32).toInt = 0 := by decide
        have t40 : (100000 : Int32).toInt = 100000 := by decide
        have t41 : p2.toInt < (0 : Int32).toInt ∨ (100000 : Int32).toInt < p2.toInt := hi36 c37
        refine lv_iconst (v := 0) hx hb dX11_fill_29 (by decide) ?_
        have hFc := gA_free hG hA hS
        refine vx_callN (vx_runS (As := [.int 0]) (rest := []) ⟨hx, hb, hml, hown, hts⟩ (c_needNumbers0 l hlt dC dI kA adK adV G H nC nS hT (by omega) (by omega)) (va_cwS 1 hts (goodIn_app (goodIn_r _ [13, 14, 5] rfl (by decide +kernel)) (goodIn_ca (goodIn_r _ [10, 11, 12] rfl (by decide +kernel)) (bs2_in _ _))) rfl rfl rfl (by decide +kernel) ⟨(Nat.le_of_ble_eq_true rfl), (Nat.le_of_ble_eq_true rfl)⟩) ⟨fun a U g mk q => by obtain ⟨q0, q1, qK, qE⟩ := q; exact ⟨q0, q1, va_K.moved (u := U) (U := U.calling g mk a) (Vm.Alike.refl U.vm) qK, EVC.blind g mk a qE⟩, fun U hU hW => ⟨rfl, hU, va_K.moved hW.alike hK, hE.call hS hFc hU hW⟩⟩ rfl rfl hl.1 rfl (lv_room (Nat.le_of_ble_eq_true rfl)) dX11_fill_30 ⟨(Nat.le_of_ble_eq_true rfl), (Nat.le_of_ble_eq_true rfl)⟩) hS hFc (fun q _ h => hFc q h) (fun E ce q9 u t H locs ht hvm _ hw43 _ _ hS hce hcv hcl => ?_)
        obtain ⟨hw43, hTx, hFx⟩ := hw43; rw [ht] at hTx hFx
        exact vx_out (fun x h => (hnt x h).elim) hlocks hce hcv hcl (fun t2 h2 hW => ⟨(), trivial, ⟨((fun h9 => (Or.inl h9)) hw43), (Or.inl ⟨hw43, (by have := fiC_s p0.toInt p1.toInt p2.toInt; first | omega | exact hxf.elim)⟩), by rw [h2]; exact hTx, by rw [h2]; exact hF.more hFx (by decide)⟩, hS.F h2⟩) hS.2.2 (by decide) (by decide)
      · have t44 : r28.toInt ≠ 0 := ti_ne c37 rfl (by decide)
        have t45 : (0 : Int32).toInt = 0 := by decide
        have t46 : (100000 : Int32).toInt = 100000 := by decide
        have t47 : (0 : Int32).toInt ≤ p2.toInt ∧ p2.toInt ≤ (100000 : Int32).toInt := hi35 ((bit_of ⟨by omega, by omega⟩).resolve_left c37)
        refine lv_iconst (v := 1) hx hb dX11_fill_25 (by decide) ?_
        refine lv_goto (tgt := 30) hx hb dX11_fill_26 (by decide) ?_
        have hFc := gA_free hG hA hS
        refine vx_callv (vx_runS (As := [.int 1]) (rest := []) ⟨hx, hb, hml, hown, hts⟩ (c_needNumbers1X l hlt dC dI kA adK adV G H nC nS hT (by omega) (by omega)) (va_cwS 1 hts (goodIn_app (goodIn_r _ [13, 14, 5] rfl (by decide +kernel)) (goodIn_ca (goodIn_r _ [10] rfl (by decide +kernel)) (bs2_in _ _))) rfl rfl rfl (by decide +kernel) ⟨(Nat.le_of_ble_eq_true rfl), (Nat.le_of_ble_eq_true rfl)⟩) ⟨fun a U g mk q => by obtain ⟨q0, q1, qK, qE⟩ := q; exact ⟨q0, q1, va_K.moved (u := U) (U := U.calling g mk a) (Vm.Alike.refl U.vm) qK, EVC.blind g mk a qE⟩, fun U hU hW => ⟨rfl, hU, va_K.moved hW.alike hK, hE.call hS hFc hU hW⟩⟩ rfl rfl hl.1 rfl (lv_room (Nat.le_of_ble_eq_true rfl)) dX11_fill_30 ⟨(Nat.le_of_ble_eq_true rfl), (Nat.le_of_ble_eq_true rfl)⟩) hS (fun q _ h => hFc q h) hFc (fun q _ h => hFc q h) (fun E ce q9 u t H locs ht hvm _ hw49 _ _ hS hce hcv hcl => ?_) (fun u t H locs ht hvm hw49 hB _ _ hS => ?_)
        · obtain ⟨hw49, hxf, hTx, hFx⟩ := hw49; rw [ht] at hTx hFx
          exact vx_out (fun x h => (hnt x h).elim) hlocks hce hcv hcl (fun t2 h2 hW => ⟨(), trivial, ⟨((fun h9 => (Or.inl h9)) hw49), (Or.inl ⟨hw49, (by have := fiC_s p0.toInt p1.toInt p2.toInt; first | omega | exact hxf.elim)⟩), by rw [h2]; exact hTx, by rw [h2]; exact hF.more hFx (by decide)⟩, hS.F h2⟩) hS.2.2 (by decide) (by decide)
        · obtain ⟨hT, hF1⟩ := hB
          rw [ht] at hT hF1
          have m50 := (hF1.fld hr_o0 skc_14 (k := 1) (by decide) (by decide)).trans m30
          have m51 := (hF1.fld hr_lk skc_6 (k := 1) (by decide) (by decide)).trans m31
          have m52 := (hF1.fld hr_gr skc_5 (k := 0) (by decide) (by decide)).trans m32
          have m53 := m33.kept (hF1.arr hr_la skc_25 (by decide))
          have hF := hF.more hF1 (by decide)
          try dsimp only at hw49
          refine lv_aload_n hx hb dX11_fill_33 rfl (lv_at hl 0 rfl) ?_
          refine tw_getM (v := .ref lk) hx hb hts bF2_X11 hown hK hT hr_o0 shc_14 rfl 1 (by decide) (ht_at2 hts 15 rfl) (fun _ h9 => h9) m50 dX11_fill_34 ?_
          refine tw_getNM (v := .ref gr) hx hb hts bF2_X3 hown hK hT hr_lk shc_6 rfl 1 (by decide) (hE.nw 1 rfl) (fun _ h9 => h9) m51 dX11_fill_37 ?_
          refine tw_getNM (v := .ref la) hx hb hts bF2_X2 hown hK hT hr_gr shc_5 rfl 0 (by decide) (hE.nw 2 rfl) (fun _ h9 => h9) m52 dX11_fill_40 ?_
          refine lv_iload_n hx hb dX11_fill_43 rfl (lv_at hl 1 rfl) ?_
          refine tw_zald (i := p0) hx hb hK hT hr_la shc_25 rfl (vin_t (a := p0.toInt) rfl (by omega) (by omega)) dX11_fill_44 (fun v9 m54 h9 => ?_)
          obtain ⟨x55, rfl, gx55, kx55⟩ := h9
          have cx55 := m53.at m54 (by have q9 := tn_of (show p0.toInt = p0.toInt from rfl) (by omega); omega)
          refine lv_if_ne (tgt := 50) hx hb dX11_fill_45 (by decide) (fun c56 => ?_) (fun c56 => ?_)
          · have t57 : x55.toInt ≠ 0 := ti_ne c56 rfl (by decide)
            refine lv_aload_n hx hb dX11_fill_50 rfl (lv_at hl 0 rfl) ?_
            refine tw_get hx hb hts bF2_X11 hown hK hT hr_o0 shc_14 rfl 2 (by decide) (ht_at2 hts 16 rfl) (fun _ h9 => h9) dX11_fill_51 (fun v9 m58 h9 => ?_)
            obtain ⟨b59, rfl, hg60⟩ := h9 _ rfl
            have hFc := gA_free hG hA hS
            refine va_callv (va_runV (As := []) (rest := []) ⟨hx, hb, hml, hown, hts⟩ (c_forget l dC dI kA adK adV G H nC nS b59 hT hg60 (by omega) (by omega)) (cwV 0 hts (goodIn_app (goodIn_r _ [21, 22, 23, 24] rfl (by decide +kernel)) (goodIn_ca (goodIn_r _ [18, 19, 20] rfl (by decide +kernel)) (bs2_in _ _))) rfl rfl rfl (by decide +kernel) ⟨(Nat.le_of_ble_eq_true rfl), (Nat.le_of_ble_eq_true rfl)⟩) ⟨fun a U g mk q => by obtain ⟨q0, q1, qK, qE⟩ := q; exact ⟨q0, q1, va_K.moved (u := U) (U := U.calling g mk a) (Vm.Alike.refl U.vm) qK, EVC.blind g mk a qE⟩, gH_rc hK hT hg60 shc_9 rfl, fun U hU hW => ⟨rfl, hU, va_K.moved hW.alike hK, hE.call hS hFc hU hW⟩⟩ rfl rfl hl.1 rfl (lv_room (Nat.le_of_ble_eq_true rfl)) dX11_fill_54 ⟨(Nat.le_of_ble_eq_true rfl), (Nat.le_of_ble_eq_true rfl)⟩) hS (fun q _ h => hFc q h) hFc (fun u t H locs ht hvm hw62 hB _ _ hS => ?_)
            obtain ⟨hT, hF1⟩ := hB
            rw [ht] at hT hF1
            have m63 := (hF1.fld hr_o0 skc_14 (k := 1) (by decide) (by decide)).trans m50
            have m64 := (hF1.fld hr_lk skc_6 (k := 1) (by decide) (by decide)).trans m51
            have hF := hF.more hF1 (by decide)
            try dsimp only at hw62
            refine lv_aload_n hx hb dX11_fill_57 rfl (lv_at hl 0 rfl) ?_
            refine tw_getM (v := .ref lk) hx hb hts bF2_X11 hown hK hT hr_o0 shc_14 rfl 1 (by decide) (ht_at2 hts 15 rfl) (fun _ h9 => h9) m63 dX11_fill_58 ?_
            refine tw_getNM (v := .ref gr) hx hb hts bF2_X3 hown hK hT hr_lk shc_6 rfl 1 (by decide) (hE.nw 1 rfl) (fun _ h9 => h9) m64 dX11_fill_61 ?_
            refine lv_iload_n hx hb dX11_fill_64 rfl (lv_at hl 1 rfl) ?_
            refine lv_iload_n hx hb dX11_fill_65 rfl (lv_at hl 2 rfl) ?_
            refine lv_iload_n hx hb dX11_fill_66 rfl (lv_at hl 3 rfl) ?_
            have hFc := gA_free hG hA hS
            refine va_callv (va_runV (As := [.int p0, .int p1, .int p2]) (rest := []) ⟨hx, hb, hml, hown, hts⟩ (c_tellWater l dC dI kA adK adV G H nC nS gr p0 p1 p2 hT hr_gr (by have q8 := ti_all p0; omega) (by omega) (by omega)) (cwV 3 hts (goodIn_app (goodIn_r _ [29, 30, 31, 32] rfl (by decide +kernel)) (goodIn_ca (goodIn_r _ [25, 26, 27, 28] rfl (by decide +kernel)) (bs2_in _ _))) rfl rfl rfl (by decide +kernel) ⟨(Nat.le_of_ble_eq_true rfl), (Nat.le_of_ble_eq_true rfl)⟩) ⟨fun a U g mk q => by obtain ⟨q0, q1, qK, qE⟩ := q; exact ⟨q0, q1, va_K.moved (u := U) (U := U.calling g mk a) (Vm.Alike.refl U.vm) qK, EVC.blind g mk a qE⟩, gH_rc hK hT hr_gr shc_5 rfl, fun U hU hW => ⟨rfl, hU, va_K.moved hW.alike hK, hE.call hS hFc hU hW⟩⟩ rfl rfl hl.1 rfl (lv_room (Nat.le_of_ble_eq_true rfl)) dX11_fill_67 ⟨(Nat.le_of_ble_eq_true rfl), (Nat.le_of_ble_eq_true rfl)⟩) hS (fun q _ h => hFc q h) hFc (fun u t H locs ht hvm hw70 hB _ _ hS => ?_)
            obtain ⟨hT, hF1⟩ := hB
            rw [ht] at hT hF1
            have hF := hF.more hF1 (by decide)
            try dsimp only at hw70
            refine lv_iconst (v := 1) hx hb dX11_fill_70 (by decide) ?_
            refine W.widen (k := 2) (n := 12) (by decide) (by decide) ?_
            exact vx_ret (W.zret (v := 1) hx hb hr (by decide) (fun t ht hW => ⟨⟨1, (), rfl, (by exact ⟨(rg_t (a := 1) (by decide) (by first | decide | omega) (by first | decide | omega)), (by have := fiC_s p0.toInt p1.toInt p2.toInt; omega), (congrArg Int32.toInt (show _ = VL p0.toNatClampNeg from (show (1 : Int32) = x55 from Int32.toInt_inj.mp (by have q9 : (1 : Int32).toInt = 1 := (by decide); omega)).trans cx55))⟩), by (try dsimp only); rw [ht]; exact ⟨hT, hF⟩⟩, hS.F ht⟩) hS.2.2 dX11_fill_71)
          · have t77 : x55.toInt = 0 := ti_eq c56 rfl (by decide)
            refine lv_iconst (v := 0) hx hb dX11_fill_48 (by decide) ?_
            refine W.widen (k := 2) (n := 12) (by decide) (by decide) ?_
            exact vx_ret (W.zret (v := 0) hx hb hr (by decide) (fun t ht hW => ⟨⟨0, (), rfl, (by exact ⟨(rg_t (a := 0) (by decide) (by first | decide | omega) (by first | decide | omega)), (by have := fiC_s p0.toInt p1.toInt p2.toInt; omega), (congrArg Int32.toInt (show _ = VL p0.toNatClampNeg from (show (0 : Int32) = x55 from Int32.toInt_inj.mp (by have q9 : (0 : Int32).toInt = 0 := (by decide); omega)).trans cx55))⟩), by (try dsimp only); rw [ht]; exact ⟨hT, hF⟩⟩, hS.F ht⟩) hS.2.2 dX11_fill_49)
def w_c_copyG_iC : List Cond := .code yX2_copyFrom cX2_copyFrom 2 none :: (HAppend.hAppend (α := List Cond) (β := List Cond) (γ := List Cond) [.fieldLink RX2 9 "SeaLand$Ground" "isLand" "[Z", .methodLink RX2 95 arraycopyName, .native arraycopyName, .static arraycopyName, .initialized "java/lang/System", .fieldLink RX2 15 "SeaLand$Ground" "height" "[I", .fieldLink RX2 19 "SeaLand$Ground" "soil" "[I", .fieldLink RX2 22 "SeaLand$Ground" "ditch" "[I", .fieldLink RX2 25 "SeaLand$Ground" "water" "[I", .fieldLink RX2 28 "SeaLand$Ground" "salt" "[I", .fieldLink RX2 31 "SeaLand$Ground" "dry" "[I", .fieldLink RX2 34 "SeaLand$Ground" "wet" "[I", .fieldLink RX2 54 "SeaLand$Ground" "rained" "I", .fieldLink RX2 57 "SeaLand$Ground" "cameIn" "I", .fieldLink RX2 64 "SeaLand$Ground" "wentOut" "I", .fieldLink RX2 50 "SeaLand$Ground" "toldMore" "I"] bs2)
