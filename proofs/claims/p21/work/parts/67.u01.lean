set_option maxHeartbeats 4000000 in
set_option maxRecDepth 100000 in
theorem c_hoursE (l : Launch) (hlt : l.stackTraces = false) (dC : Nat → ClassId) (dI : Nat → Nat → Nat) (kA : Nat → ClassId) (adK adV : Nat → Nat) (G : gT) (H0 : Heap) (nC nS : Int) (o0 : Nat) (p0 : Int32) (lk : Nat) (ho : Int32)  (hT : gH (dC, dI) kA (SHc nC nS) G H0) (hr_o0 : G o0 = some 14) (hm_lk : el H0 o0 (dI 14 1) = some (.ref lk)) (hr_lk : G lk = some 6) (hm_ho : el H0 lk (dI 6 4) = some (.int ho)) (hq0 : 0 ≤ ho.toInt ∧ ho.toInt ≤ 40000) (hgC : 0 ≤ nC ∧ nC ≤ 40) (hgS : 0 ≤ nS ∧ nS ≤ 60) : vx_Met l yX11_hours w_c_hoursE ({ frames := 7, cells := 1, slots := 6, locals := 158 }) (va_Pc [.ref o0, .int p0] (fun U => U.heap = H0 ∧ va_K (dC, dI) vwCl (tyl kA) U ∧ EVC adK adV (gA G H0.size) U U.heap)) (va_Qi (fun (r : Int32) (u : Int32) => (0 ≤ r.toInt ∧ r.toInt ≤ 40000) ∧ ((0 ≤ p0.toInt ∧ p0.toInt ≤ 240) ∧ r.toInt = u.toInt ∧ ((u.toInt = ho.toInt + p0.toInt ∧ ho.toInt + p0.toInt ≤ 40000) ∨ (u.toInt = 40000 ∧ 40000 ≤ ho.toInt + p0.toInt)))) (fun (h1 : Int32) (t : State) => gH (dC, dI) kA (SHc nC nS) G t.heap ∧ gF (dC, dI) SKc G ([(5, 11), (5, 12), (5, 13), (6, 4), (9, 2), (9, 3), (13, 2), (13, 6), (13, 8), (13, 10), (13, 11), (26, 0), (29, 0), (30, 0), (31, 0), (32, 0), (33, 0), (34, 0), (35, 0), (38, 0), (39, 0)] : List (Nat × Nat)) H0 t.heap ∧ el t.heap lk (dI 6 4) = some (.int h1)) (gA G H0.size)) (vx_X (fun _ : Unit => True) (fun E _ t => (E = "java/lang/IllegalArgumentException") ∧ (¬ (0 ≤ p0.toInt ∧ p0.toInt ≤ 240)) ∧ gH (dC, dI) kA (SHc nC nS) G t.heap ∧ gF (dC, dI) SKc G ([(5, 11), (5, 12), (5, 13), (6, 4), (9, 2), (9, 3), (13, 2), (13, 6), (13, 8), (13, 10), (13, 11), (26, 0), (29, 0), (30, 0), (31, 0), (32, 0), (33, 0), (34, 0), (35, 0), (38, 0), (39, 0)] : List (Nat × Nat)) H0 t.heap ∧ el t.heap lk (dI 6 4) = some (.int ho)) (gA G H0.size)) 1 6 (gA G H0.size) := by
  refine vx_ofW (cc := cX11_hours) (maxL := 3) (ret := (some .int)) (by decide) rfl ?_
  intro p e s m args below meth c s₁ B hml hnt hv
  obtain ⟨rfl, hH0, hK, hE⟩ := hv
  have hx := B.exec
  have hb := B.bytes
  have hr := B.returns
  have hts := atoms_spec (ws := w_c_hoursE) B.pre
  have hown : s.vm.findClass RX11 = some m.cls := findClass_of_methodNamed B.named
  have hlocks := B.notSynchronized
  subst hH0
  generalize hAe : gA G s.heap.size = A at hE ⊢
  have hA : ∀ q : Nat, s.heap.size ≤ q → A q := fun q h => by rw [← hAe]; exact Or.inr h
  have hG := gA_of hAe
  have hS : va_S A s.heap s.heap [] := va_S.rf
  have hF : gF (dC, dI) SKc G ([(5, 11), (5, 12), (5, 13), (6, 4), (9, 2), (9, 3), (13, 2), (13, 6), (13, 8), (13, 10), (13, 11), (26, 0), (29, 0), (30, 0), (31, 0), (32, 0), (33, 0), (34, 0), (35, 0), (38, 0), (39, 0)] : List (Nat × Nat)) s.heap s.heap := gF.rf
  have hl := lv_entry ([.ref o0, .int p0]) (n := 3) (Nat.le_of_ble_eq_true rfl)
  rw [lg_entry_eq]
  generalize (lg_sl ([.ref o0, .int p0]) ++ List.replicate (3 - (lg_sl ([.ref o0, .int p0])).length) Slot.unset).toArray = ls at hl ⊢
  have hl : lv_has ls 3 [(0, .ref o0), (1, .int p0)] := hl
  refine lv_iload_n hx hb dX11_hours_0 rfl (lv_at hl 1 rfl) ?_
  refine lv_iconst (v := 0) hx hb dX11_hours_1 (by decide) ?_
  refine lv_sipush (v := 240) hx hb dX11_hours_2 (by decide) ?_
  have hFc := gA_free hG hA hS
  refine va_calli (va_runS (As := [.int p0, .int 0, .int 240]) (rest := []) ⟨hx, hb, hml, hown, hts⟩ (c_within l dC dI kA adK adV G s.heap nC nS p0 0 240 hT (by omega) (by omega)) (va_cwS 3 hts (goodIn_app (goodIn_r _ [2, 3, 4] rfl (by decide +kernel)) (goodIn_ca (goodIn_r _ [1] rfl (by decide +kernel)) (bs2_in _ _))) rfl rfl rfl (by decide +kernel) ⟨(Nat.le_of_ble_eq_true rfl), (Nat.le_of_ble_eq_true rfl)⟩) ⟨fun a U g mk q => by obtain ⟨q0, q1, qK, qE⟩ := q; exact ⟨q0, q1, va_K.moved (u := U) (U := U.calling g mk a) (Vm.Alike.refl U.vm) qK, EVC.blind g mk a qE⟩, fun U hU hW => ⟨rfl, hU, va_K.moved hW.alike hK, hE.call hS hFc hU hW⟩⟩ rfl rfl hl.1 rfl (lv_room (Nat.le_of_ble_eq_true rfl)) dX11_hours_5 ⟨(Nat.le_of_ble_eq_true rfl), (Nat.le_of_ble_eq_true rfl)⟩) hS (fun q _ h => hFc q h) hFc (fun r1 u t H locs ht hvm hw2 hB _ _ hS => ?_)
  obtain ⟨hT, hF1⟩ := hB
  rw [ht] at hT hF1
  have m3 := (hF1.fld hr_o0 skc_14 (k := 1) (by decide) (by decide)).trans hm_lk
  have m4 := (hF1.fld hr_lk skc_6 (k := 4) (by decide) (by decide)).trans hm_ho
  have hF := hF.more hF1 (by decide)
  try dsimp only at hw2
  obtain ⟨h5, hi6, hi7⟩ := hw2
  have hb8 : r1 = 0 ∨ r1 = 1 := bit_of ⟨by omega, by omega⟩
  rcases hb8 with rfl | rfl
  · have t9 : (0 : Int32).toInt = 0 := by decide
    have t10 : (240 : Int32).toInt = 240 := by decide
    have t11 : p0.toInt < (0 : Int32).toInt ∨ (240 : Int32).toInt < p0.toInt := hi7 rfl
    have hFc := gA_free hG hA hS
    refine vx_callN (vx_runS (As := [.int 0]) (rest := []) ⟨hx, hb, hml, hown, hts⟩ (c_needNumbers0 l hlt dC dI kA adK adV G H nC nS hT (by omega) (by omega)) (va_cwS 1 hts (goodIn_app (goodIn_r _ [8, 9, 4] rfl (by decide +kernel)) (goodIn_ca (goodIn_r _ [5, 6, 7] rfl (by decide +kernel)) (bs2_in _ _))) rfl rfl rfl (by decide +kernel) ⟨(Nat.le_of_ble_eq_true rfl), (Nat.le_of_ble_eq_true rfl)⟩) ⟨fun a U g mk q => by obtain ⟨q0, q1, qK, qE⟩ := q; exact ⟨q0, q1, va_K.moved (u := U) (U := U.calling g mk a) (Vm.Alike.refl U.vm) qK, EVC.blind g mk a qE⟩, fun U hU hW => ⟨rfl, hU, va_K.moved hW.alike hK, hE.call hS hFc hU hW⟩⟩ rfl rfl hl.1 rfl (lv_room (Nat.le_of_ble_eq_true rfl)) dX11_hours_8 ⟨(Nat.le_of_ble_eq_true rfl), (Nat.le_of_ble_eq_true rfl)⟩) hS hFc (fun q _ h => hFc q h) (fun E ce q9 u t H locs ht hvm _ hw13 _ _ hS hce hcv hcl => ?_)
    obtain ⟨hw13, hTx, hFx⟩ := hw13; rw [ht] at hTx hFx
    exact vx_out (fun x h => (hnt x h).elim) hlocks hce hcv hcl (fun t2 h2 hW => ⟨(), trivial, ⟨((fun h9 => h9) hw13), (by first | omega | exact hxf.elim), by rw [h2]; exact hTx, by rw [h2]; exact hF.more hFx (by decide), by rw [h2]; exact (hFx.fld hr_lk skc_6 (k := 4) (by decide) (by decide)).trans m4⟩, hS.F h2⟩) hS.2.2 (by decide) (by decide)
  · have t14 : (0 : Int32).toInt = 0 := by decide
    have t15 : (240 : Int32).toInt = 240 := by decide
    have t16 : (0 : Int32).toInt ≤ p0.toInt ∧ p0.toInt ≤ (240 : Int32).toInt := hi6 rfl
    have hFc := gA_free hG hA hS
    refine vx_callv (vx_runS (As := [.int 1]) (rest := []) ⟨hx, hb, hml, hown, hts⟩ (c_needNumbers1X l hlt dC dI kA adK adV G H nC nS hT (by omega) (by omega)) (va_cwS 1 hts (goodIn_app (goodIn_r _ [8, 9, 4] rfl (by decide +kernel)) (goodIn_ca (goodIn_r _ [5] rfl (by decide +kernel)) (bs2_in _ _))) rfl rfl rfl (by decide +kernel) ⟨(Nat.le_of_ble_eq_true rfl), (Nat.le_of_ble_eq_true rfl)⟩) ⟨fun a U g mk q => by obtain ⟨q0, q1, qK, qE⟩ := q; exact ⟨q0, q1, va_K.moved (u := U) (U := U.calling g mk a) (Vm.Alike.refl U.vm) qK, EVC.blind g mk a qE⟩, fun U hU hW => ⟨rfl, hU, va_K.moved hW.alike hK, hE.call hS hFc hU hW⟩⟩ rfl rfl hl.1 rfl (lv_room (Nat.le_of_ble_eq_true rfl)) dX11_hours_8 ⟨(Nat.le_of_ble_eq_true rfl), (Nat.le_of_ble_eq_true rfl)⟩) hS (fun q _ h => hFc q h) hFc (fun q _ h => hFc q h) (fun E ce q9 u t H locs ht hvm _ hw18 _ _ hS hce hcv hcl => ?_) (fun u t H locs ht hvm hw18 hB _ _ hS => ?_)
    · obtain ⟨hw18, hxf, hTx, hFx⟩ := hw18; rw [ht] at hTx hFx
      exact vx_out (fun x h => (hnt x h).elim) hlocks hce hcv hcl (fun t2 h2 hW => ⟨(), trivial, ⟨((fun h9 => h9) hw18), (by first | omega | exact hxf.elim), by rw [h2]; exact hTx, by rw [h2]; exact hF.more hFx (by decide), by rw [h2]; exact (hFx.fld hr_lk skc_6 (k := 4) (by decide) (by decide)).trans m4⟩, hS.F h2⟩) hS.2.2 (by decide) (by decide)
    · obtain ⟨hT, hF1⟩ := hB
      rw [ht] at hT hF1
      have m19 := (hF1.fld hr_o0 skc_14 (k := 1) (by decide) (by decide)).trans m3
      have m20 := (hF1.fld hr_lk skc_6 (k := 4) (by decide) (by decide)).trans m4
      have hF := hF.more hF1 (by decide)
      try dsimp only at hw18
      refine lv_iconst (v := 0) hx hb dX11_hours_11 (by decide) ?_
      refine lv_istore_n (lv' := [(2, .int 0), (0, .ref o0), (1, .int p0)]) hx hb dX11_hours_12 rfl hl (by decide) rfl (fun ls hl => ?_)
      have key49 : ∀ (n49 i21 : Nat), i21 + n49 = 240 → 0 ≤ i21 → ∀ (z23 : Int32), ((0 ≤ z23.toInt ∧ z23.toInt ≤ 40000) ∧ (z23.toInt = ho.toInt + ((i21 : Nat) : Int) ∧ ((i21 : Nat) : Int) ≤ p0.toInt)) → ∀ (H : Heap) (locs : List Loc), gH (dC, dI) kA (SHc nC nS) G H → gF (dC, dI) SKc G ([(5, 11), (5, 12), (5, 13), (6, 4), (9, 2), (9, 3), (13, 2), (13, 6), (13, 8), (13, 10), (13, 11), (26, 0), (29, 0), (30, 0), (31, 0), (32, 0), (33, 0), (34, 0), (35, 0), (38, 0), (39, 0)] : List (Nat × Nat)) s.heap H → va_S A s.heap H locs → el H o0 (dI 14 1) = some (.ref lk) → el H lk (dI 6 4) = some (.int z23) → ∀ ls : Array Slot, lv_has ls 3 [(2, .int (nI i21)), (0, .ref o0), (1, .int p0)] → W p l e (headSpec w_c_hoursE ({ frames := 7, cells := 1, slots := 6, locals := 158 })).room s m #[.ref o0, .int p0] below meth c H locs 0 0 (vx_MQ below (va_Qi (fun (r : Int32) (u : Int32) => (0 ≤ r.toInt ∧ r.toInt ≤ 40000) ∧ ((0 ≤ p0.toInt ∧ p0.toInt ≤ 240) ∧ r.toInt = u.toInt ∧ ((u.toInt = ho.toInt + p0.toInt ∧ ho.toInt + p0.toInt ≤ 40000) ∨ (u.toInt = 40000 ∧ 40000 ≤ ho.toInt + p0.toInt)))) (fun (h1 : Int32) (t : State) => gH (dC, dI) kA (SHc nC nS) G t.heap ∧ gF (dC, dI) SKc G ([(5, 11), (5, 12), (5, 13), (6, 4), (9, 2), (9, 3), (13, 2), (13, 6), (13, 8), (13, 10), (13, 11), (26, 0), (29, 0), (30, 0), (31, 0), (32, 0), (33, 0), (34, 0), (35, 0), (38, 0), (39, 0)] : List (Nat × Nat)) s.heap t.heap ∧ el t.heap lk (dI 6 4) = some (.int h1)) A) (vx_X (fun _ : Unit => True) (fun E _ t => (E = "java/lang/IllegalArgumentException") ∧ (¬ (0 ≤ p0.toInt ∧ p0.toInt ≤ 240)) ∧ gH (dC, dI) kA (SHc nC nS) G t.heap ∧ gF (dC, dI) SKc G ([(5, 11), (5, 12), (5, 13), (6, 4), (9, 2), (9, 3), (13, 2), (13, 6), (13, 8), (13, 10), (13, 11), (26, 0), (29, 0), (30, 0), (31, 0), (32, 0), (33, 0), (34, 0), (35, 0), (38, 0), (39, 0)] : List (Nat × Nat)) s.heap t.heap ∧ el t.heap lk (dI 6 4) = some (.int ho)) A) #[.ref o0, .int p0] s 1 6 A) (F0 m 13 ls []) := by
        intro n49
        induction n49 with
        | zero =>
          intro i21 hn49 hlo50 z23 ⟨h24, hj26⟩ H locs hT hF hS m22 m25 ls hl
          obtain rfl : 240 = i21 := by omega
          refine lv_iload_n hx hb dX11_hours_13 rfl (lv_at hl 0 rfl) ?_
          refine lv_iload_n hx hb dX11_hours_14 rfl (lv_at hl 2 rfl) ?_
          refine lv_icmp_ge (tgt := 54) hx hb dX11_hours_15 (by decide) (fun c51 => ?_) (fun c51 => (by exfalso; have q9 : ((240 : Nat) : Int) < p0.toInt := ti_nle c51 rfl (nI_toInt (by omega)); omega))
          have t52 : p0.toInt ≤ ((240 : Nat) : Int) := ti_le c51 rfl (nI_toInt (by omega))
          refine lv_aload_n hx hb dX11_hours_54 rfl (lv_at hl 1 rfl) ?_
          refine tw_getM (v := .ref lk) hx hb hts bF2_X11 hown hK hT hr_o0 shc_14 rfl 1 (by decide) (ht_at2 hts 9 rfl) (fun _ h9 => h9) m22 dX11_hours_55 ?_
          refine tw_getNM (v := .int z23) hx hb hts bF2_X3 hown hK hT hr_lk shc_6 rfl 4 (by decide) (hE.nw 0 rfl) (fun _ h9 => h9) m25 dX11_hours_58 ?_
          refine W.widen (k := 1) (n := 6) (by decide) (by decide) ?_
          exact vx_ret (W.iret (v := z23) hx hb hr (fun t ht hW => ⟨⟨z23, z23, rfl, (by exact ⟨(by have q8 := ti_all z23; omega), (by omega)⟩), by (try dsimp only); rw [ht]; exact ⟨hT, hF, m25⟩⟩, hS.F ht⟩) hS.2.2 dX11_hours_61)
        | succ n49 ih49 =>
          intro i21 hn49 hlo50 z23 ⟨h24, hj26⟩ H locs hT hF hS m22 m25 ls hl
          have hlt52 : i21 < 240 := by omega
          refine lv_iload_n hx hb dX11_hours_13 rfl (lv_at hl 0 rfl) ?_
          refine lv_iload_n hx hb dX11_hours_14 rfl (lv_at hl 2 rfl) ?_
          refine lv_icmp_ge (tgt := 54) hx hb dX11_hours_15 (by decide) (fun c53 => ?_) (fun c53 => ?_)
          · have t54 : p0.toInt ≤ ((i21 : Nat) : Int) := ti_le c53 rfl (nI_toInt (by omega))
            refine lv_aload_n hx hb dX11_hours_54 rfl (lv_at hl 1 rfl) ?_
            refine tw_getM (v := .ref lk) hx hb hts bF2_X11 hown hK hT hr_o0 shc_14 rfl 1 (by decide) (ht_at2 hts 9 rfl) (fun _ h9 => h9) m22 dX11_hours_55 ?_
            refine tw_getNM (v := .int z23) hx hb hts bF2_X3 hown hK hT hr_lk shc_6 rfl 4 (by decide) (hE.nw 0 rfl) (fun _ h9 => h9) m25 dX11_hours_58 ?_
            refine W.widen (k := 1) (n := 6) (by decide) (by decide) ?_
            exact vx_ret (W.iret (v := z23) hx hb hr (fun t ht hW => ⟨⟨z23, z23, rfl, (by exact ⟨(by have q8 := ti_all z23; omega), (by omega)⟩), by (try dsimp only); rw [ht]; exact ⟨hT, hF, m25⟩⟩, hS.F ht⟩) hS.2.2 dX11_hours_61)
          · have t55 : ((i21 : Nat) : Int) < p0.toInt := ti_nle c53 rfl (nI_toInt (by omega))
            refine lv_aload_n hx hb dX11_hours_18 rfl (lv_at hl 1 rfl) ?_
            refine tw_getM (v := .ref lk) hx hb hts bF2_X11 hown hK hT hr_o0 shc_14 rfl 1 (by decide) (ht_at2 hts 9 rfl) (fun _ h9 => h9) m22 dX11_hours_19 ?_
            refine tw_getNM (v := .int z23) hx hb hts bF2_X3 hown hK hT hr_lk shc_6 rfl 4 (by decide) (hE.nw 0 rfl) (fun _ h9 => h9) m25 dX11_hours_22 ?_
            refine lv_ldc (v := 40000) hx hb hown (ht_at2 hts 10 rfl) dX11_hours_25 ?_
            refine lv_icmp_ge (tgt := 54) hx hb dX11_hours_27 (by decide) (fun c56 => ?_) (fun c56 => ?_)
            · have t57 : 40000 ≤ z23.toInt := ti_le c56 (by decide) rfl
              refine lv_aload_n hx hb dX11_hours_54 rfl (lv_at hl 1 rfl) ?_
              refine tw_getM (v := .ref lk) hx hb hts bF2_X11 hown hK hT hr_o0 shc_14 rfl 1 (by decide) (ht_at2 hts 9 rfl) (fun _ h9 => h9) m22 dX11_hours_55 ?_
              refine tw_getNM (v := .int z23) hx hb hts bF2_X3 hown hK hT hr_lk shc_6 rfl 4 (by decide) (hE.nw 0 rfl) (fun _ h9 => h9) m25 dX11_hours_58 ?_
              refine W.widen (k := 1) (n := 6) (by decide) (by decide) ?_
              exact vx_ret (W.iret (v := z23) hx hb hr (fun t ht hW => ⟨⟨z23, z23, rfl, (by exact ⟨(by have q8 := ti_all z23; omega), (by omega)⟩), by (try dsimp only); rw [ht]; exact ⟨hT, hF, m25⟩⟩, hS.F ht⟩) hS.2.2 dX11_hours_61)
            · have t58 : z23.toInt < 40000 := ti_nle c56 (by decide) rfl
              refine lv_aload_n hx hb dX11_hours_30 rfl (lv_at hl 1 rfl) ?_
              refine tw_getM (v := .ref lk) hx hb hts bF2_X11 hown hK hT hr_o0 shc_14 rfl 1 (by decide) (ht_at2 hts 9 rfl) (fun _ h9 => h9) m22 dX11_hours_31 ?_
              have hFc := gA_free hG hA hS
              refine va_callv (va_runV (As := []) (rest := []) ⟨hx, hb, hml, hown, hts⟩ (c_passHourE l dC dI kA adK adV G H nC nS lk z23 hT hr_lk m25 (by have q8 := ti_all z23; omega) (by omega) (by omega)) (cwV 0 hts (goodIn_app (goodIn_r _ [203, 204, 205, 82] rfl (by decide +kernel)) (goodIn_ca (goodIn_r _ [12, 13, 14, 15, 16, 17, 18, 19, 20, 21, 22, 23, 24, 25, 26, 27, 28, 29, 30, 31, 32, 33, 34, 35, 36, 37, 38, 39, 40, 41, 42, 43, 44, 45, 46, 47, 48, 49, 50, 51, 52, 53, 54, 55, 56, 57, 58, 59, 60, 61, 62, 63, 64, 65, 66, 67, 68, 69, 70, 71, 72, 73, 74, 75, 76, 77, 78, 79, 80, 81, 82, 83, 84, 85, 86, 87, 88, 89, 90, 91, 92, 93, 94, 95, 96, 97, 98, 99, 100, 101, 102, 103, 104, 105, 106, 107, 108, 109, 110, 111, 112, 113, 114, 115, 116, 117, 118, 119, 120, 121, 122, 123, 124, 125, 126, 127, 128, 129, 130, 131, 132, 133, 134, 135, 136, 137, 138, 139, 140, 141, 142, 143, 144, 145, 146, 147, 148, 149, 150, 151, 152, 153, 154, 155, 156, 157, 158, 159, 160, 161, 162, 163, 164, 165, 166, 167, 168, 169, 170, 171, 172, 173, 174, 175, 176, 177, 178, 179, 180, 181, 182, 183, 184, 185, 186, 187, 188, 189, 190, 191, 192, 193, 194, 195, 196, 197, 198, 199, 200, 201, 202] rfl (by decide +kernel)) (bs2_in _ _))) rfl rfl rfl (by decide +kernel) ⟨(Nat.le_of_ble_eq_true rfl), (Nat.le_of_ble_eq_true rfl)⟩) ⟨fun a U g mk q => by obtain ⟨q0, q1, qK, qE⟩ := q; exact ⟨q0, q1, va_K.moved (u := U) (U := U.calling g mk a) (Vm.Alike.refl U.vm) qK, EVC.blind g mk a qE⟩, gH_rc hK hT hr_lk shc_6 rfl, fun U hU hW => ⟨rfl, hU, va_K.moved hW.alike hK, hE.call hS hFc hU hW⟩⟩ rfl rfl hl.1 rfl (lv_room (Nat.le_of_ble_eq_true rfl)) dX11_hours_34 ⟨(Nat.le_of_ble_eq_true rfl), (Nat.le_of_ble_eq_true rfl)⟩) hS (fun q _ h => hFc q h) hFc (fun u t H locs ht hvm hw60 hB _ _ hS => ?_)
              obtain ⟨u61, rfl⟩ : ∃ z, z = u := ⟨_, rfl⟩
              obtain ⟨hT, hF1, m62⟩ := hB
              rw [ht] at hT hF1 m62
              have m63 := (hF1.fld hr_o0 skc_14 (k := 1) (by decide) (by decide)).trans m22
              have hF := hF.more hF1 (by decide)
              try dsimp only at hw60
              obtain ⟨h65, hf66⟩ := hw60
              refine lv_aload_n hx hb dX11_hours_37 rfl (lv_at hl 1 rfl) ?_
              refine tw_get hx hb hts bF2_X11 hown hK hT hr_o0 shc_14 rfl 2 (by decide) (ht_at2 hts 205 rfl) (fun _ h9 => h9) dX11_hours_38 (fun v9 m67 h9 => ?_)
              obtain ⟨b68, rfl, hg69⟩ := h9 _ rfl
              refine lv_aload_n hx hb dX11_hours_41 rfl (lv_at hl 1 rfl) ?_
              refine tw_getM (v := .ref lk) hx hb hts bF2_X11 hown hK hT hr_o0 shc_14 rfl 1 (by decide) (ht_at2 hts 9 rfl) (fun _ h9 => h9) m63 dX11_hours_42 ?_
              have hFc := gA_free hG hA hS
              refine va_callv (va_runV (As := [.ref lk]) (rest := []) ⟨hx, hb, hml, hown, hts⟩ (c_write l dC dI kA adK adV G H nC nS b68 lk hT hr_lk hg69 (by omega) (by omega)) (cwV 1 hts (goodIn_app (goodIn_r _ [219, 220, 221, 215] rfl (by decide +kernel)) (goodIn_ca (goodIn_r _ [207, 208, 209, 15, 16, 17, 18, 19, 20, 21, 22, 23, 24, 210, 26, 27, 28, 211, 212, 213, 214, 215, 216, 53, 54, 44, 217, 56, 57, 49, 218] rfl (by decide +kernel)) (bs2_in _ _))) rfl rfl rfl (by decide +kernel) ⟨(Nat.le_of_ble_eq_true rfl), (Nat.le_of_ble_eq_true rfl)⟩) ⟨fun a U g mk q => by obtain ⟨q0, q1, qK, qE⟩ := q; exact ⟨q0, q1, va_K.moved (u := U) (U := U.calling g mk a) (Vm.Alike.refl U.vm) qK, EVC.blind g mk a qE⟩, gH_rc hK hT hg69 shc_9 rfl, fun U hU hW => ⟨rfl, hU, va_K.moved hW.alike hK, hE.call hS hFc hU hW⟩⟩ rfl rfl hl.1 rfl (lv_room (Nat.le_of_ble_eq_true rfl)) dX11_hours_45 ⟨(Nat.le_of_ble_eq_true rfl), (Nat.le_of_ble_eq_true rfl)⟩) hS (fun q _ h => hFc q h) hFc (fun u t H locs ht hvm hw71 hB _ _ hS => ?_)
              obtain ⟨hT, hF1⟩ := hB
              rw [ht] at hT hF1
              have m72 := (hF1.fld hr_o0 skc_14 (k := 1) (by decide) (by decide)).trans m63
              have m73 := (hF1.fld hr_lk skc_6 (k := 4) (by decide) (by decide)).trans m62
              have hF := hF.more hF1 (by decide)
              try dsimp only at hw71
              refine lv_iinc (v := nI (i21 + 1)) (lv' := [(2, .int (nI (i21 + 1))), (0, .ref o0), (1, .int p0)]) hx hb dX11_hours_48 hl (k := 0) rfl (nI_add i21 1) (by decide) rfl (fun ls hl => ?_)
              refine lv_goto (tgt := 13) hx hb dX11_hours_51 (by decide) ?_
              exact ih49 (i21 + 1) (by omega) (by omega) u61 ⟨(by have q8 := ti_all u61; omega), (by have := (show u61.toInt = u61.toInt from rfl); omega)⟩ _ _ hT hF hS m72 m73 ls (lv_sub hl [0, 1, 2] rfl)
      exact key49 (240 - 0) 0 (by omega) (Nat.le_refl _) ho ⟨(by have q8 := ti_all ho; omega), (by have := (show ho.toInt = ho.toInt from rfl); omega)⟩ _ _ hT hF hS m19 m20 ls (lv_sub hl [0, 1, 2] rfl)
def w_c_copyL_iE : List Cond := .code yX3_copyFrom cX3_copyFrom 3 none :: (HAppend.hAppend (α := List Cond) (β := List Cond) (γ := List Cond) [.fieldLink RX3 12 "SeaLand$Lake" "sky" "LSeaLand$Sky;", .code yX8_copyFrom cX8_copyFrom 2 none, .fieldLink RX8 9 "SeaLand$Sky" "tides" "[I", .methodLink RX8 63 arraycopyName, .native arraycopyName, .static arraycopyName, .initialized "java/lang/System", .fieldLink RX8 15 "SeaLand$Sky" "stormFrom" "[I", .fieldLink RX8 18 "SeaLand$Sky" "stormTo" "[I", .fieldLink RX8 21 "SeaLand$Sky" "stormMore" "[I", .fieldLink RX8 27 "SeaLand$Sky" "wind" "LSeaLand$Tellings;", .code yX9_copyFrom cX9_copyFrom 2 none, .fieldLink RX9 9 "SeaLand$Tellings" "hours" "[I", .methodLink RX9 23 arraycopyName, .fieldLink RX9 15 "SeaLand$Tellings" "numbers" "[I", .fieldLink RX9 18 "SeaLand$Tellings" "told" "I", .methodLink RX8 69 yX9_copyFrom, .instanceMethod yX9_copyFrom, .selects RX9 yX9_copyFrom yX9_copyFrom, .initialized RX9, .fieldLink RX8 31 "SeaLand$Sky" "rain" "LSeaLand$Tellings;", .fieldLink RX8 34 "SeaLand$Sky" "storms" "I", .methodLink RX3 175 yX8_copyFrom, .instanceMethod yX8_copyFrom, .selects RX8 yX8_copyFrom yX8_copyFrom, .initialized RX8, .fieldLink RX3 21 "SeaLand$Lake" "ground" "LSeaLand$Ground;", .code yX2_copyFrom cX2_copyFrom 2 none, .fieldLink RX2 9 "SeaLand$Ground" "isLand" "[Z", .methodLink RX2 95 arraycopyName, .fieldLink RX2 15 "SeaLand$Ground" "height" "[I", .fieldLink RX2 19 "SeaLand$Ground" "soil" "[I", .fieldLink RX2 22 "SeaLand$Ground" "ditch" "[I", .fieldLink RX2 25 "SeaLand$Ground" "water" "[I", .fieldLink RX2 28 "SeaLand$Ground" "salt" "[I", .fieldLink RX2 31 "SeaLand$Ground" "dry" "[I", .fieldLink RX2 34 "SeaLand$Ground" "wet" "[I", .fieldLink RX2 54 "SeaLand$Ground" "rained" "I", .fieldLink RX2 57 "SeaLand$Ground" "cameIn" "I", .fieldLink RX2 64 "SeaLand$Ground" "wentOut" "I", .fieldLink RX2 50 "SeaLand$Ground" "toldMore" "I", .methodLink RX3 179 yX2_copyFrom, .instanceMethod yX2_copyFrom, .selects RX2 yX2_copyFrom yX2_copyFrom, .initialized RX2, .fieldLink RX3 47 "SeaLand$Lake" "built" "I", .fieldLink RX3 32 "SeaLand$Lake" "hour" "I", .fieldLink RX3 27 "SeaLand$Lake" "works" "[LSeaLand$Work;", .code yX10_copyFrom cX10_copyFrom 2 none, .fieldLink RX10 9 "SeaLand$Work" "thick" "[I", .methodLink RX10 60 arraycopyName, .fieldLink RX10 15 "SeaLand$Work" "clay" "[I", .fieldLink RX10 18 "SeaLand$Work" "kind" "I", .fieldLink RX10 22 "SeaLand$Work" "square" "I", .fieldLink RX10 25 "SeaLand$Work" "to" "I", .fieldLink RX10 28 "SeaLand$Work" "size" "I", .fieldLink RX10 31 "SeaLand$Work" "width" "I", .fieldLink RX10 34 "SeaLand$Work" "layers" "I", .fieldLink RX10 37 "SeaLand$Work" "coal" "I", .fieldLink RX10 40 "SeaLand$Work" "on" "Z", .fieldLink RX10 44 "SeaLand$Work" "latest" "I", .fieldLink RX10 47 "SeaLand$Work" "total" "I", .methodLink RX3 182 yX10_copyFrom, .instanceMethod yX10_copyFrom, .selects RX10 yX10_copyFrom yX10_copyFrom, .initialized RX10] bs2)
set_option maxHeartbeats 4000000 in
set_option maxRecDepth 100000 in
theorem c_copyL_iE (l : Launch) (dC : Nat → ClassId) (dI : Nat → Nat → Nat) (kA : Nat → ClassId) (adK adV : Nat → Nat) (G : gT) (H0 : Heap) (nC nS : Int) (o0 : Nat) (p0 : Nat) (oh : Int32)  (hT : gH (dC, dI) kA (SHc nC nS) G H0) (hr_o0 : G o0 = some 90) (hr_p0 : G p0 = some 6) (hm_oh : el H0 p0 (dI 6 4) = some (.int oh)) (hq0 : 0 ≤ oh.toInt ∧ oh.toInt ≤ 40000) (hgC : 0 ≤ nC ∧ nC ≤ 40) (hgS : 0 ≤ nS ∧ nS ≤ 60) : Met l yX3_copyFrom w_c_copyL_iE ({ frames := 4, cells := 0, slots := 0, locals := 102 }) (va_Pc [.ref o0, .ref p0] (fun U => U.heap = H0 ∧ va_K (dC, dI) vwCl (tyl kA) U ∧ EVC adK adV (gA G H0.size) U U.heap)) (va_Qv (fun (u : Int32) => (u.toInt = oh.toInt)) (fun (h1 : Int32) (t : State) => gH (dC, dI) kA (SHc nC nS) G t.heap ∧ gF (dC, dI) SKc G ([(71, 0), (72, 0), (73, 0), (74, 0), (75, 0), (76, 0), (77, 0), (78, 0), (79, 0), (80, 0), (81, 0), (82, 0), (83, 0), (84, 0), (88, 0), (89, 0), (90, 3), (90, 4), (91, 6), (92, 2), (93, 11), (93, 12), (93, 13), (93, 14), (94, 2), (94, 3), (94, 4), (94, 5), (94, 6), (94, 7), (94, 8), (94, 9), (94, 10), (94, 11)] : List (Nat × Nat)) H0 t.heap ∧ el t.heap o0 (dI 6 4) = some (.int h1)) (gA G H0.size)) 0 0 (gA G H0.size) := by
  refine Met.ofW (cc := cX3_copyFrom) (maxL := 3) (ret := none) (by decide) rfl ?_
  intro p e s m args below meth c s₁ B hml hv
  obtain ⟨rfl, hH0, hK, hE⟩ := hv
  have hx := B.exec
  have hb := B.bytes
  have hr := B.returns
  have hts := atoms_spec (ws := w_c_copyL_iE) B.pre
  have hown : s.vm.findClass RX3 = some m.cls := findClass_of_methodNamed B.named
  have hlocks := B.notSynchronized
  subst hH0
  generalize hAe : gA G s.heap.size = A at hE ⊢
  have hA : ∀ q : Nat, s.heap.size ≤ q → A q := fun q h => by rw [← hAe]; exact Or.inr h
  have hG := gA_of hAe
  have hS : va_S A s.heap s.heap [] := va_S.rf
  have hF : gF (dC, dI) SKc G ([(71, 0), (72, 0), (73, 0), (74, 0), (75, 0), (76, 0), (77, 0), (78, 0), (79, 0), (80, 0), (81, 0), (82, 0), (83, 0), (84, 0), (88, 0), (89, 0), (90, 3), (90, 4), (91, 6), (92, 2), (93, 11), (93, 12), (93, 13), (93, 14), (94, 2), (94, 3), (94, 4), (94, 5), (94, 6), (94, 7), (94, 8), (94, 9), (94, 10), (94, 11)] : List (Nat × Nat)) s.heap s.heap := gF.rf
  have hl := lv_entry ([.ref o0, .ref p0]) (n := 3) (Nat.le_of_ble_eq_true rfl)
  rw [lg_entry_eq]
  generalize (lg_sl ([.ref o0, .ref p0]) ++ List.replicate (3 - (lg_sl ([.ref o0, .ref p0])).length) Slot.unset).toArray = ls at hl ⊢
  have hl : lv_has ls 3 [(0, .ref o0), (1, .ref p0)] := hl
  refine lv_aload_n hx hb dX3_copyFrom_0 rfl (lv_at hl 0 rfl) ?_
  refine tw_get hx hb hts bF2_X3 hown hK hT hr_o0 shc_90 rfl 0 (by decide) (ht_at2 hts 0 rfl) (fun _ h9 => h9) dX3_copyFrom_1 (fun v9 m1 h9 => ?_)
  obtain ⟨b2, rfl, hg3⟩ := h9 _ rfl
  refine lv_aload_n hx hb dX3_copyFrom_4 rfl (lv_at hl 1 rfl) ?_
  refine tw_get hx hb hts bF2_X3 hown hK hT hr_p0 shc_6 rfl 0 (by decide) (ht_at2 hts 0 rfl) (fun _ h9 => h9) dX3_copyFrom_5 (fun v9 m4 h9 => ?_)
  obtain ⟨b5, rfl, hg6⟩ := h9 _ rfl
  have hFc := gA_free hG hA hS
  refine va_callv (va_runV (As := [.ref b5]) (rest := []) ⟨hx, hb, hml, hown, hts⟩ (c_copyS_i l dC dI kA adK adV G s.heap nC nS b2 b5 hT hg3 hg6 (by omega) (by omega)) (cwV 1 hts (goodIn_app (goodIn_r _ [23, 24, 25, 26] rfl (by decide +kernel)) (goodIn_ca (goodIn_r _ [2, 3, 4, 5, 6, 7, 8, 9, 10, 11, 12, 13, 14, 15, 16, 17, 18, 19, 20, 21, 22] rfl (by decide +kernel)) (bs2_in _ _))) rfl rfl rfl (by decide +kernel) ⟨(Nat.le_of_ble_eq_true rfl), (Nat.le_of_ble_eq_true rfl)⟩) ⟨fun a U g mk q => by obtain ⟨q0, q1, qK, qE⟩ := q; exact ⟨q0, q1, va_K.moved (u := U) (U := U.calling g mk a) (Vm.Alike.refl U.vm) qK, EVC.blind g mk a qE⟩, gH_rc hK hT hg3 shc_91 rfl, fun U hU hW => ⟨rfl, hU, va_K.moved hW.alike hK, hE.call hS hFc hU hW⟩⟩ rfl rfl hl.1 rfl (lv_room (Nat.le_of_ble_eq_true rfl)) dX3_copyFrom_8 ⟨(Nat.le_of_ble_eq_true rfl), (Nat.le_of_ble_eq_true rfl)⟩) hS (fun q _ h => hFc q h) hFc (fun u t H locs ht hvm hw8 hB _ _ hS => ?_)
  obtain ⟨hT, hF1⟩ := hB
  rw [ht] at hT hF1
  have m9 := (hF1.fld hr_p0 skc_6 (k := 4) (by decide) (by decide)).trans hm_oh
  have m10 := (hF1.fld hr_o0 skc_90 (k := 0) (by decide) (by decide)).trans m1
  have m11 := (hF1.fld hr_p0 skc_6 (k := 0) (by decide) (by decide)).trans m4
  have hF := hF.more hF1 (by decide)
  try dsimp only at hw8
  refine lv_aload_n hx hb dX3_copyFrom_11 rfl (lv_at hl 0 rfl) ?_
  refine tw_get hx hb hts bF2_X3 hown hK hT hr_o0 shc_90 rfl 1 (by decide) (ht_at2 hts 26 rfl) (fun _ h9 => h9) dX3_copyFrom_12 (fun v9 m12 h9 => ?_)
  obtain ⟨b13, rfl, hg14⟩ := h9 _ rfl
  refine lv_aload_n hx hb dX3_copyFrom_15 rfl (lv_at hl 1 rfl) ?_
  refine tw_get hx hb hts bF2_X3 hown hK hT hr_p0 shc_6 rfl 1 (by decide) (ht_at2 hts 26 rfl) (fun _ h9 => h9) dX3_copyFrom_16 (fun v9 m15 h9 => ?_)
  obtain ⟨b16, rfl, hg17⟩ := h9 _ rfl
  have hFc := gA_free hG hA hS
  refine va_callv (va_runV (As := [.ref b16]) (rest := []) ⟨hx, hb, hml, hown, hts⟩ (c_copyG_i l dC dI kA adK adV G H nC nS b13 b16 hT hg14 hg17 (by omega) (by omega)) (cwV 1 hts (goodIn_app (goodIn_r _ [42, 43, 44, 45] rfl (by decide +kernel)) (goodIn_ca (goodIn_r _ [28, 29, 30, 5, 6, 7, 31, 32, 33, 34, 35, 36, 37, 38, 39, 40, 41] rfl (by decide +kernel)) (bs2_in _ _))) rfl rfl rfl (by decide +kernel) ⟨(Nat.le_of_ble_eq_true rfl), (Nat.le_of_ble_eq_true rfl)⟩) ⟨fun a U g mk q => by obtain ⟨q0, q1, qK, qE⟩ := q; exact ⟨q0, q1, va_K.moved (u := U) (U := U.calling g mk a) (Vm.Alike.refl U.vm) qK, EVC.blind g mk a qE⟩, gH_rc hK hT hg14 shc_93 rfl, fun U hU hW => ⟨rfl, hU, va_K.moved hW.alike hK, hE.call hS hFc hU hW⟩⟩ rfl rfl hl.1 rfl (lv_room (Nat.le_of_ble_eq_true rfl)) dX3_copyFrom_19 ⟨(Nat.le_of_ble_eq_true rfl), (Nat.le_of_ble_eq_true rfl)⟩) hS (fun q _ h => hFc q h) hFc (fun u t H locs ht hvm hw19 hB _ _ hS => ?_)
  obtain ⟨hT, hF1⟩ := hB
  rw [ht] at hT hF1
  have m20 := (hF1.fld hr_p0 skc_6 (k := 4) (by decide) (by decide)).trans m9
  have m21 := (hF1.fld hr_o0 skc_90 (k := 0) (by decide) (by decide)).trans m10
  have m22 := (hF1.fld hr_p0 skc_6 (k := 0) (by decide) (by decide)).trans m11
  have m23 := (hF1.fld hr_o0 skc_90 (k := 1) (by decide) (by decide)).trans m12
  have m24 := (hF1.fld hr_p0 skc_6 (k := 1) (by decide) (by decide)).trans m15
  have hF := hF.more hF1 (by decide)
  try dsimp only at hw19
  refine lv_iconst (v := 0) hx hb dX3_copyFrom_22 (by decide) ?_
  refine lv_istore_n (lv' := [(2, .int 0), (0, .ref o0), (1, .ref p0)]) hx hb dX3_copyFrom_23 rfl hl (by decide) rfl (fun ls hl => ?_)
  have jn118 : ∀ (z108 : Int32), ∀ (z115 : Int32), ((0 ≤ z108.toInt ∧ z108.toInt ≤ 30) ∧ (0 ≤ z115.toInt ∧ z115.toInt ≤ 30)) → ∀ (H : Heap) (locs : List Loc), gH (dC, dI) kA (SHc nC nS) G H → gF (dC, dI) SKc G ([(71, 0), (72, 0), (73, 0), (74, 0), (75, 0), (76, 0), (77, 0), (78, 0), (79, 0), (80, 0), (81, 0), (82, 0), (83, 0), (84, 0), (88, 0), (89, 0), (90, 3), (90, 4), (91, 6), (92, 2), (93, 11), (93, 12), (93, 13), (93, 14), (94, 2), (94, 3), (94, 4), (94, 5), (94, 6), (94, 7), (94, 8), (94, 9), (94, 10), (94, 11)] : List (Nat × Nat)) s.heap H → va_S A s.heap H locs → el H p0 (dI 6 4) = some (.int oh) → el H o0 (dI 6 0) = some (.ref b2) → el H p0 (dI 6 0) = some (.ref b5) → el H o0 (dI 6 1) = some (.ref b13) → el H p0 (dI 6 1) = some (.ref b16) → el H p0 (dI 6 3) = some (.int z115) → ∀ ls : Array Slot, lv_has ls 3 [(2, .int z108), (0, .ref o0), (1, .ref p0)] → W p l e (headSpec w_c_copyL_iE ({ frames := 4, cells := 0, slots := 0, locals := 102 })).room s m #[.ref o0, .ref p0] below meth c H locs 0 0 (MQ below (va_Qv (fun (u : Int32) => (u.toInt = oh.toInt)) (fun (h1 : Int32) (t : State) => gH (dC, dI) kA (SHc nC nS) G t.heap ∧ gF (dC, dI) SKc G ([(71, 0), (72, 0), (73, 0), (74, 0), (75, 0), (76, 0), (77, 0), (78, 0), (79, 0), (80, 0), (81, 0), (82, 0), (83, 0), (84, 0), (88, 0), (89, 0), (90, 3), (90, 4), (91, 6), (92, 2), (93, 11), (93, 12), (93, 13), (93, 14), (94, 2), (94, 3), (94, 4), (94, 5), (94, 6), (94, 7), (94, 8), (94, 9), (94, 10), (94, 11)] : List (Nat × Nat)) s.heap t.heap ∧ el t.heap o0 (dI 6 4) = some (.int h1)) A) #[.ref o0, .ref p0] s 0 0 A) (F0 m 53 ls []) := by
    intro z108 z115 ⟨h109, h116⟩ H locs hT hF hS m110 m111 m112 m113 m114 m117 ls hl
    refine lv_aload_n hx hb dX3_copyFrom_53 rfl (lv_at hl 1 rfl) ?_
    refine lv_aload_n hx hb dX3_copyFrom_54 rfl (lv_at hl 2 rfl) ?_
    refine tw_getM (v := .int z115) hx hb hts bF2_X3 hown hK hT hr_p0 shc_6 rfl 3 (by decide) (ht_at2 hts 45 rfl) (fun _ h9 => h9) m117 dX3_copyFrom_55 ?_
    refine tw_put (v := .int z115) (ty := .int) hx hb hts bF2_X3 tyX3 tyX3_ok nmX3 hown hK hT hG hS hr_o0 shc_90 rfl 3 (by decide) (ht_at2 hts 45 rfl) (fun _ h9 => h9) rfl (by decide +kernel) rfl rfl (gl_at rfl (gi_of (show z115.toInt = z115.toInt from rfl) (by omega) (by omega))) dX3_copyFrom_58 (fun H locs hT oq m119 oj hS => ?_)
    have hF := hF.put hr_o0 skc_90 oq oj (by decide)
    have m120 := (el_kept (oq _ (gne hr_p0 hr_o0 (by decide)))).trans m110
    refine lv_aload_n hx hb dX3_copyFrom_61 rfl (lv_at hl 1 rfl) ?_
    refine lv_aload_n hx hb dX3_copyFrom_62 rfl (lv_at hl 2 rfl) ?_
    refine tw_getM (v := .int oh) hx hb hts bF2_X3 hown hK hT hr_p0 shc_6 rfl 4 (by decide) (ht_at2 hts 46 rfl) (fun _ h9 => h9) m120 dX3_copyFrom_63 ?_
    refine tw_put (v := .int oh) (ty := .int) hx hb hts bF2_X3 tyX3 tyX3_ok nmX3 hown hK hT hG hS hr_o0 shc_90 rfl 4 (by decide) (ht_at2 hts 46 rfl) (fun _ h9 => h9) rfl (by decide +kernel) rfl rfl (gl_at rfl (gi_of (show oh.toInt = oh.toInt from rfl) (by omega) (by omega))) dX3_copyFrom_66 (fun H locs hT oq m126 oj hS => ?_)
    have hF := hF.put hr_o0 skc_90 oq oj (by decide)
    exact W.vret hx hb hr (fun t ht hW => ⟨⟨oh, rfl, (by exact (by omega)), by (try dsimp only); rw [ht]; exact ⟨hT, hF, m126⟩⟩, hS.F ht⟩) hS.2.2 dX3_copyFrom_69
  have key134 : ∀ (n134 i25 : Nat), i25 + n134 = 30 → 0 ≤ i25 → ∀ (H : Heap) (locs : List Loc), gH (dC, dI) kA (SHc nC nS) G H → gF (dC, dI) SKc G ([(71, 0), (72, 0), (73, 0), (74, 0), (75, 0), (76, 0), (77, 0), (78, 0), (79, 0), (80, 0), (81, 0), (82, 0), (83, 0), (84, 0), (88, 0), (89, 0), (90, 3), (90, 4), (91, 6), (92, 2), (93, 11), (93, 12), (93, 13), (93, 14), (94, 2), (94, 3), (94, 4), (94, 5), (94, 6), (94, 7), (94, 8), (94, 9), (94, 10), (94, 11)] : List (Nat × Nat)) s.heap H → va_S A s.heap H locs → el H p0 (dI 6 4) = some (.int oh) → el H o0 (dI 6 0) = some (.ref b2) → el H p0 (dI 6 0) = some (.ref b5) → el H o0 (dI 6 1) = some (.ref b13) → el H p0 (dI 6 1) = some (.ref b16) → ∀ ls : Array Slot, lv_has ls 3 [(2, .int (nI i25)), (0, .ref o0), (1, .ref p0)] → W p l e (headSpec w_c_copyL_iE ({ frames := 4, cells := 0, slots := 0, locals := 102 })).room s m #[.ref o0, .ref p0] below meth c H locs 0 0 (MQ below (va_Qv (fun (u : Int32) => (u.toInt = oh.toInt)) (fun (h1 : Int32) (t : State) => gH (dC, dI) kA (SHc nC nS) G t.heap ∧ gF (dC, dI) SKc G ([(71, 0), (72, 0), (73, 0), (74, 0), (75, 0), (76, 0), (77, 0), (78, 0), (79, 0), (80, 0), (81, 0), (82, 0), (83, 0), (84, 0), (88, 0), (89, 0), (90, 3), (90, 4), (91, 6), (92, 2), (93, 11), (93, 12), (93, 13), (93, 14), (94, 2), (94, 3), (94, 4), (94, 5), (94, 6), (94, 7), (94, 8), (94, 9), (94, 10), (94, 11)] : List (Nat × Nat)) s.heap t.heap ∧ el t.heap o0 (dI 6 4) = some (.int h1)) A) #[.ref o0, .ref p0] s 0 0 A) (F0 m 24 ls []) := by
    intro n134
    induction n134 with
    | zero =>
      intro i25 hn134 hlo135  H locs hT hF hS m26 m27 m28 m29 m30 ls hl
      obtain rfl : 30 = i25 := by omega
      refine lv_iload_n hx hb dX3_copyFrom_24 rfl (lv_at hl 0 rfl) ?_
      refine lv_aload_n hx hb dX3_copyFrom_25 rfl (lv_at hl 2 rfl) ?_
      refine tw_get hx hb hts bF2_X3 hown hK hT hr_p0 shc_6 rfl 3 (by decide) (ht_at2 hts 45 rfl) (fun _ h9 => h9) dX3_copyFrom_26 (fun v9 m136 h9 => ?_)
      obtain ⟨x137, rfl, gx137, kx137⟩ := h9 _ rfl
      refine lv_icmp_ge (tgt := 53) hx hb dX3_copyFrom_29 (by decide) (fun c138 => ?_) (fun c138 => (by exfalso; have q9 : ((30 : Nat) : Int) < x137.toInt := ti_nle c138 rfl (nI_toInt (by omega)); omega))
      have t139 : x137.toInt ≤ ((30 : Nat) : Int) := ti_le c138 rfl (nI_toInt (by omega))
      exact jn118 (nI 30) x137 ⟨(rg_t (a := ((30 : Nat) : Int)) (nI_toInt (by omega)) (by omega) (by omega)), (by have q8 := ti_all x137; omega)⟩ _ _ hT hF hS m26 m27 m28 m29 m30 m136 ls (lv_sub hl [0, 1, 2] rfl)
    | succ n134 ih134 =>
      intro i25 hn134 hlo135  H locs hT hF hS m26 m27 m28 m29 m30 ls hl
      have hlt139 : i25 < 30 := by omega
      refine lv_iload_n hx hb dX3_copyFrom_24 rfl (lv_at hl 0 rfl) ?_
      refine lv_aload_n hx hb dX3_copyFrom_25 rfl (lv_at hl 2 rfl) ?_
      refine tw_get hx hb hts bF2_X3 hown hK hT hr_p0 shc_6 rfl 3 (by decide) (ht_at2 hts 45 rfl) (fun _ h9 => h9) dX3_copyFrom_26 (fun v9 m140 h9 => ?_)
      obtain ⟨x141, rfl, gx141, kx141⟩ := h9 _ rfl
      refine lv_icmp_ge (tgt := 53) hx hb dX3_copyFrom_29 (by decide) (fun c142 => ?_) (fun c142 => ?_)
      · have t143 : x141.toInt ≤ ((i25 : Nat) : Int) := ti_le c142 rfl (nI_toInt (by omega))
        exact jn118 (nI i25) x141 ⟨(rg_t (a := ((i25 : Nat) : Int)) (nI_toInt (by omega)) (by omega) (by omega)), (by have q8 := ti_all x141; omega)⟩ _ _ hT hF hS m26 m27 m28 m29 m30 m140 ls (lv_sub hl [0, 1, 2] rfl)
      · have t144 : ((i25 : Nat) : Int) < x141.toInt := ti_nle c142 rfl (nI_toInt (by omega))
        refine lv_aload_n hx hb dX3_copyFrom_32 rfl (lv_at hl 1 rfl) ?_
        refine tw_get hx hb hts bF2_X3 hown hK hT hr_o0 shc_90 rfl 2 (by decide) (ht_at2 hts 47 rfl) (fun _ h9 => h9) dX3_copyFrom_33 (fun v9 m145 h9 => ?_)
        obtain ⟨b146, rfl, hg147⟩ := h9 _ rfl
        refine lv_iload_n hx hb dX3_copyFrom_36 rfl (lv_at hl 0 rfl) ?_
        refine tw_aald (i := (nI i25)) hx hb hK hT hg147 shc_70 rfl (vp_in_nI (by omega) (by decide)) dX3_copyFrom_37 (fun v9 m148 h9 => ?_)
        obtain ⟨b149, rfl, hg150⟩ := h9
        refine lv_aload_n hx hb dX3_copyFrom_38 rfl (lv_at hl 2 rfl) ?_
        refine tw_get hx hb hts bF2_X3 hown hK hT hr_p0 shc_6 rfl 2 (by decide) (ht_at2 hts 47 rfl) (fun _ h9 => h9) dX3_copyFrom_39 (fun v9 m151 h9 => ?_)
        obtain ⟨b152, rfl, hg153⟩ := h9 _ rfl
        refine lv_iload_n hx hb dX3_copyFrom_42 rfl (lv_at hl 0 rfl) ?_
        refine tw_aald (i := (nI i25)) hx hb hK hT hg153 shc_18 rfl (vp_in_nI (by omega) (by decide)) dX3_copyFrom_43 (fun v9 m154 h9 => ?_)
        obtain ⟨b155, rfl, hg156⟩ := h9
        have hFc := gA_free hG hA hS
        refine va_callv (va_runV (As := [.ref b155]) (rest := []) ⟨hx, hb, hml, hown, hts⟩ (c_copyW_i l dC dI kA adK adV G H nC nS b149 b155 hT hg150 hg156 (by omega) (by omega)) (cwV 1 hts (goodIn_app (goodIn_r _ [63, 64, 65, 66] rfl (by decide +kernel)) (goodIn_ca (goodIn_r _ [49, 50, 51, 5, 6, 7, 52, 53, 54, 55, 56, 57, 58, 59, 60, 61, 62] rfl (by decide +kernel)) (bs2_in _ _))) rfl rfl rfl (by decide +kernel) ⟨(Nat.le_of_ble_eq_true rfl), (Nat.le_of_ble_eq_true rfl)⟩) ⟨fun a U g mk q => by obtain ⟨q0, q1, qK, qE⟩ := q; exact ⟨q0, q1, va_K.moved (u := U) (U := U.calling g mk a) (Vm.Alike.refl U.vm) qK, EVC.blind g mk a qE⟩, gH_rc hK hT hg150 shc_94 rfl, fun U hU hW => ⟨rfl, hU, va_K.moved hW.alike hK, hE.call hS hFc hU hW⟩⟩ rfl rfl hl.1 rfl (lv_room (Nat.le_of_ble_eq_true rfl)) dX3_copyFrom_44 ⟨(Nat.le_of_ble_eq_true rfl), (Nat.le_of_ble_eq_true rfl)⟩) hS (fun q _ h => hFc q h) hFc (fun u t H locs ht hvm hw158 hB _ _ hS => ?_)
        obtain ⟨hT, hF1⟩ := hB
        rw [ht] at hT hF1
        have m159 := (hF1.fld hr_p0 skc_6 (k := 4) (by decide) (by decide)).trans m26
        have m160 := (hF1.fld hr_o0 skc_90 (k := 0) (by decide) (by decide)).trans m27
        have m161 := (hF1.fld hr_p0 skc_6 (k := 0) (by decide) (by decide)).trans m28
        have m162 := (hF1.fld hr_o0 skc_90 (k := 1) (by decide) (by decide)).trans m29
        have m163 := (hF1.fld hr_p0 skc_6 (k := 1) (by decide) (by decide)).trans m30
        have hF := hF.more hF1 (by decide)
        try dsimp only at hw158
        refine lv_iinc (v := nI (i25 + 1)) (lv' := [(2, .int (nI (i25 + 1))), (0, .ref o0), (1, .ref p0)]) hx hb dX3_copyFrom_47 hl (k := 0) rfl (nI_add i25 1) (by decide) rfl (fun ls hl => ?_)
        refine lv_goto (tgt := 24) hx hb dX3_copyFrom_50 (by decide) ?_
        exact ih134 (i25 + 1) (by omega) (by omega) _ _ hT hF hS m159 m160 m161 m162 m163 ls (lv_sub hl [0, 1, 2] rfl)
  exact key134 (30 - 0) 0 (by omega) (Nat.le_refl _) _ _ hT hF hS m20 m21 m22 m23 m24 ls (lv_sub hl [0, 1, 2] rfl)
def w_c_copyL_lE : List Cond := .code yX3_copyFrom cX3_copyFrom 3 none :: (HAppend.hAppend (α := List Cond) (β := List Cond) (γ := List Cond) [.fieldLink RX3 12 "SeaLand$Lake" "sky" "LSeaLand$Sky;", .code yX8_copyFrom cX8_copyFrom 2 none, .fieldLink RX8 9 "SeaLand$Sky" "tides" "[I", .methodLink RX8 63 arraycopyName, .native arraycopyName, .static arraycopyName, .initialized "java/lang/System", .fieldLink RX8 15 "SeaLand$Sky" "stormFrom" "[I", .fieldLink RX8 18 "SeaLand$Sky" "stormTo" "[I", .fieldLink RX8 21 "SeaLand$Sky" "stormMore" "[I", .fieldLink RX8 27 "SeaLand$Sky" "wind" "LSeaLand$Tellings;", .code yX9_copyFrom cX9_copyFrom 2 none, .fieldLink RX9 9 "SeaLand$Tellings" "hours" "[I", .methodLink RX9 23 arraycopyName, .fieldLink RX9 15 "SeaLand$Tellings" "numbers" "[I", .fieldLink RX9 18 "SeaLand$Tellings" "told" "I", .methodLink RX8 69 yX9_copyFrom, .instanceMethod yX9_copyFrom, .selects RX9 yX9_copyFrom yX9_copyFrom, .initialized RX9, .fieldLink RX8 31 "SeaLand$Sky" "rain" "LSeaLand$Tellings;", .fieldLink RX8 34 "SeaLand$Sky" "storms" "I", .methodLink RX3 175 yX8_copyFrom, .instanceMethod yX8_copyFrom, .selects RX8 yX8_copyFrom yX8_copyFrom, .initialized RX8, .fieldLink RX3 21 "SeaLand$Lake" "ground" "LSeaLand$Ground;", .code yX2_copyFrom cX2_copyFrom 2 none, .fieldLink RX2 9 "SeaLand$Ground" "isLand" "[Z", .methodLink RX2 95 arraycopyName, .fieldLink RX2 15 "SeaLand$Ground" "height" "[I", .fieldLink RX2 19 "SeaLand$Ground" "soil" "[I", .fieldLink RX2 22 "SeaLand$Ground" "ditch" "[I", .fieldLink RX2 25 "SeaLand$Ground" "water" "[I", .fieldLink RX2 28 "SeaLand$Ground" "salt" "[I", .fieldLink RX2 31 "SeaLand$Ground" "dry" "[I", .fieldLink RX2 34 "SeaLand$Ground" "wet" "[I", .fieldLink RX2 54 "SeaLand$Ground" "rained" "I", .fieldLink RX2 57 "SeaLand$Ground" "cameIn" "I", .fieldLink RX2 64 "SeaLand$Ground" "wentOut" "I", .fieldLink RX2 50 "SeaLand$Ground" "toldMore" "I", .methodLink RX3 179 yX2_copyFrom, .instanceMethod yX2_copyFrom, .selects RX2 yX2_copyFrom yX2_copyFrom, .initialized RX2, .fieldLink RX3 47 "SeaLand$Lake" "built" "I", .fieldLink RX3 32 "SeaLand$Lake" "hour" "I", .fieldLink RX3 27 "SeaLand$Lake" "works" "[LSeaLand$Work;", .code yX10_copyFrom cX10_copyFrom 2 none, .fieldLink RX10 9 "SeaLand$Work" "thick" "[I", .methodLink RX10 60 arraycopyName, .fieldLink RX10 15 "SeaLand$Work" "clay" "[I", .fieldLink RX10 18 "SeaLand$Work" "kind" "I", .fieldLink RX10 22 "SeaLand$Work" "square" "I", .fieldLink RX10 25 "SeaLand$Work" "to" "I", .fieldLink RX10 28 "SeaLand$Work" "size" "I", .fieldLink RX10 31 "SeaLand$Work" "width" "I", .fieldLink RX10 34 "SeaLand$Work" "layers" "I", .fieldLink RX10 37 "SeaLand$Work" "coal" "I", .fieldLink RX10 40 "SeaLand$Work" "on" "Z", .fieldLink RX10 44 "SeaLand$Work" "latest" "I", .fieldLink RX10 47 "SeaLand$Work" "total" "I", .methodLink RX3 182 yX10_copyFrom, .instanceMethod yX10_copyFrom, .selects RX10 yX10_copyFrom yX10_copyFrom, .initialized RX10] bs2)
set_option maxHeartbeats 4000000 in
set_option maxRecDepth 100000 in
theorem c_copyL_lE (l : Launch) (dC : Nat → ClassId) (dI : Nat → Nat → Nat) (kA : Nat → ClassId) (adK adV : Nat → Nat) (G : gT) (H0 : Heap) (nC nS : Int) (o0 : Nat) (p0 : Nat) (oh : Int32)  (hT : gH (dC, dI) kA (SHc nC nS) G H0) (hr_o0 : G o0 = some 6) (hr_p0 : G p0 = some 90) (hm_oh : el H0 p0 (dI 6 4) = some (.int oh)) (hq0 : 0 ≤ oh.toInt ∧ oh.toInt ≤ 40000) (hgC : 0 ≤ nC ∧ nC ≤ 40) (hgS : 0 ≤ nS ∧ nS ≤ 60) : Met l yX3_copyFrom w_c_copyL_lE ({ frames := 4, cells := 0, slots := 0, locals := 102 }) (va_Pc [.ref o0, .ref p0] (fun U => U.heap = H0 ∧ va_K (dC, dI) vwCl (tyl kA) U ∧ EVC adK adV (gA G H0.size) U U.heap)) (va_Qv (fun (u : Int32) => (u.toInt = oh.toInt)) (fun (h1 : Int32) (t : State) => gH (dC, dI) kA (SHc nC nS) G t.heap ∧ gF (dC, dI) SKc G ([(5, 11), (5, 12), (5, 13), (5, 14), (6, 3), (6, 4), (11, 6), (12, 2), (13, 2), (13, 3), (13, 4), (13, 5), (13, 6), (13, 7), (13, 8), (13, 9), (13, 10), (13, 11), (19, 0), (20, 0), (21, 0), (22, 0), (23, 0), (24, 0), (25, 0), (26, 0), (27, 0), (28, 0), (29, 0), (30, 0), (31, 0), (32, 0), (36, 0), (37, 0)] : List (Nat × Nat)) H0 t.heap ∧ el t.heap o0 (dI 6 4) = some (.int h1)) (gA G H0.size)) 0 0 (gA G H0.size) := by
  refine Met.ofW (cc := cX3_copyFrom) (maxL := 3) (ret := none) (by decide) rfl ?_
  intro p e s m args below meth c s₁ B hml hv
  obtain ⟨rfl, hH0, hK, hE⟩ := hv
  have hx := B.exec
  have hb := B.bytes
  have hr := B.returns
  have hts := atoms_spec (ws := w_c_copyL_lE) B.pre
  have hown : s.vm.findClass RX3 = some m.cls := findClass_of_methodNamed B.named
  have hlocks := B.notSynchronized
  subst hH0
  generalize hAe : gA G s.heap.size = A at hE ⊢
  have hA : ∀ q : Nat, s.heap.size ≤ q → A q := fun q h => by rw [← hAe]; exact Or.inr h
  have hG := gA_of hAe
  have hS : va_S A s.heap s.heap [] := va_S.rf
  have hF : gF (dC, dI) SKc G ([(5, 11), (5, 12), (5, 13), (5, 14), (6, 3), (6, 4), (11, 6), (12, 2), (13, 2), (13, 3), (13, 4), (13, 5), (13, 6), (13, 7), (13, 8), (13, 9), (13, 10), (13, 11), (19, 0), (20, 0), (21, 0), (22, 0), (23, 0), (24, 0), (25, 0), (26, 0), (27, 0), (28, 0), (29, 0), (30, 0), (31, 0), (32, 0), (36, 0), (37, 0)] : List (Nat × Nat)) s.heap s.heap := gF.rf
  have hl := lv_entry ([.ref o0, .ref p0]) (n := 3) (Nat.le_of_ble_eq_true rfl)
  rw [lg_entry_eq]
  generalize (lg_sl ([.ref o0, .ref p0]) ++ List.replicate (3 - (lg_sl ([.ref o0, .ref p0])).length) Slot.unset).toArray = ls at hl ⊢
  have hl : lv_has ls 3 [(0, .ref o0), (1, .ref p0)] := hl
  refine lv_aload_n hx hb dX3_copyFrom_0 rfl (lv_at hl 0 rfl) ?_
  refine tw_get hx hb hts bF2_X3 hown hK hT hr_o0 shc_6 rfl 0 (by decide) (ht_at2 hts 0 rfl) (fun _ h9 => h9) dX3_copyFrom_1 (fun v9 m1 h9 => ?_)
  obtain ⟨b2, rfl, hg3⟩ := h9 _ rfl
  refine lv_aload_n hx hb dX3_copyFrom_4 rfl (lv_at hl 1 rfl) ?_
  refine tw_get hx hb hts bF2_X3 hown hK hT hr_p0 shc_90 rfl 0 (by decide) (ht_at2 hts 0 rfl) (fun _ h9 => h9) dX3_copyFrom_5 (fun v9 m4 h9 => ?_)
  obtain ⟨b5, rfl, hg6⟩ := h9 _ rfl
  have hFc := gA_free hG hA hS
  refine va_callv (va_runV (As := [.ref b5]) (rest := []) ⟨hx, hb, hml, hown, hts⟩ (c_copyS_l l dC dI kA adK adV G s.heap nC nS b2 b5 hT hg3 hg6 (by omega) (by omega)) (cwV 1 hts (goodIn_app (goodIn_r _ [23, 24, 25, 26] rfl (by decide +kernel)) (goodIn_ca (goodIn_r _ [2, 3, 4, 5, 6, 7, 8, 9, 10, 11, 12, 13, 14, 15, 16, 17, 18, 19, 20, 21, 22] rfl (by decide +kernel)) (bs2_in _ _))) rfl rfl rfl (by decide +kernel) ⟨(Nat.le_of_ble_eq_true rfl), (Nat.le_of_ble_eq_true rfl)⟩) ⟨fun a U g mk q => by obtain ⟨q0, q1, qK, qE⟩ := q; exact ⟨q0, q1, va_K.moved (u := U) (U := U.calling g mk a) (Vm.Alike.refl U.vm) qK, EVC.blind g mk a qE⟩, gH_rc hK hT hg3 shc_11 rfl, fun U hU hW => ⟨rfl, hU, va_K.moved hW.alike hK, hE.call hS hFc hU hW⟩⟩ rfl rfl hl.1 rfl (lv_room (Nat.le_of_ble_eq_true rfl)) dX3_copyFrom_8 ⟨(Nat.le_of_ble_eq_true rfl), (Nat.le_of_ble_eq_true rfl)⟩) hS (fun q _ h => hFc q h) hFc (fun u t H locs ht hvm hw8 hB _ _ hS => ?_)
  obtain ⟨hT, hF1⟩ := hB
  rw [ht] at hT hF1
  have m9 := (hF1.fld hr_p0 skc_90 (k := 4) (by decide) (by decide)).trans hm_oh
  have m10 := (hF1.fld hr_o0 skc_6 (k := 0) (by decide) (by decide)).trans m1
  have m11 := (hF1.fld hr_p0 skc_90 (k := 0) (by decide) (by decide)).trans m4
  have hF := hF.more hF1 (by decide)
  try dsimp only at hw8
  refine lv_aload_n hx hb dX3_copyFrom_11 rfl (lv_at hl 0 rfl) ?_
  refine tw_get hx hb hts bF2_X3 hown hK hT hr_o0 shc_6 rfl 1 (by decide) (ht_at2 hts 26 rfl) (fun _ h9 => h9) dX3_copyFrom_12 (fun v9 m12 h9 => ?_)
  obtain ⟨b13, rfl, hg14⟩ := h9 _ rfl
  refine lv_aload_n hx hb dX3_copyFrom_15 rfl (lv_at hl 1 rfl) ?_
  refine tw_get hx hb hts bF2_X3 hown hK hT hr_p0 shc_90 rfl 1 (by decide) (ht_at2 hts 26 rfl) (fun _ h9 => h9) dX3_copyFrom_16 (fun v9 m15 h9 => ?_)
  obtain ⟨b16, rfl, hg17⟩ := h9 _ rfl
  have hFc := gA_free hG hA hS
  refine va_callv (va_runV (As := [.ref b16]) (rest := []) ⟨hx, hb, hml, hown, hts⟩ (c_copyG_l l dC dI kA adK adV G H nC nS b13 b16 hT hg14 hg17 (by omega) (by omega)) (cwV 1 hts (goodIn_app (goodIn_r _ [42, 43, 44, 45] rfl (by decide +kernel)) (goodIn_ca (goodIn_r _ [28, 29, 30, 5, 6, 7, 31, 32, 33, 34, 35, 36, 37, 38, 39, 40, 41] rfl (by decide +kernel)) (bs2_in _ _))) rfl rfl rfl (by decide +kernel) ⟨(Nat.le_of_ble_eq_true rfl), (Nat.le_of_ble_eq_true rfl)⟩) ⟨fun a U g mk q => by obtain ⟨q0, q1, qK, qE⟩ := q; exact ⟨q0, q1, va_K.moved (u := U) (U := U.calling g mk a) (Vm.Alike.refl U.vm) qK, EVC.blind g mk a qE⟩, gH_rc hK hT hg14 shc_5 rfl, fun U hU hW => ⟨rfl, hU, va_K.moved hW.alike hK, hE.call hS hFc hU hW⟩⟩ rfl rfl hl.1 rfl (lv_room (Nat.le_of_ble_eq_true rfl)) dX3_copyFrom_19 ⟨(Nat.le_of_ble_eq_true rfl), (Nat.le_of_ble_eq_true rfl)⟩) hS (fun q _ h => hFc q h) hFc (fun u t H locs ht hvm hw19 hB _ _ hS => ?_)
  obtain ⟨hT, hF1⟩ := hB
  rw [ht] at hT hF1
  have m20 := (hF1.fld hr_p0 skc_90 (k := 4) (by decide) (by decide)).trans m9
  have m21 := (hF1.fld hr_o0 skc_6 (k := 0) (by decide) (by decide)).trans m10
  have m22 := (hF1.fld hr_p0 skc_90 (k := 0) (by decide) (by decide)).trans m11
  have m23 := (hF1.fld hr_o0 skc_6 (k := 1) (by decide) (by decide)).trans m12
  have m24 := (hF1.fld hr_p0 skc_90 (k := 1) (by decide) (by decide)).trans m15
  have hF := hF.more hF1 (by decide)
  try dsimp only at hw19
  refine lv_iconst (v := 0) hx hb dX3_copyFrom_22 (by decide) ?_
  refine lv_istore_n (lv' := [(2, .int 0), (0, .ref o0), (1, .ref p0)]) hx hb dX3_copyFrom_23 rfl hl (by decide) rfl (fun ls hl => ?_)
  have jn118 : ∀ (z108 : Int32), ∀ (z115 : Int32), ((0 ≤ z108.toInt ∧ z108.toInt ≤ 30) ∧ (0 ≤ z115.toInt ∧ z115.toInt ≤ 30)) → ∀ (H : Heap) (locs : List Loc), gH (dC, dI) kA (SHc nC nS) G H → gF (dC, dI) SKc G ([(5, 11), (5, 12), (5, 13), (5, 14), (6, 3), (6, 4), (11, 6), (12, 2), (13, 2), (13, 3), (13, 4), (13, 5), (13, 6), (13, 7), (13, 8), (13, 9), (13, 10), (13, 11), (19, 0), (20, 0), (21, 0), (22, 0), (23, 0), (24, 0), (25, 0), (26, 0), (27, 0), (28, 0), (29, 0), (30, 0), (31, 0), (32, 0), (36, 0), (37, 0)] : List (Nat × Nat)) s.heap H → va_S A s.heap H locs → el H p0 (dI 6 4) = some (.int oh) → el H o0 (dI 6 0) = some (.ref b2) → el H p0 (dI 6 0) = some (.ref b5) → el H o0 (dI 6 1) = some (.ref b13) → el H p0 (dI 6 1) = some (.ref b16) → el H p0 (dI 6 3) = some (.int z115) → ∀ ls : Array Slot, lv_has ls 3 [(2, .int z108), (0, .ref o0), (1, .ref p0)] → W p l e (headSpec w_c_copyL_lE ({ frames := 4, cells := 0, slots := 0, locals := 102 })).room s m #[.ref o0, .ref p0] below meth c H locs 0 0 (MQ below (va_Qv (fun (u : Int32) => (u.toInt = oh.toInt)) (fun (h1 : Int32) (t : State) => gH (dC, dI) kA (SHc nC nS) G t.heap ∧ gF (dC, dI) SKc G ([(5, 11), (5, 12), (5, 13), (5, 14), (6, 3), (6, 4), (11, 6), (12, 2), (13, 2), (13, 3), (13, 4), (13, 5), (13, 6), (13, 7), (13, 8), (13, 9), (13, 10), (13, 11), (19, 0), (20, 0), (21, 0), (22, 0), (23, 0), (24, 0), (25, 0), (26, 0), (27, 0), (28, 0), (29, 0), (30, 0), (31, 0), (32, 0), (36, 0), (37, 0)] : List (Nat × Nat)) s.heap t.heap ∧ el t.heap o0 (dI 6 4) = some (.int h1)) A) #[.ref o0, .ref p0] s 0 0 A) (F0 m 53 ls []) := by
    intro z108 z115 ⟨h109, h116⟩ H locs hT hF hS m110 m111 m112 m113 m114 m117 ls hl
    refine lv_aload_n hx hb dX3_copyFrom_53 rfl (lv_at hl 1 rfl) ?_
    refine lv_aload_n hx hb dX3_copyFrom_54 rfl (lv_at hl 2 rfl) ?_
    refine tw_getM (v := .int z115) hx hb hts bF2_X3 hown hK hT hr_p0 shc_90 rfl 3 (by decide) (ht_at2 hts 45 rfl) (fun _ h9 => h9) m117 dX3_copyFrom_55 ?_
    refine tw_put (v := .int z115) (ty := .int) hx hb hts bF2_X3 tyX3 tyX3_ok nmX3 hown hK hT hG hS hr_o0 shc_6 rfl 3 (by decide) (ht_at2 hts 45 rfl) (fun _ h9 => h9) rfl (by decide +kernel) rfl rfl (gl_at rfl (gi_of (show z115.toInt = z115.toInt from rfl) (by omega) (by omega))) dX3_copyFrom_58 (fun H locs hT oq m119 oj hS => ?_)
    have hF := hF.put hr_o0 skc_6 oq oj (by decide)
    have m120 := (el_kept (oq _ (gne hr_p0 hr_o0 (by decide)))).trans m110
    refine lv_aload_n hx hb dX3_copyFrom_61 rfl (lv_at hl 1 rfl) ?_
    refine lv_aload_n hx hb dX3_copyFrom_62 rfl (lv_at hl 2 rfl) ?_
    refine tw_getM (v := .int oh) hx hb hts bF2_X3 hown hK hT hr_p0 shc_90 rfl 4 (by decide) (ht_at2 hts 46 rfl) (fun _ h9 => h9) m120 dX3_copyFrom_63 ?_
    refine tw_put (v := .int oh) (ty := .int) hx hb hts bF2_X3 tyX3 tyX3_ok nmX3 hown hK hT hG hS hr_o0 shc_6 rfl 4 (by decide) (ht_at2 hts 46 rfl) (fun _ h9 => h9) rfl (by decide +kernel) rfl rfl (gl_at rfl (gi_of (show oh.toInt = oh.toInt from rfl) (by omega) (by omega))) dX3_copyFrom_66 (fun H locs hT oq m126 oj hS => ?_)
    have hF := hF.put hr_o0 skc_6 oq oj (by decide)
    exact W.vret hx hb hr (fun t ht hW => ⟨⟨oh, rfl, (by exact (by omega)), by (try dsimp only); rw [ht]; exact ⟨hT, hF, m126⟩⟩, hS.F ht⟩) hS.2.2 dX3_copyFrom_69
  have key134 : ∀ (n134 i25 : Nat), i25 + n134 = 30 → 0 ≤ i25 → ∀ (H : Heap) (locs : List Loc), gH (dC, dI) kA (SHc nC nS) G H → gF (dC, dI) SKc G ([(5, 11), (5, 12), (5, 13), (5, 14), (6, 3), (6, 4), (11, 6), (12, 2), (13, 2), (13, 3), (13, 4), (13, 5), (13, 6), (13, 7), (13, 8), (13, 9), (13, 10), (13, 11), (19, 0), (20, 0), (21, 0), (22, 0), (23, 0), (24, 0), (25, 0), (26, 0), (27, 0), (28, 0), (29, 0), (30, 0), (31, 0), (32, 0), (36, 0), (37, 0)] : List (Nat × Nat)) s.heap H → va_S A s.heap H locs → el H p0 (dI 6 4) = some (.int oh) → el H o0 (dI 6 0) = some (.ref b2) → el H p0 (dI 6 0) = some (.ref b5) → el H o0 (dI 6 1) = some (.ref b13) → el H p0 (dI 6 1) = some (.ref b16) → ∀ ls : Array Slot, lv_has ls 3 [(2, .int (nI i25)), (0, .ref o0), (1, .ref p0)] → W p l e (headSpec w_c_copyL_lE ({ frames := 4, cells := 0, slots := 0, locals := 102 })).room s m #[.ref o0, .ref p0] below meth c H locs 0 0 (MQ below (va_Qv (fun (u : Int32) => (u.toInt = oh.toInt)) (fun (h1 : Int32) (t : State) => gH (dC, dI) kA (SHc nC nS) G t.heap ∧ gF (dC, dI) SKc G ([(5, 11), (5, 12), (5, 13), (5, 14), (6, 3), (6, 4), (11, 6), (12, 2), (13, 2), (13, 3), (13, 4), (13, 5), (13, 6), (13, 7), (13, 8), (13, 9), (13, 10), (13, 11), (19, 0), (20, 0), (21, 0), (22, 0), (23, 0), (24, 0), (25, 0), (26, 0), (27, 0), (28, 0), (29, 0), (30, 0), (31, 0), (32, 0), (36, 0), (37, 0)] : List (Nat × Nat)) s.heap t.heap ∧ el t.heap o0 (dI 6 4) = some (.int h1)) A) #[.ref o0, .ref p0] s 0 0 A) (F0 m 24 ls []) := by
    intro n134
    induction n134 with
    | zero =>
      intro i25 hn134 hlo135  H locs hT hF hS m26 m27 m28 m29 m30 ls hl
      obtain rfl : 30 = i25 := by omega
      refine lv_iload_n hx hb dX3_copyFrom_24 rfl (lv_at hl 0 rfl) ?_
      refine lv_aload_n hx hb dX3_copyFrom_25 rfl (lv_at hl 2 rfl) ?_
      refine tw_get hx hb hts bF2_X3 hown hK hT hr_p0 shc_90 rfl 3 (by decide) (ht_at2 hts 45 rfl) (fun _ h9 => h9) dX3_copyFrom_26 (fun v9 m136 h9 => ?_)
      obtain ⟨x137, rfl, gx137, kx137⟩ := h9 _ rfl
      refine lv_icmp_ge (tgt := 53) hx hb dX3_copyFrom_29 (by decide) (fun c138 => ?_) (fun c138 => (by exfalso; have q9 : ((30 : Nat) : Int) < x137.toInt := ti_nle c138 rfl (nI_toInt (by omega)); omega))
      have t139 : x137.toInt ≤ ((30 : Nat) : Int) := ti_le c138 rfl (nI_toInt (by omega))
      exact jn118 (nI 30) x137 ⟨(rg_t (a := ((30 : Nat) : Int)) (nI_toInt (by omega)) (by omega) (by omega)), (by have q8 := ti_all x137; omega)⟩ _ _ hT hF hS m26 m27 m28 m29 m30 m136 ls (lv_sub hl [0, 1, 2] rfl)
    | succ n134 ih134 =>
      intro i25 hn134 hlo135  H locs hT hF hS m26 m27 m28 m29 m30 ls hl
      have hlt139 : i25 < 30 := by omega
      refine lv_iload_n hx hb dX3_copyFrom_24 rfl (lv_at hl 0 rfl) ?_
      refine lv_aload_n hx hb dX3_copyFrom_25 rfl (lv_at hl 2 rfl) ?_
      refine tw_get hx hb hts bF2_X3 hown hK hT hr_p0 shc_90 rfl 3 (by decide) (ht_at2 hts 45 rfl) (fun _ h9 => h9) dX3_copyFrom_26 (fun v9 m140 h9 => ?_)
      obtain ⟨x141, rfl, gx141, kx141⟩ := h9 _ rfl
      refine lv_icmp_ge (tgt := 53) hx hb dX3_copyFrom_29 (by decide) (fun c142 => ?_) (fun c142 => ?_)
      · have t143 : x141.toInt ≤ ((i25 : Nat) : Int) := ti_le c142 rfl (nI_toInt (by omega))
        exact jn118 (nI i25) x141 ⟨(rg_t (a := ((i25 : Nat) : Int)) (nI_toInt (by omega)) (by omega) (by omega)), (by have q8 := ti_all x141; omega)⟩ _ _ hT hF hS m26 m27 m28 m29 m30 m140 ls (lv_sub hl [0, 1, 2] rfl)
      · have t144 : ((i25 : Nat) : Int) < x141.toInt := ti_nle c142 rfl (nI_toInt (by omega))
        refine lv_aload_n hx hb dX3_copyFrom_32 rfl (lv_at hl 1 rfl) ?_
        refine tw_get hx hb hts bF2_X3 hown hK hT hr_o0 shc_6 rfl 2 (by decide) (ht_at2 hts 47 rfl) (fun _ h9 => h9) dX3_copyFrom_33 (fun v9 m145 h9 => ?_)
        obtain ⟨b146, rfl, hg147⟩ := h9 _ rfl
        refine lv_iload_n hx hb dX3_copyFrom_36 rfl (lv_at hl 0 rfl) ?_
        refine tw_aald (i := (nI i25)) hx hb hK hT hg147 shc_18 rfl (vp_in_nI (by omega) (by decide)) dX3_copyFrom_37 (fun v9 m148 h9 => ?_)
        obtain ⟨b149, rfl, hg150⟩ := h9
        refine lv_aload_n hx hb dX3_copyFrom_38 rfl (lv_at hl 2 rfl) ?_
        refine tw_get hx hb hts bF2_X3 hown hK hT hr_p0 shc_90 rfl 2 (by decide) (ht_at2 hts 47 rfl) (fun _ h9 => h9) dX3_copyFrom_39 (fun v9 m151 h9 => ?_)
        obtain ⟨b152, rfl, hg153⟩ := h9 _ rfl
        refine lv_iload_n hx hb dX3_copyFrom_42 rfl (lv_at hl 0 rfl) ?_
        refine tw_aald (i := (nI i25)) hx hb hK hT hg153 shc_70 rfl (vp_in_nI (by omega) (by decide)) dX3_copyFrom_43 (fun v9 m154 h9 => ?_)
        obtain ⟨b155, rfl, hg156⟩ := h9
        have hFc := gA_free hG hA hS
        refine va_callv (va_runV (As := [.ref b155]) (rest := []) ⟨hx, hb, hml, hown, hts⟩ (c_copyW_l l dC dI kA adK adV G H nC nS b149 b155 hT hg150 hg156 (by omega) (by omega)) (cwV 1 hts (goodIn_app (goodIn_r _ [63, 64, 65, 66] rfl (by decide +kernel)) (goodIn_ca (goodIn_r _ [49, 50, 51, 5, 6, 7, 52, 53, 54, 55, 56, 57, 58, 59, 60, 61, 62] rfl (by decide +kernel)) (bs2_in _ _))) rfl rfl rfl (by decide +kernel) ⟨(Nat.le_of_ble_eq_true rfl), (Nat.le_of_ble_eq_true rfl)⟩) ⟨fun a U g mk q => by obtain ⟨q0, q1, qK, qE⟩ := q; exact ⟨q0, q1, va_K.moved (u := U) (U := U.calling g mk a) (Vm.Alike.refl U.vm) qK, EVC.blind g mk a qE⟩, gH_rc hK hT hg150 shc_13 rfl, fun U hU hW => ⟨rfl, hU, va_K.moved hW.alike hK, hE.call hS hFc hU hW⟩⟩ rfl rfl hl.1 rfl (lv_room (Nat.le_of_ble_eq_true rfl)) dX3_copyFrom_44 ⟨(Nat.le_of_ble_eq_true rfl), (Nat.le_of_ble_eq_true rfl)⟩) hS (fun q _ h => hFc q h) hFc (fun u t H locs ht hvm hw158 hB _ _ hS => ?_)
        obtain ⟨hT, hF1⟩ := hB
        rw [ht] at hT hF1
        have m159 := (hF1.fld hr_p0 skc_90 (k := 4) (by decide) (by decide)).trans m26
        have m160 := (hF1.fld hr_o0 skc_6 (k := 0) (by decide) (by decide)).trans m27
        have m161 := (hF1.fld hr_p0 skc_90 (k := 0) (by decide) (by decide)).trans m28
        have m162 := (hF1.fld hr_o0 skc_6 (k := 1) (by decide) (by decide)).trans m29
        have m163 := (hF1.fld hr_p0 skc_90 (k := 1) (by decide) (by decide)).trans m30
        have hF := hF.more hF1 (by decide)
        try dsimp only at hw158
        refine lv_iinc (v := nI (i25 + 1)) (lv' := [(2, .int (nI (i25 + 1))), (0, .ref o0), (1, .ref p0)]) hx hb dX3_copyFrom_47 hl (k := 0) rfl (nI_add i25 1) (by decide) rfl (fun ls hl => ?_)
        refine lv_goto (tgt := 24) hx hb dX3_copyFrom_50 (by decide) ?_
        exact ih134 (i25 + 1) (by omega) (by omega) _ _ hT hF hS m159 m160 m161 m162 m163 ls (lv_sub hl [0, 1, 2] rfl)
  exact key134 (30 - 0) 0 (by omega) (Nat.le_refl _) _ _ hT hF hS m20 m21 m22 m23 m24 ls (lv_sub hl [0, 1, 2] rfl)
def w_c_backE : List Cond := .code yX11_back cX11_back 1 (some .boolean) :: (HAppend.hAppend (α := List Cond) (β := List Cond) (γ := List Cond) [.fieldLink RX11 505 "SeaLand" "image" "LSeaLand$Lake;", .fieldLink RX11 16 "SeaLand" "lake" "LSeaLand$Lake;", .code yX3_copyFrom cX3_copyFrom 3 none, .fieldLink RX3 12 "SeaLand$Lake" "sky" "LSeaLand$Sky;", .code yX8_copyFrom cX8_copyFrom 2 none, .fieldLink RX8 9 "SeaLand$Sky" "tides" "[I", .methodLink RX8 63 arraycopyName, .native arraycopyName, .static arraycopyName, .initialized "java/lang/System", .fieldLink RX8 15 "SeaLand$Sky" "stormFrom" "[I", .fieldLink RX8 18 "SeaLand$Sky" "stormTo" "[I", .fieldLink RX8 21 "SeaLand$Sky" "stormMore" "[I", .fieldLink RX8 27 "SeaLand$Sky" "wind" "LSeaLand$Tellings;", .code yX9_copyFrom cX9_copyFrom 2 none, .fieldLink RX9 9 "SeaLand$Tellings" "hours" "[I", .methodLink RX9 23 arraycopyName, .fieldLink RX9 15 "SeaLand$Tellings" "numbers" "[I", .fieldLink RX9 18 "SeaLand$Tellings" "told" "I", .methodLink RX8 69 yX9_copyFrom, .instanceMethod yX9_copyFrom, .selects RX9 yX9_copyFrom yX9_copyFrom, .initialized RX9, .fieldLink RX8 31 "SeaLand$Sky" "rain" "LSeaLand$Tellings;", .fieldLink RX8 34 "SeaLand$Sky" "storms" "I", .methodLink RX3 175 yX8_copyFrom, .instanceMethod yX8_copyFrom, .selects RX8 yX8_copyFrom yX8_copyFrom, .initialized RX8, .fieldLink RX3 21 "SeaLand$Lake" "ground" "LSeaLand$Ground;", .code yX2_copyFrom cX2_copyFrom 2 none, .fieldLink RX2 9 "SeaLand$Ground" "isLand" "[Z", .methodLink RX2 95 arraycopyName, .fieldLink RX2 15 "SeaLand$Ground" "height" "[I", .fieldLink RX2 19 "SeaLand$Ground" "soil" "[I", .fieldLink RX2 22 "SeaLand$Ground" "ditch" "[I", .fieldLink RX2 25 "SeaLand$Ground" "water" "[I", .fieldLink RX2 28 "SeaLand$Ground" "salt" "[I", .fieldLink RX2 31 "SeaLand$Ground" "dry" "[I", .fieldLink RX2 34 "SeaLand$Ground" "wet" "[I", .fieldLink RX2 54 "SeaLand$Ground" "rained" "I", .fieldLink RX2 57 "SeaLand$Ground" "cameIn" "I", .fieldLink RX2 64 "SeaLand$Ground" "wentOut" "I", .fieldLink RX2 50 "SeaLand$Ground" "toldMore" "I", .methodLink RX3 179 yX2_copyFrom, .instanceMethod yX2_copyFrom, .selects RX2 yX2_copyFrom yX2_copyFrom, .initialized RX2, .fieldLink RX3 47 "SeaLand$Lake" "built" "I", .fieldLink RX3 32 "SeaLand$Lake" "hour" "I", .fieldLink RX3 27 "SeaLand$Lake" "works" "[LSeaLand$Work;", .code yX10_copyFrom cX10_copyFrom 2 none, .fieldLink RX10 9 "SeaLand$Work" "thick" "[I", .methodLink RX10 60 arraycopyName, .fieldLink RX10 15 "SeaLand$Work" "clay" "[I", .fieldLink RX10 18 "SeaLand$Work" "kind" "I", .fieldLink RX10 22 "SeaLand$Work" "square" "I", .fieldLink RX10 25 "SeaLand$Work" "to" "I", .fieldLink RX10 28 "SeaLand$Work" "size" "I", .fieldLink RX10 31 "SeaLand$Work" "width" "I", .fieldLink RX10 34 "SeaLand$Work" "layers" "I", .fieldLink RX10 37 "SeaLand$Work" "coal" "I", .fieldLink RX10 40 "SeaLand$Work" "on" "Z", .fieldLink RX10 44 "SeaLand$Work" "latest" "I", .fieldLink RX10 47 "SeaLand$Work" "total" "I", .methodLink RX3 182 yX10_copyFrom, .instanceMethod yX10_copyFrom, .selects RX10 yX10_copyFrom yX10_copyFrom, .initialized RX10, .methodLink RX11 508 yX3_copyFrom, .instanceMethod yX3_copyFrom, .selects RX3 yX3_copyFrom yX3_copyFrom, .initialized RX3, .fieldLink RX11 23 "SeaLand" "rows" "LSeaLand$Rows;", .code yX6_forget cX6_forget 1 none, .fieldLink RX6 18 "SeaLand$Rows" "kept" "I", .fieldLink RX6 22 "SeaLand$Rows" "oldest" "I", .methodLink RX11 76 yX6_forget, .instanceMethod yX6_forget, .selects RX6 yX6_forget yX6_forget, .initialized RX6] bs2)
set_option maxHeartbeats 4000000 in
set_option maxRecDepth 100000 in
theorem c_backE (l : Launch) (dC : Nat → ClassId) (dI : Nat → Nat → Nat) (kA : Nat → ClassId) (adK adV : Nat → Nat) (G : gT) (H0 : Heap) (nC nS : Int) (o0 : Nat) (lk : Nat) (ho : Int32) (vh im : Int) (hT : gH (dC, dI) kA (SHc nC nS) G H0) (hr_o0 : G o0 = some 14) (hm_lk : el H0 o0 (dI 14 1) = some (.ref lk)) (hr_lk : G lk = some 6) (hm_ho : el H0 lk (dI 6 4) = some (.int ho)) (hq0 : 0 ≤ ho.toInt ∧ ho.toInt ≤ 40000) (hV : ∀ b, el H0 o0 (dI 14 6) = some (.ref b) → im = 1 ∧ ∃ v : Int32, el H0 b (dI 6 4) = some (.int v) ∧ v.toInt = vh ∧ (0 ≤ v.toInt ∧ v.toInt ≤ 40000)) (hN0 : el H0 o0 (dI 14 6) = some .null → im = 0) (hgC : 0 ≤ nC ∧ nC ≤ 40) (hgS : 0 ≤ nS ∧ nS ≤ 60) : Met l yX11_back w_c_backE ({ frames := 5, cells := 0, slots := 0, locals := 124 }) (va_Pc [.ref o0] (fun U => U.heap = H0 ∧ va_K (dC, dI) vwCl (tyl kA) U ∧ EVC adK adV (gA G H0.size) U U.heap)) (va_Qi (fun (r : Int32) (u : Int32) => (0 ≤ r.toInt ∧ r.toInt ≤ 1) ∧ ((im = 1 ∧ vh ≤ ho.toInt ∧ r.toInt = 1 ∧ u.toInt = vh) ∨ ((im = 0 ∨ ho.toInt < vh) ∧ r.toInt = 0 ∧ u.toInt = ho.toInt))) (fun (h1 : Int32) (t : State) => gH (dC, dI) kA (SHc nC nS) G t.heap ∧ gF (dC, dI) SKc G ([(5, 11), (5, 12), (5, 13), (5, 14), (6, 3), (6, 4), (9, 2), (9, 3), (11, 6), (12, 2), (13, 2), (13, 3), (13, 4), (13, 5), (13, 6), (13, 7), (13, 8), (13, 9), (13, 10), (13, 11), (19, 0), (20, 0), (21, 0), (22, 0), (23, 0), (24, 0), (25, 0), (26, 0), (27, 0), (28, 0), (29, 0), (30, 0), (31, 0), (32, 0), (36, 0), (37, 0)] : List (Nat × Nat)) H0 t.heap ∧ el t.heap lk (dI 6 4) = some (.int h1)) (gA G H0.size)) 0 0 (gA G H0.size) := by
  refine Met.ofW (cc := cX11_back) (maxL := 1) (ret := (some .boolean)) (by decide) rfl ?_
  intro p e s m args below meth c s₁ B hml hv
  obtain ⟨rfl, hH0, hK, hE⟩ := hv
  have hx := B.exec
  have hb := B.bytes
  have hr := B.returns
  have hts := atoms_spec (ws := w_c_backE) B.pre
  have hown : s.vm.findClass RX11 = some m.cls := findClass_of_methodNamed B.named
  have hlocks := B.notSynchronized
  subst hH0
  generalize hAe : gA G s.heap.size = A at hE ⊢
  have hA : ∀ q : Nat, s.heap.size ≤ q → A q := fun q h => by rw [← hAe]; exact Or.inr h
  have hG := gA_of hAe
  have hS : va_S A s.heap s.heap [] := va_S.rf
  have hF : gF (dC, dI) SKc G ([(5, 11), (5, 12), (5, 13), (5, 14), (6, 3), (6, 4), (9, 2), (9, 3), (11, 6), (12, 2), (13, 2), (13, 3), (13, 4), (13, 5), (13, 6), (13, 7), (13, 8), (13, 9), (13, 10), (13, 11), (19, 0), (20, 0), (21, 0), (22, 0), (23, 0), (24, 0), (25, 0), (26, 0), (27, 0), (28, 0), (29, 0), (30, 0), (31, 0), (32, 0), (36, 0), (37, 0)] : List (Nat × Nat)) s.heap s.heap := gF.rf
  have hl := lv_entry ([.ref o0]) (n := 1) (Nat.le_of_ble_eq_true rfl)
  rw [lg_entry_eq]
  generalize (lg_sl ([.ref o0]) ++ List.replicate (1 - (lg_sl ([.ref o0])).length) Slot.unset).toArray = ls at hl ⊢
  have hl : lv_has ls 1 [(0, .ref o0)] := hl
  refine lv_aload_n hx hb dX11_back_0 rfl (lv_at hl 0 rfl) ?_
  refine tw_get hx hb hts bF2_X11 hown hK hT hr_o0 shc_14 rfl 6 (by decide) (ht_at2 hts 0 rfl) (fun _ h9 => h9) dX11_back_1 (fun v9 m1 h9 => ?_)
  obtain ⟨r9, rfl, hn9⟩ := h9 _ rfl
  rcases r9 with _ | b2
  · refine W.eq (g2 := F0 m 4 ls [.null]) rfl ?_
    have hi9 := hN0 m1
    refine lv_ifnullN (tgt := 24) hx hb dX11_back_4 (by decide) ?_
    refine lv_iconst (v := 0) hx hb dX11_back_24 (by decide) ?_
    exact W.zret (v := 0) hx hb hr (by decide) (fun t ht hW => ⟨⟨0, ho, rfl, (by exact ⟨(rg_t (a := 0) (by decide) (by first | decide | omega) (by first | decide | omega)), (by have : (0 : Int32).toInt = 0 := (by decide); omega)⟩), by (try dsimp only); rw [ht]; exact ⟨hT, hF, hm_ho⟩⟩, hS.F ht⟩) hS.2.2 dX11_back_25
  · refine W.eq (g2 := F0 m 4 ls [.ref b2]) rfl ?_
    have hg3 := hn9 b2 rfl
    obtain ⟨hi9, v9, hm9, hv9, hr9⟩ := hV _ m1
    refine lv_ifnull hx hb dX11_back_4 ?_
    refine lv_aload_n hx hb dX11_back_7 rfl (lv_at hl 0 rfl) ?_
    refine tw_getM (v := .ref b2) hx hb hts bF2_X11 hown hK hT hr_o0 shc_14 rfl 6 (by decide) (ht_at2 hts 0 rfl) (fun _ h9 => h9) m1 dX11_back_8 ?_
    refine tw_getNM (v := .int v9) hx hb hts bF2_X3 hown hK hT hg3 shc_90 rfl 4 (by decide) (hE.nw 0 rfl) (fun _ h9 => h9) hm9 dX11_back_11 ?_
    refine lv_aload_n hx hb dX11_back_14 rfl (lv_at hl 0 rfl) ?_
    refine tw_getM (v := .ref lk) hx hb hts bF2_X11 hown hK hT hr_o0 shc_14 rfl 1 (by decide) (ht_at2 hts 1 rfl) (fun _ h9 => h9) hm_lk dX11_back_15 ?_
    refine tw_getNM (v := .int ho) hx hb hts bF2_X3 hown hK hT hr_lk shc_6 rfl 4 (by decide) (hE.nw 0 rfl) (fun _ h9 => h9) hm_ho dX11_back_18 ?_
    refine lv_icmp_le (tgt := 26) hx hb dX11_back_21 (by decide) (fun c4 => ?_) (fun c4 => ?_)
    · have t5 : v9.toInt ≤ ho.toInt := ti_le c4 rfl rfl
      refine lv_aload_n hx hb dX11_back_26 rfl (lv_at hl 0 rfl) ?_
      refine tw_getM (v := .ref lk) hx hb hts bF2_X11 hown hK hT hr_o0 shc_14 rfl 1 (by decide) (ht_at2 hts 1 rfl) (fun _ h9 => h9) hm_lk dX11_back_27 ?_
      refine lv_aload_n hx hb dX11_back_30 rfl (lv_at hl 0 rfl) ?_
      refine tw_getM (v := .ref b2) hx hb hts bF2_X11 hown hK hT hr_o0 shc_14 rfl 6 (by decide) (ht_at2 hts 0 rfl) (fun _ h9 => h9) m1 dX11_back_31 ?_
      have hFc := gA_free hG hA hS
      refine va_callv (va_runV (As := [.ref b2]) (rest := []) ⟨hx, hb, hml, hown, hts⟩ (c_copyL_lE l dC dI kA adK adV G s.heap nC nS lk b2 v9 hT hr_lk hg3 hm9 (by have q8 := ti_all v9; omega) (by omega) (by omega)) (cwV 1 hts (goodIn_app (goodIn_r _ [70, 71, 72, 73] rfl (by decide +kernel)) (goodIn_ca (goodIn_r _ [3, 4, 5, 6, 7, 8, 9, 10, 11, 12, 13, 14, 15, 16, 17, 18, 19, 20, 21, 22, 23, 24, 25, 26, 27, 28, 29, 30, 31, 32, 33, 34, 35, 36, 37, 38, 39, 40, 41, 42, 43, 44, 45, 46, 47, 48, 49, 50, 51, 52, 53, 54, 55, 56, 57, 58, 59, 60, 61, 62, 63, 64, 65, 66, 67, 68, 69] rfl (by decide +kernel)) (bs2_in _ _))) rfl rfl rfl (by decide +kernel) ⟨(Nat.le_of_ble_eq_true rfl), (Nat.le_of_ble_eq_true rfl)⟩) ⟨fun a U g mk q => by obtain ⟨q0, q1, qK, qE⟩ := q; exact ⟨q0, q1, va_K.moved (u := U) (U := U.calling g mk a) (Vm.Alike.refl U.vm) qK, EVC.blind g mk a qE⟩, gH_rc hK hT hr_lk shc_6 rfl, fun U hU hW => ⟨rfl, hU, va_K.moved hW.alike hK, hE.call hS hFc hU hW⟩⟩ rfl rfl hl.1 rfl (lv_room (Nat.le_of_ble_eq_true rfl)) dX11_back_34 ⟨(Nat.le_of_ble_eq_true rfl), (Nat.le_of_ble_eq_true rfl)⟩) hS (fun q _ h => hFc q h) hFc (fun u t H locs ht hvm hw7 hB _ _ hS => ?_)
      obtain ⟨u8, rfl⟩ : ∃ z, z = u := ⟨_, rfl⟩
      obtain ⟨hT, hF1, m9⟩ := hB
      rw [ht] at hT hF1 m9
      have hF := hF.more hF1 (by decide)
      try dsimp only at hw7
      have hf14 := hw7
      refine lv_aload_n hx hb dX11_back_37 rfl (lv_at hl 0 rfl) ?_
      refine tw_get hx hb hts bF2_X11 hown hK hT hr_o0 shc_14 rfl 2 (by decide) (ht_at2 hts 73 rfl) (fun _ h9 => h9) dX11_back_38 (fun v9 m15 h9 => ?_)
      obtain ⟨b16, rfl, hg17⟩ := h9 _ rfl
      have hFc := gA_free hG hA hS
      refine va_callv (va_runV (As := []) (rest := []) ⟨hx, hb, hml, hown, hts⟩ (c_forget l dC dI kA adK adV G H nC nS b16 hT hg17 (by omega) (by omega)) (cwV 0 hts (goodIn_app (goodIn_r _ [78, 79, 80, 81] rfl (by decide +kernel)) (goodIn_ca (goodIn_r _ [75, 76, 77] rfl (by decide +kernel)) (bs2_in _ _))) rfl rfl rfl (by decide +kernel) ⟨(Nat.le_of_ble_eq_true rfl), (Nat.le_of_ble_eq_true rfl)⟩) ⟨fun a U g mk q => by obtain ⟨q0, q1, qK, qE⟩ := q; exact ⟨q0, q1, va_K.moved (u := U) (U := U.calling g mk a) (Vm.Alike.refl U.vm) qK, EVC.blind g mk a qE⟩, gH_rc hK hT hg17 shc_9 rfl, fun U hU hW => ⟨rfl, hU, va_K.moved hW.alike hK, hE.call hS hFc hU hW⟩⟩ rfl rfl hl.1 rfl (lv_room (Nat.le_of_ble_eq_true rfl)) dX11_back_41 ⟨(Nat.le_of_ble_eq_true rfl), (Nat.le_of_ble_eq_true rfl)⟩) hS (fun q _ h => hFc q h) hFc (fun u t H locs ht hvm hw19 hB _ _ hS => ?_)
      obtain ⟨hT, hF1⟩ := hB
      rw [ht] at hT hF1
      have m23 := (hF1.fld hr_lk skc_6 (k := 4) (by decide) (by decide)).trans m9
      have hF := hF.more hF1 (by decide)
      try dsimp only at hw19
      refine lv_iconst (v := 1) hx hb dX11_back_44 (by decide) ?_
      exact W.zret (v := 1) hx hb hr (by decide) (fun t ht hW => ⟨⟨1, u8, rfl, (by exact ⟨(rg_t (a := 1) (by decide) (by first | decide | omega) (by first | decide | omega)), (by have : (1 : Int32).toInt = 1 := (by decide); omega)⟩), by (try dsimp only); rw [ht]; exact ⟨hT, hF, m23⟩⟩, hS.F ht⟩) hS.2.2 dX11_back_45
    · have t25 : ho.toInt < v9.toInt := ti_nle c4 rfl rfl
      refine lv_iconst (v := 0) hx hb dX11_back_24 (by decide) ?_
      exact W.zret (v := 0) hx hb hr (by decide) (fun t ht hW => ⟨⟨0, ho, rfl, (by exact ⟨(rg_t (a := 0) (by decide) (by first | decide | omega) (by first | decide | omega)), (by have : (0 : Int32).toInt = 0 := (by decide); omega)⟩), by (try dsimp only); rw [ht]; exact ⟨hT, hF, hm_ho⟩⟩, hS.F ht⟩) hS.2.2 dX11_back_25
