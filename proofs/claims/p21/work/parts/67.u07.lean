set_option maxHeartbeats 4000000 in
set_option maxRecDepth 100000 in
theorem c_sowC (l : Launch) (hlt : l.stackTraces = false) (dC : Nat → ClassId) (dI : Nat → Nat → Nat) (kA : Nat → ClassId) (adK adV : Nat → Nat) (G : gT) (H0 : Heap) (nC nS : Int) (o0 : Nat) (p0 : Int32) (p1 : Int32) (bd : Nat) (nf : Int32) (cr : Nat) (VK : Nat → Int32)  (hT : gH (dC, dI) kA (SHc nC nS) G H0) (hr_o0 : G o0 = some 14) (hm_bd : el H0 o0 (dI 14 3) = some (.ref bd)) (hr_bd : G bd = some 3) (hm_nf : el H0 bd (dI 3 16) = some (.int nf)) (hm_cr : el H0 bd (dI 3 2) = some (.ref cr)) (hr_cr : G cr = some 53) (hq0 : 0 ≤ nf.toInt ∧ nf.toInt ≤ 30) (hc_VK : ct H0 cr 30 VK) (hgC : 0 ≤ nC ∧ nC ≤ 40) (hgS : 0 ≤ nS ∧ nS ≤ 60) : vx_Met l yX11_sow w_c_sowC ({ frames := 7, cells := 2, slots := 12, locals := 121 }) (va_Pc [.ref o0, .int p0, .int p1] (fun U => U.heap = H0 ∧ va_K (dC, dI) vwCl (tyl kA) U ∧ EVC adK adV (gA G H0.size) U U.heap)) (va_Qi (fun (r : Int32) (u : Unit) => (0 ≤ r.toInt ∧ r.toInt ≤ 1) ∧ (soC nf.toInt p0.toInt p1.toInt = 0) ∧ ((r.toInt = 0 ∧ (VK p0.toNatClampNeg).toInt = p1.toInt) ∨ (r.toInt = 1 ∧ (VK p0.toNatClampNeg).toInt ≠ p1.toInt))) (fun (_ : Unit) (t : State) => gH (dC, dI) kA (SHc nC nS) G t.heap ∧ gF (dC, dI) SKc G ([(53, 0)] : List (Nat × Nat)) H0 t.heap ∧ ct t.heap cr 30 (cu VK p0.toNatClampNeg p1)) (gA G H0.size)) (vx_X (fun _ : Unit => True) (fun E _ t => (E = "java/lang/IllegalArgumentException" ∨ E = "java/lang/IndexOutOfBoundsException") ∧ ((E = "java/lang/IllegalArgumentException" ∧ soC nf.toInt p0.toInt p1.toInt = 2) ∨ (E = "java/lang/IndexOutOfBoundsException" ∧ soC nf.toInt p0.toInt p1.toInt = 1)) ∧ gH (dC, dI) kA (SHc nC nS) G t.heap ∧ gF (dC, dI) SKc G ([(53, 0)] : List (Nat × Nat)) H0 t.heap ∧ ct t.heap cr 30 VK) (gA G H0.size)) 2 12 (gA G H0.size) := by
  refine vx_ofW (cc := cX11_sow) (maxL := 4) (ret := (some .boolean)) (by decide) rfl ?_
  intro p e s m args below meth c s₁ B hml hnt hv
  obtain ⟨rfl, hH0, hK, hE⟩ := hv
  have hx := B.exec
  have hb := B.bytes
  have hr := B.returns
  have hts := atoms_spec (ws := w_c_sowC) B.pre
  have hown : s.vm.findClass RX11 = some m.cls := findClass_of_methodNamed B.named
  have hlocks := B.notSynchronized
  subst hH0
  generalize hAe : gA G s.heap.size = A at hE ⊢
  have hA : ∀ q : Nat, s.heap.size ≤ q → A q := fun q h => by rw [← hAe]; exact Or.inr h
  have hG := gA_of hAe
  have hS : va_S A s.heap s.heap [] := va_S.rf
  have hF : gF (dC, dI) SKc G ([(53, 0)] : List (Nat × Nat)) s.heap s.heap := gF.rf
  have hl := lv_entry ([.ref o0, .int p0, .int p1]) (n := 4) (Nat.le_of_ble_eq_true rfl)
  rw [lg_entry_eq]
  generalize (lg_sl ([.ref o0, .int p0, .int p1]) ++ List.replicate (4 - (lg_sl ([.ref o0, .int p0, .int p1])).length) Slot.unset).toArray = ls at hl ⊢
  have hl : lv_has ls 4 [(0, .ref o0), (1, .int p0), (2, .int p1)] := hl
  refine lv_aload_n hx hb dX11_sow_0 rfl (lv_at hl 0 rfl) ?_
  refine lv_iload_n hx hb dX11_sow_1 rfl (lv_at hl 1 rfl) ?_
  have hFc := gA_free hG hA hS
  refine vx_callv (vx_runV (As := [.int p0]) (rest := []) ⟨hx, hb, hml, hown, hts⟩ (c_needFarmE l hlt dC dI kA adK adV G s.heap nC nS o0 p0 bd nf hT hr_o0 hm_bd hr_bd hm_nf (by have q8 := ti_all nf; omega) (by omega) (by omega)) (cwV 1 hts (goodIn_app (goodIn_r _ [9, 10, 11, 6] rfl (by decide +kernel)) (goodIn_ca (goodIn_r _ [1, 2, 3, 4, 5, 6, 7, 8] rfl (by decide +kernel)) (bs2_in _ _))) rfl rfl rfl (by decide +kernel) ⟨(Nat.le_of_ble_eq_true rfl), (Nat.le_of_ble_eq_true rfl)⟩) ⟨fun a U g mk q => by obtain ⟨q0, q1, qK, qE⟩ := q; exact ⟨q0, q1, va_K.moved (u := U) (U := U.calling g mk a) (Vm.Alike.refl U.vm) qK, EVC.blind g mk a qE⟩, gH_rc hK hT hr_o0 shc_14 rfl, fun U hU hW => ⟨rfl, hU, va_K.moved hW.alike hK, hE.call hS hFc hU hW⟩⟩ rfl rfl hl.1 rfl (lv_room (Nat.le_of_ble_eq_true rfl)) dX11_sow_2 ⟨(Nat.le_of_ble_eq_true rfl), (Nat.le_of_ble_eq_true rfl)⟩) hS (fun q _ h => hFc q h) hFc (fun q _ h => hFc q h) (fun E ce q9 u t H locs ht hvm _ hw2 _ _ hS hce hcv hcl => ?_) (fun u t H locs ht hvm hw2 hB _ _ hS => ?_)
  · obtain ⟨hw2, hxf, hTx, hFx⟩ := hw2; rw [ht] at hTx hFx
    exact vx_out (fun x h => (hnt x h).elim) hlocks hce hcv hcl (fun t2 h2 hW => ⟨(), trivial, ⟨((fun h9 => (Or.inr h9)) hw2), (Or.inr (⟨hw2, (by have := soC_s nf.toInt p0.toInt p1.toInt; first | omega | exact hxf.elim)⟩)), by rw [h2]; exact hTx, by rw [h2]; exact hF.more hFx (by decide), by rw [h2]; exact hc_VK.kept (hFx.arr hr_cr skc_53 (by decide))⟩, hS.F h2⟩) hS.2.2 (by decide) (by decide)
  · obtain ⟨hT, hF1⟩ := hB
    rw [ht] at hT hF1
    have m3 := (hF1.fld hr_o0 skc_14 (k := 3) (by decide) (by decide)).trans hm_bd
    have m5 := (hF1.fld hr_bd skc_3 (k := 2) (by decide) (by decide)).trans hm_cr
    have m6 := hc_VK.kept (hF1.arr hr_cr skc_53 (by decide))
    have hF := hF.more hF1 (by decide)
    try dsimp only at hw2
    have hf7 := hw2
    refine lv_iload_n hx hb dX11_sow_5 rfl (lv_at hl 2 rfl) ?_
    refine lv_iconst (v := 0) hx hb dX11_sow_6 (by decide) ?_
    refine lv_iconst (v := 3) hx hb dX11_sow_7 (by decide) ?_
    have hFc := gA_free hG hA hS
    refine va_calli (va_runS (As := [.int p1, .int 0, .int 3]) (rest := []) ⟨hx, hb, hml, hown, hts⟩ (c_within l dC dI kA adK adV G H nC nS p1 0 3 hT (by omega) (by omega)) (va_cwS 3 hts (goodIn_app (goodIn_r _ [4, 5, 6] rfl (by decide +kernel)) (goodIn_ca (goodIn_r _ [3] rfl (by decide +kernel)) (bs2_in _ _))) rfl rfl rfl (by decide +kernel) ⟨(Nat.le_of_ble_eq_true rfl), (Nat.le_of_ble_eq_true rfl)⟩) ⟨fun a U g mk q => by obtain ⟨q0, q1, qK, qE⟩ := q; exact ⟨q0, q1, va_K.moved (u := U) (U := U.calling g mk a) (Vm.Alike.refl U.vm) qK, EVC.blind g mk a qE⟩, fun U hU hW => ⟨rfl, hU, va_K.moved hW.alike hK, hE.call hS hFc hU hW⟩⟩ rfl rfl hl.1 rfl (lv_room (Nat.le_of_ble_eq_true rfl)) dX11_sow_8 ⟨(Nat.le_of_ble_eq_true rfl), (Nat.le_of_ble_eq_true rfl)⟩) hS (fun q _ h => hFc q h) hFc (fun r8 u t H locs ht hvm hw9 hB _ _ hS => ?_)
    obtain ⟨hT, hF1⟩ := hB
    rw [ht] at hT hF1
    have m10 := (hF1.fld hr_o0 skc_14 (k := 3) (by decide) (by decide)).trans m3
    have m12 := (hF1.fld hr_bd skc_3 (k := 2) (by decide) (by decide)).trans m5
    have m13 := m6.kept (hF1.arr hr_cr skc_53 (by decide))
    have hF := hF.more hF1 (by decide)
    try dsimp only at hw9
    obtain ⟨h14, hi15, hi16⟩ := hw9
    have hb17 : r8 = 0 ∨ r8 = 1 := bit_of ⟨by omega, by omega⟩
    rcases hb17 with rfl | rfl
    · have t18 : (0 : Int32).toInt = 0 := by decide
      have t19 : (3 : Int32).toInt = 3 := by decide
      have t20 : p1.toInt < (0 : Int32).toInt ∨ (3 : Int32).toInt < p1.toInt := hi16 rfl
      have hFc := gA_free hG hA hS
      refine vx_callN (vx_runS (As := [.int 0]) (rest := []) ⟨hx, hb, hml, hown, hts⟩ (c_needNumbers0 l hlt dC dI kA adK adV G H nC nS hT (by omega) (by omega)) (va_cwS 1 hts (goodIn_app (goodIn_r _ [15, 16, 6] rfl (by decide +kernel)) (goodIn_ca (goodIn_r _ [12, 13, 14] rfl (by decide +kernel)) (bs2_in _ _))) rfl rfl rfl (by decide +kernel) ⟨(Nat.le_of_ble_eq_true rfl), (Nat.le_of_ble_eq_true rfl)⟩) ⟨fun a U g mk q => by obtain ⟨q0, q1, qK, qE⟩ := q; exact ⟨q0, q1, va_K.moved (u := U) (U := U.calling g mk a) (Vm.Alike.refl U.vm) qK, EVC.blind g mk a qE⟩, fun U hU hW => ⟨rfl, hU, va_K.moved hW.alike hK, hE.call hS hFc hU hW⟩⟩ rfl rfl hl.1 rfl (lv_room (Nat.le_of_ble_eq_true rfl)) dX11_sow_11 ⟨(Nat.le_of_ble_eq_true rfl), (Nat.le_of_ble_eq_true rfl)⟩) hS hFc (fun q _ h => hFc q h) (fun E ce q9 u t H locs ht hvm _ hw22 _ _ hS hce hcv hcl => ?_)
      obtain ⟨hw22, hTx, hFx⟩ := hw22; rw [ht] at hTx hFx
      exact vx_out (fun x h => (hnt x h).elim) hlocks hce hcv hcl (fun t2 h2 hW => ⟨(), trivial, ⟨((fun h9 => (Or.inl h9)) hw22), (Or.inl ⟨hw22, (by have := soC_s nf.toInt p0.toInt p1.toInt; first | omega | exact hxf.elim)⟩), by rw [h2]; exact hTx, by rw [h2]; exact hF.more hFx (by decide), by rw [h2]; exact m13.kept (hFx.arr hr_cr skc_53 (by decide))⟩, hS.F h2⟩) hS.2.2 (by decide) (by decide)
    · have t23 : (0 : Int32).toInt = 0 := by decide
      have t24 : (3 : Int32).toInt = 3 := by decide
      have t25 : (0 : Int32).toInt ≤ p1.toInt ∧ p1.toInt ≤ (3 : Int32).toInt := hi15 rfl
      have hFc := gA_free hG hA hS
      refine vx_callv (vx_runS (As := [.int 1]) (rest := []) ⟨hx, hb, hml, hown, hts⟩ (c_needNumbers1X l hlt dC dI kA adK adV G H nC nS hT (by omega) (by omega)) (va_cwS 1 hts (goodIn_app (goodIn_r _ [15, 16, 6] rfl (by decide +kernel)) (goodIn_ca (goodIn_r _ [12] rfl (by decide +kernel)) (bs2_in _ _))) rfl rfl rfl (by decide +kernel) ⟨(Nat.le_of_ble_eq_true rfl), (Nat.le_of_ble_eq_true rfl)⟩) ⟨fun a U g mk q => by obtain ⟨q0, q1, qK, qE⟩ := q; exact ⟨q0, q1, va_K.moved (u := U) (U := U.calling g mk a) (Vm.Alike.refl U.vm) qK, EVC.blind g mk a qE⟩, fun U hU hW => ⟨rfl, hU, va_K.moved hW.alike hK, hE.call hS hFc hU hW⟩⟩ rfl rfl hl.1 rfl (lv_room (Nat.le_of_ble_eq_true rfl)) dX11_sow_11 ⟨(Nat.le_of_ble_eq_true rfl), (Nat.le_of_ble_eq_true rfl)⟩) hS (fun q _ h => hFc q h) hFc (fun q _ h => hFc q h) (fun E ce q9 u t H locs ht hvm _ hw27 _ _ hS hce hcv hcl => ?_) (fun u t H locs ht hvm hw27 hB _ _ hS => ?_)
      · obtain ⟨hw27, hxf, hTx, hFx⟩ := hw27; rw [ht] at hTx hFx
        exact vx_out (fun x h => (hnt x h).elim) hlocks hce hcv hcl (fun t2 h2 hW => ⟨(), trivial, ⟨((fun h9 => (Or.inl h9)) hw27), (Or.inl ⟨hw27, (by have := soC_s nf.toInt p0.toInt p1.toInt; first | omega | exact hxf.elim)⟩), by rw [h2]; exact hTx, by rw [h2]; exact hF.more hFx (by decide), by rw [h2]; exact m13.kept (hFx.arr hr_cr skc_53 (by decide))⟩, hS.F h2⟩) hS.2.2 (by decide) (by decide)
      · obtain ⟨hT, hF1⟩ := hB
        rw [ht] at hT hF1
        have m28 := (hF1.fld hr_o0 skc_14 (k := 3) (by decide) (by decide)).trans m10
        have m30 := (hF1.fld hr_bd skc_3 (k := 2) (by decide) (by decide)).trans m12
        have m31 := m13.kept (hF1.arr hr_cr skc_53 (by decide))
        have hF := hF.more hF1 (by decide)
        try dsimp only at hw27
        refine lv_aload_n hx hb dX11_sow_14 rfl (lv_at hl 0 rfl) ?_
        refine tw_getM (v := .ref bd) hx hb hts bF2_X11 hown hK hT hr_o0 shc_14 rfl 3 (by decide) (ht_at2 hts 1 rfl) (fun _ h9 => h9) m28 dX11_sow_15 ?_
        refine tw_getNM (v := .ref cr) hx hb hts bF2_X0 hown hK hT hr_bd shc_3 rfl 2 (by decide) (hE.nw 31 rfl) (fun _ h9 => h9) m30 dX11_sow_18 ?_
        refine lv_iload_n hx hb dX11_sow_21 rfl (lv_at hl 1 rfl) ?_
        refine tw_iald (i := p0) hx hb hK hT hr_cr shc_53 rfl (vin_t (a := p0.toInt) rfl (by omega) (by omega)) dX11_sow_22 (fun v9 m32 h9 => ?_)
        obtain ⟨x33, rfl, gx33, kx33⟩ := h9
        have cx33 := m31.at m32 (by have q9 := tn_of (show p0.toInt = p0.toInt from rfl) (by omega); omega)
        refine lv_iload_n hx hb dX11_sow_23 rfl (lv_at hl 2 rfl) ?_
        have t34 : -2147483648 ≤ x33.toInt ∧ x33.toInt ≤ 2147483647 := ti_all x33
        refine lv_icmp_eq (tgt := 31) hx hb dX11_sow_24 (by decide) (fun c35 => ?_) (fun c35 => ?_)
        · have t36 : x33.toInt = p1.toInt := ti_eq c35 rfl rfl
          refine lv_iconst (v := 0) hx hb dX11_sow_31 (by decide) ?_
          refine lv_istore_n (lv' := [(3, .int 0), (0, .ref o0), (1, .int p0), (2, .int p1)]) hx hb dX11_sow_32 rfl hl (by decide) rfl (fun ls hl => ?_)
          refine lv_aload_n hx hb dX11_sow_33 rfl (lv_at hl 1 rfl) ?_
          refine tw_getM (v := .ref bd) hx hb hts bF2_X11 hown hK hT hr_o0 shc_14 rfl 3 (by decide) (ht_at2 hts 1 rfl) (fun _ h9 => h9) m28 dX11_sow_34 ?_
          refine tw_getNM (v := .ref cr) hx hb hts bF2_X0 hown hK hT hr_bd shc_3 rfl 2 (by decide) (hE.nw 31 rfl) (fun _ h9 => h9) m30 dX11_sow_37 ?_
          refine lv_iload_n hx hb dX11_sow_40 rfl (lv_at hl 2 rfl) ?_
          refine lv_iload_n hx hb dX11_sow_41 rfl (lv_at hl 3 rfl) ?_
          refine tw_iast (i := p0) (x := p1) hx hb hK hT hG hS hr_cr shc_53 rfl (vin_t (a := p0.toInt) rfl (by omega) (by omega)) (gi_all _) dX11_sow_42 (fun H locs hT oq m37 oi hS => ?_)
          have hF := hF.ast hr_cr skc_53 oq (by decide)
          have m41 := m31.put m37 oi
          refine lv_iload_n hx hb dX11_sow_43 rfl (lv_at hl 0 rfl) ?_
          refine W.widen (k := 2) (n := 12) (by decide) (by decide) ?_
          exact vx_ret (W.zret (v := 0) hx hb hr (by decide) (fun t ht hW => ⟨⟨0, (), rfl, (by exact ⟨(rg_t (a := 0) (by decide) (by first | decide | omega) (by first | decide | omega)), (by have := soC_s nf.toInt p0.toInt p1.toInt; omega), (by have c9 := congrArg Int32.toInt cx33; have q0 : (0 : Int32).toInt = 0 := (by decide); have q1 : (1 : Int32).toInt = 1 := (by decide); omega)⟩), by (try dsimp only); rw [ht]; exact ⟨hT, hF, m41⟩⟩, hS.F ht⟩) hS.2.2 dX11_sow_44)
        · have t42 : x33.toInt ≠ p1.toInt := ti_ne c35 rfl rfl
          refine lv_iconst (v := 1) hx hb dX11_sow_27 (by decide) ?_
          refine lv_goto (tgt := 32) hx hb dX11_sow_28 (by decide) ?_
          refine lv_istore_n (lv' := [(3, .int 1), (0, .ref o0), (1, .int p0), (2, .int p1)]) hx hb dX11_sow_32 rfl hl (by decide) rfl (fun ls hl => ?_)
          refine lv_aload_n hx hb dX11_sow_33 rfl (lv_at hl 1 rfl) ?_
          refine tw_getM (v := .ref bd) hx hb hts bF2_X11 hown hK hT hr_o0 shc_14 rfl 3 (by decide) (ht_at2 hts 1 rfl) (fun _ h9 => h9) m28 dX11_sow_34 ?_
          refine tw_getNM (v := .ref cr) hx hb hts bF2_X0 hown hK hT hr_bd shc_3 rfl 2 (by decide) (hE.nw 31 rfl) (fun _ h9 => h9) m30 dX11_sow_37 ?_
          refine lv_iload_n hx hb dX11_sow_40 rfl (lv_at hl 2 rfl) ?_
          refine lv_iload_n hx hb dX11_sow_41 rfl (lv_at hl 3 rfl) ?_
          refine tw_iast (i := p0) (x := p1) hx hb hK hT hG hS hr_cr shc_53 rfl (vin_t (a := p0.toInt) rfl (by omega) (by omega)) (gi_all _) dX11_sow_42 (fun H locs hT oq m43 oi hS => ?_)
          have hF := hF.ast hr_cr skc_53 oq (by decide)
          have m47 := m31.put m43 oi
          refine lv_iload_n hx hb dX11_sow_43 rfl (lv_at hl 0 rfl) ?_
          refine W.widen (k := 2) (n := 12) (by decide) (by decide) ?_
          exact vx_ret (W.zret (v := 1) hx hb hr (by decide) (fun t ht hW => ⟨⟨1, (), rfl, (by exact ⟨(rg_t (a := 1) (by decide) (by first | decide | omega) (by first | decide | omega)), (by have := soC_s nf.toInt p0.toInt p1.toInt; omega), (by have c9 := congrArg Int32.toInt cx33; have q0 : (0 : Int32).toInt = 0 := (by decide); have q1 : (1 : Int32).toInt = 1 := (by decide); omega)⟩), by (try dsimp only); rw [ht]; exact ⟨hT, hF, m47⟩⟩, hS.F ht⟩) hS.2.2 dX11_sow_44)
def w_l_landC : List Cond := .codeWith yL_land cL_land 8 (some .int) [(0, 16, 19, 13), (0, 16, 23, 15), (0, 16, 27, 17)] :: (HAppend.hAppend (α := List Cond) (β := List Cond) (γ := List Cond) [.code yX11_land cX11_land 8 (some .int), .code yX11_needSquare cX11_needSquare 1 none, .code yX11_within cX11_within 3 (some .boolean), .methodLink RX11 58 yX11_within, .static yX11_within, .initialized RX11, .classLink RX11 557 "java/lang/IndexOutOfBoundsException", .initialized "java/lang/IndexOutOfBoundsException", .methodLink RX11 55 yX11_needSquare, .static yX11_needSquare, .code yX11_needNumbers cX11_needNumbers 1 none, .classLink RX11 547 "java/lang/IllegalArgumentException", .initialized "java/lang/IllegalArgumentException", .methodLink RX11 62 yX11_needNumbers, .static yX11_needNumbers, .fieldLink RX11 16 "SeaLand" "lake" "LSeaLand$Lake;", .fieldLink RX11 23 "SeaLand" "rows" "LSeaLand$Rows;", .code yX6_forget cX6_forget 1 none, .fieldLink RX6 18 "SeaLand$Rows" "kept" "I", .fieldLink RX6 22 "SeaLand$Rows" "oldest" "I", .methodLink RX11 76 yX6_forget, .instanceMethod yX6_forget, .selects RX6 yX6_forget yX6_forget, .initialized RX6, .code yX11_inRectangle cX11_inRectangle 3 (some .boolean), .code yX11_isBetween cX11_isBetween 3 (some .boolean), .methodLink RX11 588 Lib.Math.min.name, .static Lib.Math.min.name, .initialized "java/lang/Math", .code Lib.Math.min.name Lib.Math.min.code 2 (some .int), .methodLink RX11 591 Lib.Math.max.name, .static Lib.Math.max.name, .code Lib.Math.max.name Lib.Math.max.code 2 (some .int), .methodLink RX11 585 yX11_isBetween, .static yX11_isBetween, .methodLink RX11 79 yX11_inRectangle, .static yX11_inRectangle, .code yX2_tellLand cX2_tellLand 5 none, .fieldLink RX2 9 "SeaLand$Ground" "isLand" "[Z", .fieldLink RX2 15 "SeaLand$Ground" "height" "[I", .fieldLink RX2 19 "SeaLand$Ground" "soil" "[I", .fieldLink RX2 22 "SeaLand$Ground" "ditch" "[I", .code yX2_tellWater cX2_tellWater 4 none, .fieldLink RX2 50 "SeaLand$Ground" "toldMore" "I", .fieldLink RX2 25 "SeaLand$Ground" "water" "[I", .fieldLink RX2 28 "SeaLand$Ground" "salt" "[I", .methodLink RX2 46 yX2_tellWater, .instanceMethod yX2_tellWater, .selects RX2 yX2_tellWater yX2_tellWater, .initialized RX2, .methodLink RX11 92 yX2_tellLand, .instanceMethod yX2_tellLand, .selects RX2 yX2_tellLand yX2_tellLand, .classLink RX11 69 "java/lang/IllegalStateException", .initialized "java/lang/IllegalStateException", .methodLink RL 7 yX11_land, .instanceMethod yX11_land, .selects RX11 yX11_land yX11_land, .classLink RL 13 "java/lang/IndexOutOfBoundsException", .classLink RL 15 "java/lang/IllegalArgumentException", .classLink RL 17 "java/lang/IllegalStateException"] bs2)
set_option maxHeartbeats 4000000 in
set_option maxRecDepth 100000 in
theorem l_landC (l : Launch) (hlt : l.stackTraces = false) (dC : Nat → ClassId) (dI : Nat → Nat → Nat) (kA : Nat → ClassId) (adK adV : Nat → Nat) (G : gT) (H0 : Heap) (nC nS : Int) (o0 : Nat) (p1 : Int32) (p2 : Int32) (p3 : Int32) (p4 : Int32) (p5 : Int32) (ou : Nat) (lk : Nat) (ho : Int32) (gr : Nat) (la : Nat) (VL : Nat → Int32) (hT : gH (dC, dI) kA (SHc nC nS) G H0) (hr_o0 : G o0 = some 14) (hr_ou : G ou = some 98) (hm_lk : el H0 o0 (dI 14 1) = some (.ref lk)) (hr_lk : G lk = some 6) (hm_ho : el H0 lk (dI 6 4) = some (.int ho)) (hm_gr : el H0 lk (dI 6 1) = some (.ref gr)) (hr_gr : G gr = some 5) (hm_la : el H0 gr (dI 5 0) = some (.ref la)) (hr_la : G la = some 25) (hq0 : 0 ≤ ho.toInt ∧ ho.toInt ≤ 40000) (hc_VL : ct H0 la 96 VL) (hgC : 0 ≤ nC ∧ nC ≤ 40) (hgS : 0 ≤ nS ∧ nS ≤ 60) : Met l yL_land w_l_landC ({ frames := 8, cells := 3, slots := 18, locals := 147 }) (va_Pc [.ref o0, .int p1, .int p2, .int p3, .int p4, .int p5, .ref ou] (fun U => U.heap = H0 ∧ va_K (dC, dI) vwCl (tyl kA) U ∧ EVC adK adV (gA G H0.size) U U.heap ∧ NC U)) (va_Qi (fun (r : Int32) (u : (Nat → Int32)) => (0 ≤ r.toInt ∧ r.toInt ≤ 3) ∧ (r.toInt = laC ho.toInt p1.toInt p2.toInt p3.toInt p4.toInt p5.toInt) ∧ ((laC ho.toInt p1.toInt p2.toInt p3.toInt p4.toInt p5.toInt = 0 ∧ u = lyV VL 1 p1.toInt p2.toInt 96) ∨ (laC ho.toInt p1.toInt p2.toInt p3.toInt p4.toInt p5.toInt ≠ 0 ∧ u = VL))) (fun (V1 : (Nat → Int32)) (t : State) => gH (dC, dI) kA (SHc nC nS) G t.heap ∧ gF (dC, dI) SKc G ([(5, 14), (9, 2), (9, 3), (25, 0), (26, 0), (27, 0), (28, 0), (29, 0), (30, 0), (98, 0)] : List (Nat × Nat)) H0 t.heap ∧ ct t.heap la 96 V1) (gA G H0.size)) 3 18 (gA G H0.size) := by
  refine va_MetW (cc := cL_land) (maxL := 8) (ret := (some .int)) (by decide) rfl ?_
  intro p e s m args below meth c s₁ B hml hv
  obtain ⟨rfl, hH0, hK, hE, hN⟩ := hv
  have hx := B.exec
  have hb := B.bytes
  have hr := B.returns
  have hts := atoms_spec (ws := w_l_landC) B.pre
  have hown : s.vm.findClass RL = some m.cls := findClass_of_methodNamed B.named
  have hlocks := B.notSynchronized
  have htab := vx_table (x := yL_land) B (hts _ List.mem_cons_self)
  subst hH0
  generalize hAe : gA G s.heap.size = A at hE ⊢
  have hA : ∀ q : Nat, s.heap.size ≤ q → A q := fun q h => by rw [← hAe]; exact Or.inr h
  have hG := gA_of hAe
  have hS : va_S A s.heap s.heap [] := va_S.rf
  have hF : gF (dC, dI) SKc G ([(5, 14), (9, 2), (9, 3), (25, 0), (26, 0), (27, 0), (28, 0), (29, 0), (30, 0), (98, 0)] : List (Nat × Nat)) s.heap s.heap := gF.rf
  have hl := lv_entry ([.ref o0, .int p1, .int p2, .int p3, .int p4, .int p5, .ref ou]) (n := 8) (Nat.le_of_ble_eq_true rfl)
  rw [lg_entry_eq]
  generalize (lg_sl ([.ref o0, .int p1, .int p2, .int p3, .int p4, .int p5, .ref ou]) ++ List.replicate (8 - (lg_sl ([.ref o0, .int p1, .int p2, .int p3, .int p4, .int p5, .ref ou])).length) Slot.unset).toArray = ls at hl ⊢
  have hl : lv_has ls 8 [(0, .ref o0), (1, .int p1), (2, .int p2), (3, .int p3), (4, .int p4), (5, .int p5), (6, .ref ou)] := hl
  refine lv_aload hx hb dL_land_0 (lv_at hl 6 rfl) ?_
  refine lv_iconst (v := 0) hx hb dL_land_2 (by decide) ?_
  refine lv_aload_n hx hb dL_land_3 rfl (lv_at hl 0 rfl) ?_
  refine lv_iload_n hx hb dL_land_4 rfl (lv_at hl 1 rfl) ?_
  refine lv_iload_n hx hb dL_land_5 rfl (lv_at hl 2 rfl) ?_
  refine lv_iload_n hx hb dL_land_6 rfl (lv_at hl 3 rfl) ?_
  refine lv_iload hx hb dL_land_7 (lv_at hl 4 rfl) ?_
  refine lv_iload hx hb dL_land_9 (lv_at hl 5 rfl) ?_
  have hFc := gA_free hG hA hS
  refine vx_calli (vx_runV (As := [.int p1, .int p2, .int p3, .int p4, .int p5]) (rest := [.int 0, .ref ou]) ⟨hx, hb, hml, hown, hts⟩ (c_landC l hlt dC dI kA adK adV G s.heap nC nS o0 p1 p2 p3 p4 p5 lk ho gr la VL hT hr_o0 hm_lk hr_lk hm_ho hm_gr hr_gr hm_la hr_la (by have q8 := ti_all ho; omega) hc_VL (by omega) (by omega)) (cwV 5 hts (goodIn_app (goodIn_r _ [56, 57, 58, 6] rfl (by decide +kernel)) (goodIn_ca (goodIn_r _ [1, 2, 3, 4, 5, 6, 7, 8, 9, 10, 11, 12, 13, 14, 15, 16, 17, 18, 19, 20, 21, 22, 23, 24, 25, 26, 27, 28, 29, 30, 31, 32, 33, 34, 35, 36, 37, 38, 39, 40, 41, 42, 43, 44, 45, 46, 47, 48, 49, 50, 51, 52, 53, 54, 55] rfl (by decide +kernel)) (bs2_in _ _))) rfl rfl rfl (by decide +kernel) ⟨(Nat.le_of_ble_eq_true rfl), (Nat.le_of_ble_eq_true rfl)⟩) ⟨fun a U g mk q => by obtain ⟨q0, q1, qK, qE⟩ := q; exact ⟨q0, q1, va_K.moved (u := U) (U := U.calling g mk a) (Vm.Alike.refl U.vm) qK, EVC.blind g mk a qE⟩, gH_rc hK hT hr_o0 shc_14 rfl, fun U hU hW => ⟨rfl, hU, va_K.moved hW.alike hK, hE.call hS hFc hU hW⟩⟩ rfl rfl hl.1 rfl (lv_room (Nat.le_of_ble_eq_true rfl)) dL_land_11 ⟨(Nat.le_of_ble_eq_true rfl), (Nat.le_of_ble_eq_true rfl)⟩) hS (fun q _ h => hFc q h) hFc (fun q _ h => hFc q h) (fun E ce q9 u t H locs ht hvm _ hw2 _ _ hS hce hcv hcl => ?_) (fun r1 u t H locs ht hvm hw2 hB _ _ hS => ?_)
  · obtain ⟨hw2, hxf, hTx, hFx, hxc0⟩ := hw2; rw [ht] at hTx hFx hxc0
    have hT := hTx; have hF := hF.more hFx (by decide)
    rcases hw2 with rfl | rfl | rfl
    · have hxf := (hxf.resolve_right (fun h => h.elim (fun h => absurd h.1 (by decide)) (fun h => absurd h.1 (by decide)))).2
      refine vx_catch (E := "java/lang/IllegalArgumentException") hown [⟨0, 16, 19, 13⟩] ⟨0, 16, 23, 15⟩ [⟨0, 16, 27, 17⟩] (by rw [htab]; rfl) (fun z h => by
          simp only [List.mem_cons, List.not_mem_nil, or_false] at h
          rcases h with rfl
          · exact Or.inr ⟨by decide, "java/lang/IndexOutOfBoundsException", (ht_at2 hts 58 rfl), hN ("java/lang/IllegalArgumentException", "java/lang/IndexOutOfBoundsException") (by decide +kernel)⟩) (by decide) (by decide) (ht_at2 hts 59 rfl) (va_Nw.use rfl (hE.1.1.2.1.2.1 _ (List.mem_of_getElem? (i := 1) rfl))) hce hcv hcl ?_
      refine lv_astore (lv' := [(7, .ref q9), (0, .ref o0), (1, .int p1), (2, .int p2), (3, .int p3), (4, .int p4), (5, .int p5), (6, .ref ou)]) hx hb dL_land_23 hl (by decide) rfl (fun ls hl => ?_)
      refine lv_iconst (v := 2) hx hb dL_land_25 (by decide) ?_
      exact W.iret (v := 2) hx hb hr (fun t ht hW => ⟨⟨2, VL, rfl, (by exact ⟨(rg_t (a := 2) (by decide) (by first | decide | omega) (by first | decide | omega)), (by have : (2 : Int32).toInt = 2 := (by decide); omega), (Or.inr ⟨by omega, rfl⟩)⟩), by (try dsimp only); rw [ht]; exact ⟨hT, hF, hxc0⟩⟩, hS.F ht⟩) hS.2.2 dL_land_26
    · have hxf := ((hxf.resolve_left (fun h => absurd h.1 (by decide))).resolve_right (fun h => absurd h.1 (by decide))).2
      refine vx_catch (E := "java/lang/IllegalStateException") hown [⟨0, 16, 19, 13⟩, ⟨0, 16, 23, 15⟩] ⟨0, 16, 27, 17⟩ [] (by rw [htab]; rfl) (fun z h => by
          simp only [List.mem_cons, List.not_mem_nil, or_false] at h
          rcases h with rfl | rfl
          · exact Or.inr ⟨by decide, "java/lang/IndexOutOfBoundsException", (ht_at2 hts 58 rfl), hN ("java/lang/IllegalStateException", "java/lang/IndexOutOfBoundsException") (by decide +kernel)⟩
          · exact Or.inr ⟨by decide, "java/lang/IllegalArgumentException", (ht_at2 hts 59 rfl), hN ("java/lang/IllegalStateException", "java/lang/IllegalArgumentException") (by decide +kernel)⟩) (by decide) (by decide) (ht_at2 hts 60 rfl) (va_Nw.use rfl (hE.1.1.2.1.2.1 _ (List.mem_of_getElem? (i := 3) rfl))) hce hcv hcl ?_
      refine lv_astore (lv' := [(7, .ref q9), (0, .ref o0), (1, .int p1), (2, .int p2), (3, .int p3), (4, .int p4), (5, .int p5), (6, .ref ou)]) hx hb dL_land_27 hl (by decide) rfl (fun ls hl => ?_)
      refine lv_iconst (v := 3) hx hb dL_land_29 (by decide) ?_
      exact W.iret (v := 3) hx hb hr (fun t ht hW => ⟨⟨3, VL, rfl, (by exact ⟨(rg_t (a := 3) (by decide) (by first | decide | omega) (by first | decide | omega)), (by have : (3 : Int32).toInt = 3 := (by decide); omega), (Or.inr ⟨by omega, rfl⟩)⟩), by (try dsimp only); rw [ht]; exact ⟨hT, hF, hxc0⟩⟩, hS.F ht⟩) hS.2.2 dL_land_30
    · have hxf := ((hxf.resolve_left (fun h => absurd h.1 (by decide))).resolve_left (fun h => absurd h.1 (by decide))).2
      refine vx_catch (E := "java/lang/IndexOutOfBoundsException") hown [] ⟨0, 16, 19, 13⟩ [⟨0, 16, 23, 15⟩, ⟨0, 16, 27, 17⟩] (by rw [htab]; rfl) (fun z h => absurd h List.not_mem_nil) (by decide) (by decide) (ht_at2 hts 58 rfl) (va_Nw.use rfl (hE.1.1.2.1.2.1 _ (List.mem_of_getElem? (i := 0) rfl))) hce hcv hcl ?_
      refine lv_astore (lv' := [(7, .ref q9), (0, .ref o0), (1, .int p1), (2, .int p2), (3, .int p3), (4, .int p4), (5, .int p5), (6, .ref ou)]) hx hb dL_land_19 hl (by decide) rfl (fun ls hl => ?_)
      refine lv_iconst (v := 1) hx hb dL_land_21 (by decide) ?_
      exact W.iret (v := 1) hx hb hr (fun t ht hW => ⟨⟨1, VL, rfl, (by exact ⟨(rg_t (a := 1) (by decide) (by first | decide | omega) (by first | decide | omega)), (by have : (1 : Int32).toInt = 1 := (by decide); omega), (Or.inr ⟨by omega, rfl⟩)⟩), by (try dsimp only); rw [ht]; exact ⟨hT, hF, hxc0⟩⟩, hS.F ht⟩) hS.2.2 dL_land_22
  · obtain ⟨hT, hF1, m3⟩ := hB
    rw [ht] at hT hF1 m3
    have hF := hF.more hF1 (by decide)
    try dsimp only at hw2
    obtain ⟨h9, hf10, hf11⟩ := hw2
    refine lv_i2l (v := r1.toInt64) hx hb dL_land_14 rfl ?_
    refine tw_last (i := 0)  hx hb hK hT hG hS hr_ou shc_98 rfl (by unfold vp_in; decide) ⟨_, rfl⟩ dL_land_15 (fun H locs hT oq m12 oi hS => ?_)
    have hF := hF.ast hr_ou skc_98 oq (by decide)
    have m17 := m3.kept (oq _ (gne hr_la hr_ou (by decide)))
    refine lv_goto (tgt := 31) hx hb dL_land_16 (by decide) ?_
    refine lv_iconst (v := 0) hx hb dL_land_31 (by decide) ?_
    exact W.iret (v := 0) hx hb hr (fun t ht hW => ⟨⟨0, (lyV VL 1 p1.toInt p2.toInt 96), rfl, (by exact ⟨(rg_t (a := 0) (by decide) (by first | decide | omega) (by first | decide | omega)), (by have : (0 : Int32).toInt = 0 := (by decide); omega), (Or.inl ⟨by omega, rfl⟩)⟩), by (try dsimp only); rw [ht]; exact ⟨hT, hF, m17⟩⟩, hS.F ht⟩) hS.2.2 dL_land_32
def w_l_fillC : List Cond := .codeWith yL_fill cL_fill 6 (some .int) [(0, 19, 22, 13), (0, 19, 26, 15)] :: (HAppend.hAppend (α := List Cond) (β := List Cond) (γ := List Cond) [.code yX11_fill cX11_fill 4 (some .boolean), .code yX11_needSquare cX11_needSquare 1 none, .code yX11_within cX11_within 3 (some .boolean), .methodLink RX11 58 yX11_within, .static yX11_within, .initialized RX11, .classLink RX11 557 "java/lang/IndexOutOfBoundsException", .initialized "java/lang/IndexOutOfBoundsException", .methodLink RX11 55 yX11_needSquare, .static yX11_needSquare, .code yX11_needNumbers cX11_needNumbers 1 none, .classLink RX11 547 "java/lang/IllegalArgumentException", .initialized "java/lang/IllegalArgumentException", .methodLink RX11 62 yX11_needNumbers, .static yX11_needNumbers, .constant RX11 96 100000, .fieldLink RX11 16 "SeaLand" "lake" "LSeaLand$Lake;", .fieldLink RX11 23 "SeaLand" "rows" "LSeaLand$Rows;", .code yX6_forget cX6_forget 1 none, .fieldLink RX6 18 "SeaLand$Rows" "kept" "I", .fieldLink RX6 22 "SeaLand$Rows" "oldest" "I", .methodLink RX11 76 yX6_forget, .instanceMethod yX6_forget, .selects RX6 yX6_forget yX6_forget, .initialized RX6, .code yX2_tellWater cX2_tellWater 4 none, .fieldLink RX2 50 "SeaLand$Ground" "toldMore" "I", .fieldLink RX2 25 "SeaLand$Ground" "water" "[I", .fieldLink RX2 28 "SeaLand$Ground" "salt" "[I", .methodLink RX11 97 yX2_tellWater, .instanceMethod yX2_tellWater, .selects RX2 yX2_tellWater yX2_tellWater, .initialized RX2, .methodLink RL 19 yX11_fill, .instanceMethod yX11_fill, .selects RX11 yX11_fill yX11_fill, .classLink RL 13 "java/lang/IndexOutOfBoundsException", .classLink RL 15 "java/lang/IllegalArgumentException"] bs2)
set_option maxHeartbeats 4000000 in
set_option maxRecDepth 100000 in
theorem l_fillC (l : Launch) (hlt : l.stackTraces = false) (dC : Nat → ClassId) (dI : Nat → Nat → Nat) (kA : Nat → ClassId) (adK adV : Nat → Nat) (G : gT) (H0 : Heap) (nC nS : Int) (o0 : Nat) (p1 : Int32) (p2 : Int32) (p3 : Int32) (ou : Nat) (lk : Nat) (gr : Nat) (la : Nat) (VL : Nat → Int32) (hT : gH (dC, dI) kA (SHc nC nS) G H0) (hr_o0 : G o0 = some 14) (hr_ou : G ou = some 98) (hm_lk : el H0 o0 (dI 14 1) = some (.ref lk)) (hr_lk : G lk = some 6) (hm_gr : el H0 lk (dI 6 1) = some (.ref gr)) (hr_gr : G gr = some 5) (hm_la : el H0 gr (dI 5 0) = some (.ref la)) (hr_la : G la = some 25) (hc_VL : ct H0 la 96 VL) (hgC : 0 ≤ nC ∧ nC ≤ 40) (hgS : 0 ≤ nS ∧ nS ≤ 60) : Met l yL_fill w_l_fillC ({ frames := 8, cells := 2, slots := 12, locals := 143 }) (va_Pc [.ref o0, .int p1, .int p2, .int p3, .ref ou] (fun U => U.heap = H0 ∧ va_K (dC, dI) vwCl (tyl kA) U ∧ EVC adK adV (gA G H0.size) U U.heap ∧ NC U)) (va_Qi (fun (r : Int32) (u : Unit) => (0 ≤ r.toInt ∧ r.toInt ≤ 2) ∧ (r.toInt = fiC p1.toInt p2.toInt p3.toInt)) (fun (_ : Unit) (t : State) => gH (dC, dI) kA (SHc nC nS) G t.heap ∧ gF (dC, dI) SKc G ([(5, 14), (9, 2), (9, 3), (29, 0), (30, 0), (98, 0)] : List (Nat × Nat)) H0 t.heap) (gA G H0.size)) 2 12 (gA G H0.size) := by
  refine va_MetW (cc := cL_fill) (maxL := 6) (ret := (some .int)) (by decide) rfl ?_
  intro p e s m args below meth c s₁ B hml hv
  obtain ⟨rfl, hH0, hK, hE, hN⟩ := hv
  have hx := B.exec
  have hb := B.bytes
  have hr := B.returns
  have hts := atoms_spec (ws := w_l_fillC) B.pre
  have hown : s.vm.findClass RL = some m.cls := findClass_of_methodNamed B.named
  have hlocks := B.notSynchronized
  have htab := vx_table (x := yL_fill) B (hts _ List.mem_cons_self)
  subst hH0
  generalize hAe : gA G s.heap.size = A at hE ⊢
  have hA : ∀ q : Nat, s.heap.size ≤ q → A q := fun q h => by rw [← hAe]; exact Or.inr h
  have hG := gA_of hAe
  have hS : va_S A s.heap s.heap [] := va_S.rf
  have hF : gF (dC, dI) SKc G ([(5, 14), (9, 2), (9, 3), (29, 0), (30, 0), (98, 0)] : List (Nat × Nat)) s.heap s.heap := gF.rf
  have hl := lv_entry ([.ref o0, .int p1, .int p2, .int p3, .ref ou]) (n := 6) (Nat.le_of_ble_eq_true rfl)
  rw [lg_entry_eq]
  generalize (lg_sl ([.ref o0, .int p1, .int p2, .int p3, .ref ou]) ++ List.replicate (6 - (lg_sl ([.ref o0, .int p1, .int p2, .int p3, .ref ou])).length) Slot.unset).toArray = ls at hl ⊢
  have hl : lv_has ls 6 [(0, .ref o0), (1, .int p1), (2, .int p2), (3, .int p3), (4, .ref ou)] := hl
  refine lv_aload hx hb dL_fill_0 (lv_at hl 4 rfl) ?_
  refine lv_iconst (v := 0) hx hb dL_fill_2 (by decide) ?_
  refine lv_aload_n hx hb dL_fill_3 rfl (lv_at hl 0 rfl) ?_
  refine lv_iload_n hx hb dL_fill_4 rfl (lv_at hl 1 rfl) ?_
  refine lv_iload_n hx hb dL_fill_5 rfl (lv_at hl 2 rfl) ?_
  refine lv_iload_n hx hb dL_fill_6 rfl (lv_at hl 3 rfl) ?_
  have hFc := gA_free hG hA hS
  refine vx_calli (vx_runV (As := [.int p1, .int p2, .int p3]) (rest := [.int 0, .ref ou]) ⟨hx, hb, hml, hown, hts⟩ (c_fillC l hlt dC dI kA adK adV G s.heap nC nS o0 p1 p2 p3 lk gr la VL hT hr_o0 hm_lk hr_lk hm_gr hr_gr hm_la hr_la hc_VL (by omega) (by omega)) (cwV 3 hts (goodIn_app (goodIn_r _ [34, 35, 36, 6] rfl (by decide +kernel)) (goodIn_ca (goodIn_r _ [1, 2, 3, 4, 5, 6, 7, 8, 9, 10, 11, 12, 13, 14, 15, 16, 17, 18, 19, 20, 21, 22, 23, 24, 25, 26, 27, 28, 29, 30, 31, 32, 33] rfl (by decide +kernel)) (bs2_in _ _))) rfl rfl rfl (by decide +kernel) ⟨(Nat.le_of_ble_eq_true rfl), (Nat.le_of_ble_eq_true rfl)⟩) ⟨fun a U g mk q => by obtain ⟨q0, q1, qK, qE⟩ := q; exact ⟨q0, q1, va_K.moved (u := U) (U := U.calling g mk a) (Vm.Alike.refl U.vm) qK, EVC.blind g mk a qE⟩, gH_rc hK hT hr_o0 shc_14 rfl, fun U hU hW => ⟨rfl, hU, va_K.moved hW.alike hK, hE.call hS hFc hU hW⟩⟩ rfl rfl hl.1 rfl (lv_room (Nat.le_of_ble_eq_true rfl)) dL_fill_7 ⟨(Nat.le_of_ble_eq_true rfl), (Nat.le_of_ble_eq_true rfl)⟩) hS (fun q _ h => hFc q h) hFc (fun q _ h => hFc q h) (fun E ce q9 u t H locs ht hvm _ hw2 _ _ hS hce hcv hcl => ?_) (fun r1 u t H locs ht hvm hw2 hB _ _ hS => ?_)
  · obtain ⟨hw2, hxf, hTx, hFx⟩ := hw2; rw [ht] at hTx hFx
    have hT := hTx; have hF := hF.more hFx (by decide)
    rcases hw2 with rfl | rfl
    · have hxf := (hxf.resolve_right (fun h => absurd h.1 (by decide))).2
      refine vx_catch (E := "java/lang/IllegalArgumentException") hown [⟨0, 19, 22, 13⟩] ⟨0, 19, 26, 15⟩ [] (by rw [htab]; rfl) (fun z h => by
          simp only [List.mem_cons, List.not_mem_nil, or_false] at h
          rcases h with rfl
          · exact Or.inr ⟨by decide, "java/lang/IndexOutOfBoundsException", (ht_at2 hts 36 rfl), hN ("java/lang/IllegalArgumentException", "java/lang/IndexOutOfBoundsException") (by decide +kernel)⟩) (by decide) (by decide) (ht_at2 hts 37 rfl) (va_Nw.use rfl (hE.1.1.2.1.2.1 _ (List.mem_of_getElem? (i := 1) rfl))) hce hcv hcl ?_
      refine lv_astore (lv' := [(5, .ref q9), (0, .ref o0), (1, .int p1), (2, .int p2), (3, .int p3), (4, .ref ou)]) hx hb dL_fill_26 hl (by decide) rfl (fun ls hl => ?_)
      refine lv_iconst (v := 2) hx hb dL_fill_28 (by decide) ?_
      exact W.iret (v := 2) hx hb hr (fun t ht hW => ⟨⟨2, (), rfl, (by exact ⟨(rg_t (a := 2) (by decide) (by first | decide | omega) (by first | decide | omega)), (by have : (2 : Int32).toInt = 2 := (by decide); omega)⟩), by (try dsimp only); rw [ht]; exact ⟨hT, hF⟩⟩, hS.F ht⟩) hS.2.2 dL_fill_29
    · have hxf := (hxf.resolve_left (fun h => absurd h.1 (by decide))).2
      refine vx_catch (E := "java/lang/IndexOutOfBoundsException") hown [] ⟨0, 19, 22, 13⟩ [⟨0, 19, 26, 15⟩] (by rw [htab]; rfl) (fun z h => absurd h List.not_mem_nil) (by decide) (by decide) (ht_at2 hts 36 rfl) (va_Nw.use rfl (hE.1.1.2.1.2.1 _ (List.mem_of_getElem? (i := 0) rfl))) hce hcv hcl ?_
      refine lv_astore (lv' := [(5, .ref q9), (0, .ref o0), (1, .int p1), (2, .int p2), (3, .int p3), (4, .ref ou)]) hx hb dL_fill_22 hl (by decide) rfl (fun ls hl => ?_)
      refine lv_iconst (v := 1) hx hb dL_fill_24 (by decide) ?_
      exact W.iret (v := 1) hx hb hr (fun t ht hW => ⟨⟨1, (), rfl, (by exact ⟨(rg_t (a := 1) (by decide) (by first | decide | omega) (by first | decide | omega)), (by have : (1 : Int32).toInt = 1 := (by decide); omega)⟩), by (try dsimp only); rw [ht]; exact ⟨hT, hF⟩⟩, hS.F ht⟩) hS.2.2 dL_fill_25
  · obtain ⟨hT, hF1⟩ := hB
    rw [ht] at hT hF1
    have hF := hF.more hF1 (by decide)
    try dsimp only at hw2
    obtain ⟨h7, hf8, hf9⟩ := hw2
    refine lv_if_eq (tgt := 17) hx hb dL_fill_10 (by decide) (fun c10 => ?_) (fun c10 => ?_)
    · have t11 : r1.toInt = 0 := ti_eq c10 rfl (by decide)
      refine lv_lconst (v := 0) hx hb dL_fill_17 (by decide) ?_
      refine tw_last (i := 0)  hx hb hK hT hG hS hr_ou shc_98 rfl (by unfold vp_in; decide) ⟨_, rfl⟩ dL_fill_18 (fun H locs hT oq m12 oi hS => ?_)
      have hF := hF.ast hr_ou skc_98 oq (by decide)
      refine lv_goto (tgt := 30) hx hb dL_fill_19 (by decide) ?_
      refine lv_iconst (v := 0) hx hb dL_fill_30 (by decide) ?_
      exact W.iret (v := 0) hx hb hr (fun t ht hW => ⟨⟨0, (), rfl, (by exact ⟨(rg_t (a := 0) (by decide) (by first | decide | omega) (by first | decide | omega)), (by have : (0 : Int32).toInt = 0 := (by decide); omega)⟩), by (try dsimp only); rw [ht]; exact ⟨hT, hF⟩⟩, hS.F ht⟩) hS.2.2 dL_fill_31
    · have t17 : r1.toInt ≠ 0 := ti_ne c10 rfl (by decide)
      refine lv_lconst (v := 1) hx hb dL_fill_13 (by decide) ?_
      refine lv_goto (tgt := 18) hx hb dL_fill_14 (by decide) ?_
      refine tw_last (i := 0)  hx hb hK hT hG hS hr_ou shc_98 rfl (by unfold vp_in; decide) ⟨_, rfl⟩ dL_fill_18 (fun H locs hT oq m18 oi hS => ?_)
      have hF := hF.ast hr_ou skc_98 oq (by decide)
      refine lv_goto (tgt := 30) hx hb dL_fill_19 (by decide) ?_
      refine lv_iconst (v := 0) hx hb dL_fill_30 (by decide) ?_
      exact W.iret (v := 0) hx hb hr (fun t ht hW => ⟨⟨0, (), rfl, (by exact ⟨(rg_t (a := 0) (by decide) (by first | decide | omega) (by first | decide | omega)), (by have : (0 : Int32).toInt = 0 := (by decide); omega)⟩), by (try dsimp only); rw [ht]; exact ⟨hT, hF⟩⟩, hS.F ht⟩) hS.2.2 dL_fill_31
def w_l_farmC : List Cond := .codeWith yL_farm cL_farm 5 (some .int) [(0, 10, 13, 13)] :: (HAppend.hAppend (α := List Cond) (β := List Cond) (γ := List Cond) [.code yX11_farm cX11_farm 3 (some .int), .code yX11_needSquare cX11_needSquare 1 none, .code yX11_within cX11_within 3 (some .boolean), .methodLink RX11 58 yX11_within, .static yX11_within, .initialized RX11, .classLink RX11 557 "java/lang/IndexOutOfBoundsException", .initialized "java/lang/IndexOutOfBoundsException", .methodLink RX11 55 yX11_needSquare, .static yX11_needSquare, .fieldLink RX11 30 "SeaLand" "board" "LSeaLand$Board;", .fieldLink RX11 16 "SeaLand" "lake" "LSeaLand$Lake;", .code yX0_farmMayBe cX0_farmMayBe 6 (some .boolean), .fieldLink RX0 143 "SeaLand$Board" "farms" "I", .code yX11_inRectangle cX11_inRectangle 3 (some .boolean), .code yX11_isBetween cX11_isBetween 3 (some .boolean), .methodLink RX11 588 Lib.Math.min.name, .static Lib.Math.min.name, .initialized "java/lang/Math", .code Lib.Math.min.name Lib.Math.min.code 2 (some .int), .methodLink RX11 591 Lib.Math.max.name, .static Lib.Math.max.name, .code Lib.Math.max.name Lib.Math.max.code 2 (some .int), .methodLink RX11 585 yX11_isBetween, .static yX11_isBetween, .static yX11_inRectangle, .fieldLink RX0 17 "SeaLand$Board" "farmOf" "[I", .methodLink RX11 359 yX0_farmMayBe, .instanceMethod yX0_farmMayBe, .selects RX0 yX0_farmMayBe yX0_farmMayBe, .initialized RX0, .code yX0_layOut cX0_layOut 4 (some .int), .methodLink RX11 363 yX0_layOut, .instanceMethod yX0_layOut, .selects RX0 yX0_layOut yX0_layOut, .methodLink RL 114 yX11_farm, .instanceMethod yX11_farm, .selects RX11 yX11_farm yX11_farm, .classLink RL 13 "java/lang/IndexOutOfBoundsException"] bs2)
set_option maxHeartbeats 4000000 in
set_option maxRecDepth 100000 in
theorem l_farmC (l : Launch) (hlt : l.stackTraces = false) (dC : Nat → ClassId) (dI : Nat → Nat → Nat) (kA : Nat → ClassId) (adK adV : Nat → Nat) (G : gT) (H0 : Heap) (nC nS : Int) (o0 : Nat) (p1 : Int32) (p2 : Int32) (ou : Nat) (lk : Nat) (gr : Nat) (la : Nat) (bd : Nat) (nf : Int32) (fo : Nat) (VL : Nat → Int32) (VF : Nat → Int32) (hT : gH (dC, dI) kA (SHc nC nS) G H0) (hr_o0 : G o0 = some 14) (hr_ou : G ou = some 98) (hm_lk : el H0 o0 (dI 14 1) = some (.ref lk)) (hr_lk : G lk = some 6) (hm_gr : el H0 lk (dI 6 1) = some (.ref gr)) (hr_gr : G gr = some 5) (hm_la : el H0 gr (dI 5 0) = some (.ref la)) (hr_la : G la = some 25) (hm_bd : el H0 o0 (dI 14 3) = some (.ref bd)) (hr_bd : G bd = some 3) (hm_nf : el H0 bd (dI 3 16) = some (.int nf)) (hm_fo : el H0 bd (dI 3 1) = some (.ref fo)) (hr_fo : G fo = some 52) (hq0 : 0 ≤ nf.toInt ∧ nf.toInt ≤ 30) (hc_VL : ct H0 la 96 VL) (hc_VF : ct H0 fo 96 VF) (hgC : 0 ≤ nC ∧ nC ≤ 40) (hgS : 0 ≤ nS ∧ nS ≤ 60) : Met l yL_farm w_l_farmC ({ frames := 8, cells := 2, slots := 12, locals := 142 }) (va_Pc [.ref o0, .int p1, .int p2, .ref ou] (fun U => U.heap = H0 ∧ va_K (dC, dI) vwCl (tyl kA) U ∧ EVC adK adV (gA G H0.size) U U.heap ∧ NC U)) (va_Qi (fun (r : Int32) (u : Int32 × (Nat → Int32)) => match u with | (f1, V1) => (0 ≤ r.toInt ∧ r.toInt ≤ 1) ∧ (r.toInt = faC p1.toInt p2.toInt) ∧ ((faC p1.toInt p2.toInt = 1 ∧ f1.toInt = nf.toInt ∧ V1 = VF) ∨ (faC p1.toInt p2.toInt = 0 ∧ (((decide (nf.toInt < 30) && fmK (fun j => (VL j).toInt) (fun j => (VF j).toInt + 1) p1.toInt p2.toInt 96) = true ∧ f1.toInt = nf.toInt + 1 ∧ V1 = lyV VF nf p1.toInt p2.toInt 96) ∨ ((decide (nf.toInt < 30) && fmK (fun j => (VL j).toInt) (fun j => (VF j).toInt + 1) p1.toInt p2.toInt 96) = false ∧ f1.toInt = nf.toInt ∧ V1 = VF))))) (fun (u : Int32 × (Nat → Int32)) (t : State) => match u with | (f1, V1) => gH (dC, dI) kA (SHc nC nS) G t.heap ∧ gF (dC, dI) SKc G ([(3, 16), (52, 0), (98, 0)] : List (Nat × Nat)) H0 t.heap ∧ el t.heap bd (dI 3 16) = some (.int f1) ∧ ct t.heap fo 96 V1) (gA G H0.size)) 2 12 (gA G H0.size) := by
  refine va_MetW (cc := cL_farm) (maxL := 5) (ret := (some .int)) (by decide) rfl ?_
  intro p e s m args below meth c s₁ B hml hv
  obtain ⟨rfl, hH0, hK, hE, hN⟩ := hv
  have hx := B.exec
  have hb := B.bytes
  have hr := B.returns
  have hts := atoms_spec (ws := w_l_farmC) B.pre
  have hown : s.vm.findClass RL = some m.cls := findClass_of_methodNamed B.named
  have hlocks := B.notSynchronized
  have htab := vx_table (x := yL_farm) B (hts _ List.mem_cons_self)
  subst hH0
  generalize hAe : gA G s.heap.size = A at hE ⊢
  have hA : ∀ q : Nat, s.heap.size ≤ q → A q := fun q h => by rw [← hAe]; exact Or.inr h
  have hG := gA_of hAe
  have hS : va_S A s.heap s.heap [] := va_S.rf
  have hF : gF (dC, dI) SKc G ([(3, 16), (52, 0), (98, 0)] : List (Nat × Nat)) s.heap s.heap := gF.rf
  have hl := lv_entry ([.ref o0, .int p1, .int p2, .ref ou]) (n := 5) (Nat.le_of_ble_eq_true rfl)
  rw [lg_entry_eq]
  generalize (lg_sl ([.ref o0, .int p1, .int p2, .ref ou]) ++ List.replicate (5 - (lg_sl ([.ref o0, .int p1, .int p2, .ref ou])).length) Slot.unset).toArray = ls at hl ⊢
  have hl : lv_has ls 5 [(0, .ref o0), (1, .int p1), (2, .int p2), (3, .ref ou)] := hl
  refine lv_aload_n hx hb dL_farm_0 rfl (lv_at hl 3 rfl) ?_
  refine lv_iconst (v := 0) hx hb dL_farm_1 (by decide) ?_
  refine lv_aload_n hx hb dL_farm_2 rfl (lv_at hl 0 rfl) ?_
  refine lv_iload_n hx hb dL_farm_3 rfl (lv_at hl 1 rfl) ?_
  refine lv_iload_n hx hb dL_farm_4 rfl (lv_at hl 2 rfl) ?_
  have hFc := gA_free hG hA hS
  refine vx_calli (vx_runV (As := [.int p1, .int p2]) (rest := [.int 0, .ref ou]) ⟨hx, hb, hml, hown, hts⟩ (c_farmC l hlt dC dI kA adK adV G s.heap nC nS o0 p1 p2 lk gr la bd nf fo VL VF hT hr_o0 hm_lk hr_lk hm_gr hr_gr hm_la hr_la hm_bd hr_bd hm_nf hm_fo hr_fo (by have q8 := ti_all nf; omega) hc_VL hc_VF (by omega) (by omega)) (cwV 2 hts (goodIn_app (goodIn_r _ [36, 37, 38, 6] rfl (by decide +kernel)) (goodIn_ca (goodIn_r _ [1, 2, 3, 4, 5, 6, 7, 8, 9, 10, 11, 12, 13, 14, 15, 16, 17, 18, 19, 20, 21, 22, 23, 24, 25, 26, 27, 28, 29, 30, 31, 32, 33, 34, 35] rfl (by decide +kernel)) (bs2_in _ _))) rfl rfl rfl (by decide +kernel) ⟨(Nat.le_of_ble_eq_true rfl), (Nat.le_of_ble_eq_true rfl)⟩) ⟨fun a U g mk q => by obtain ⟨q0, q1, qK, qE⟩ := q; exact ⟨q0, q1, va_K.moved (u := U) (U := U.calling g mk a) (Vm.Alike.refl U.vm) qK, EVC.blind g mk a qE⟩, gH_rc hK hT hr_o0 shc_14 rfl, fun U hU hW => ⟨rfl, hU, va_K.moved hW.alike hK, hE.call hS hFc hU hW⟩⟩ rfl rfl hl.1 rfl (lv_room (Nat.le_of_ble_eq_true rfl)) dL_farm_5 ⟨(Nat.le_of_ble_eq_true rfl), (Nat.le_of_ble_eq_true rfl)⟩) hS (fun q _ h => hFc q h) hFc (fun q _ h => hFc q h) (fun E ce q9 u t H locs ht hvm _ hw2 _ _ hS hce hcv hcl => ?_) (fun r1 u t H locs ht hvm hw2 hB _ _ hS => ?_)
  · obtain ⟨hw2, hxf, hTx, hFx, hxm0, hxc0⟩ := hw2; rw [ht] at hTx hFx hxm0 hxc0
    have hT := hTx; have hF := hF.more hFx (by decide)
    subst hw2
    have hxf := hxf.2
    refine vx_catch (E := "java/lang/IndexOutOfBoundsException") hown [] ⟨0, 10, 13, 13⟩ [] (by rw [htab]; rfl) (fun z h => absurd h List.not_mem_nil) (by decide) (by decide) (ht_at2 hts 38 rfl) (va_Nw.use rfl (hE.1.1.2.1.2.1 _ (List.mem_of_getElem? (i := 0) rfl))) hce hcv hcl ?_
    refine lv_astore (lv' := [(4, .ref q9), (0, .ref o0), (1, .int p1), (2, .int p2), (3, .ref ou)]) hx hb dL_farm_13 hl (by decide) rfl (fun ls hl => ?_)
    refine lv_iconst (v := 1) hx hb dL_farm_15 (by decide) ?_
    exact W.iret (v := 1) hx hb hr (fun t ht hW => ⟨⟨1, (nf, VF), rfl, (by exact ⟨(rg_t (a := 1) (by decide) (by first | decide | omega) (by first | decide | omega)), (by have : (1 : Int32).toInt = 1 := (by decide); omega), (Or.inl ⟨by omega, by omega, rfl⟩)⟩), by (try dsimp only); rw [ht]; exact ⟨hT, hF, hxm0, hxc0⟩⟩, hS.F ht⟩) hS.2.2 dL_farm_16
  · obtain ⟨u3, u4⟩ := u
    obtain ⟨hT, hF1, m5, m6⟩ := hB
    rw [ht] at hT hF1 m5 m6
    have hF := hF.more hF1 (by decide)
    try dsimp only at hw2
    obtain ⟨h15, hf16, hf17⟩ := hw2
    refine lv_i2l (v := r1.toInt64) hx hb dL_farm_8 rfl ?_
    refine tw_last (i := 0)  hx hb hK hT hG hS hr_ou shc_98 rfl (by unfold vp_in; decide) ⟨_, rfl⟩ dL_farm_9 (fun H locs hT oq m18 oi hS => ?_)
    have hF := hF.ast hr_ou skc_98 oq (by decide)
    have m25 := (el_kept (oq _ (gne hr_bd hr_ou (by decide)))).trans m5
    have m26 := m6.kept (oq _ (gne hr_fo hr_ou (by decide)))
    refine lv_goto (tgt := 17) hx hb dL_farm_10 (by decide) ?_
    refine lv_iconst (v := 0) hx hb dL_farm_17 (by decide) ?_
    exact W.iret (v := 0) hx hb hr (fun t ht hW => ⟨⟨0, (u3, u4), rfl, (by exact ⟨(rg_t (a := 0) (by decide) (by first | decide | omega) (by first | decide | omega)), (by have : (0 : Int32).toInt = 0 := (by decide); omega), (Or.inr ⟨by omega, by rcases hf17 with ⟨q1, q2, q3, q4⟩ | ⟨q1, q2, q3, q4⟩; exact Or.inl ⟨q1, q3, q4⟩; exact Or.inr ⟨q1, q3, q4⟩⟩)⟩), by (try dsimp only); rw [ht]; exact ⟨hT, hF, m25, m26⟩⟩, hS.F ht⟩) hS.2.2 dL_farm_18
def w_l_sowC : List Cond := .codeWith yL_sow cL_sow 5 (some .int) [(0, 17, 20, 13), (0, 17, 24, 15)] :: (HAppend.hAppend (α := List Cond) (β := List Cond) (γ := List Cond) [.code yX11_sow cX11_sow 4 (some .boolean), .code yX11_needFarm cX11_needFarm 2 none, .fieldLink RX11 30 "SeaLand" "board" "LSeaLand$Board;", .code yX11_within cX11_within 3 (some .boolean), .methodLink RX11 58 yX11_within, .static yX11_within, .initialized RX11, .classLink RX11 557 "java/lang/IndexOutOfBoundsException", .initialized "java/lang/IndexOutOfBoundsException", .methodLink RX11 366 yX11_needFarm, .instanceMethod yX11_needFarm, .selects RX11 yX11_needFarm yX11_needFarm, .code yX11_needNumbers cX11_needNumbers 1 none, .classLink RX11 547 "java/lang/IllegalArgumentException", .initialized "java/lang/IllegalArgumentException", .methodLink RX11 62 yX11_needNumbers, .static yX11_needNumbers, .methodLink RL 123 yX11_sow, .instanceMethod yX11_sow, .selects RX11 yX11_sow yX11_sow, .classLink RL 13 "java/lang/IndexOutOfBoundsException", .classLink RL 15 "java/lang/IllegalArgumentException"] bs2)
set_option maxHeartbeats 4000000 in
set_option maxRecDepth 100000 in
theorem l_sowC (l : Launch) (hlt : l.stackTraces = false) (dC : Nat → ClassId) (dI : Nat → Nat → Nat) (kA : Nat → ClassId) (adK adV : Nat → Nat) (G : gT) (H0 : Heap) (nC nS : Int) (o0 : Nat) (p1 : Int32) (p2 : Int32) (ou : Nat) (bd : Nat) (nf : Int32) (cr : Nat) (VK : Nat → Int32) (hT : gH (dC, dI) kA (SHc nC nS) G H0) (hr_o0 : G o0 = some 14) (hr_ou : G ou = some 98) (hm_bd : el H0 o0 (dI 14 3) = some (.ref bd)) (hr_bd : G bd = some 3) (hm_nf : el H0 bd (dI 3 16) = some (.int nf)) (hm_cr : el H0 bd (dI 3 2) = some (.ref cr)) (hr_cr : G cr = some 53) (hq0 : 0 ≤ nf.toInt ∧ nf.toInt ≤ 30) (hc_VK : ct H0 cr 30 VK) (hgC : 0 ≤ nC ∧ nC ≤ 40) (hgS : 0 ≤ nS ∧ nS ≤ 60) : Met l yL_sow w_l_sowC ({ frames := 8, cells := 2, slots := 12, locals := 144 }) (va_Pc [.ref o0, .int p1, .int p2, .ref ou] (fun U => U.heap = H0 ∧ va_K (dC, dI) vwCl (tyl kA) U ∧ EVC adK adV (gA G H0.size) U U.heap ∧ NC U)) (va_Qi (fun (r : Int32) (u : (Nat → Int32)) => (0 ≤ r.toInt ∧ r.toInt ≤ 2) ∧ (r.toInt = soC nf.toInt p1.toInt p2.toInt) ∧ ((soC nf.toInt p1.toInt p2.toInt = 0 ∧ u = cu VK p1.toNatClampNeg p2) ∨ (soC nf.toInt p1.toInt p2.toInt ≠ 0 ∧ u = VK))) (fun (V1 : (Nat → Int32)) (t : State) => gH (dC, dI) kA (SHc nC nS) G t.heap ∧ gF (dC, dI) SKc G ([(53, 0), (98, 0)] : List (Nat × Nat)) H0 t.heap ∧ ct t.heap cr 30 V1) (gA G H0.size)) 2 12 (gA G H0.size) := by
  refine va_MetW (cc := cL_sow) (maxL := 5) (ret := (some .int)) (by decide) rfl ?_
  intro p e s m args below meth c s₁ B hml hv
  obtain ⟨rfl, hH0, hK, hE, hN⟩ := hv
  have hx := B.exec
  have hb := B.bytes
  have hr := B.returns
  have hts := atoms_spec (ws := w_l_sowC) B.pre
  have hown : s.vm.findClass RL = some m.cls := findClass_of_methodNamed B.named
  have hlocks := B.notSynchronized
  have htab := vx_table (x := yL_sow) B (hts _ List.mem_cons_self)
  subst hH0
  generalize hAe : gA G s.heap.size = A at hE ⊢
  have hA : ∀ q : Nat, s.heap.size ≤ q → A q := fun q h => by rw [← hAe]; exact Or.inr h
  have hG := gA_of hAe
  have hS : va_S A s.heap s.heap [] := va_S.rf
  have hF : gF (dC, dI) SKc G ([(53, 0), (98, 0)] : List (Nat × Nat)) s.heap s.heap := gF.rf
  have hl := lv_entry ([.ref o0, .int p1, .int p2, .ref ou]) (n := 5) (Nat.le_of_ble_eq_true rfl)
  rw [lg_entry_eq]
  generalize (lg_sl ([.ref o0, .int p1, .int p2, .ref ou]) ++ List.replicate (5 - (lg_sl ([.ref o0, .int p1, .int p2, .ref ou])).length) Slot.unset).toArray = ls at hl ⊢
  have hl : lv_has ls 5 [(0, .ref o0), (1, .int p1), (2, .int p2), (3, .ref ou)] := hl
  refine lv_aload_n hx hb dL_sow_0 rfl (lv_at hl 3 rfl) ?_
  refine lv_iconst (v := 0) hx hb dL_sow_1 (by decide) ?_
  refine lv_aload_n hx hb dL_sow_2 rfl (lv_at hl 0 rfl) ?_
  refine lv_iload_n hx hb dL_sow_3 rfl (lv_at hl 1 rfl) ?_
  refine lv_iload_n hx hb dL_sow_4 rfl (lv_at hl 2 rfl) ?_
  have hFc := gA_free hG hA hS
  refine vx_calli (vx_runV (As := [.int p1, .int p2]) (rest := [.int 0, .ref ou]) ⟨hx, hb, hml, hown, hts⟩ (c_sowC l hlt dC dI kA adK adV G s.heap nC nS o0 p1 p2 bd nf cr VK hT hr_o0 hm_bd hr_bd hm_nf hm_cr hr_cr (by have q8 := ti_all nf; omega) hc_VK (by omega) (by omega)) (cwV 2 hts (goodIn_app (goodIn_r _ [18, 19, 20, 7] rfl (by decide +kernel)) (goodIn_ca (goodIn_r _ [1, 2, 3, 4, 5, 6, 7, 8, 9, 10, 11, 12, 13, 14, 15, 16, 17] rfl (by decide +kernel)) (bs2_in _ _))) rfl rfl rfl (by decide +kernel) ⟨(Nat.le_of_ble_eq_true rfl), (Nat.le_of_ble_eq_true rfl)⟩) ⟨fun a U g mk q => by obtain ⟨q0, q1, qK, qE⟩ := q; exact ⟨q0, q1, va_K.moved (u := U) (U := U.calling g mk a) (Vm.Alike.refl U.vm) qK, EVC.blind g mk a qE⟩, gH_rc hK hT hr_o0 shc_14 rfl, fun U hU hW => ⟨rfl, hU, va_K.moved hW.alike hK, hE.call hS hFc hU hW⟩⟩ rfl rfl hl.1 rfl (lv_room (Nat.le_of_ble_eq_true rfl)) dL_sow_5 ⟨(Nat.le_of_ble_eq_true rfl), (Nat.le_of_ble_eq_true rfl)⟩) hS (fun q _ h => hFc q h) hFc (fun q _ h => hFc q h) (fun E ce q9 u t H locs ht hvm _ hw2 _ _ hS hce hcv hcl => ?_) (fun r1 u t H locs ht hvm hw2 hB _ _ hS => ?_)
  · obtain ⟨hw2, hxf, hTx, hFx, hxc0⟩ := hw2; rw [ht] at hTx hFx hxc0
    have hT := hTx; have hF := hF.more hFx (by decide)
    rcases hw2 with rfl | rfl
    · have hxf := (hxf.resolve_right (fun h => absurd h.1 (by decide))).2
      refine vx_catch (E := "java/lang/IllegalArgumentException") hown [⟨0, 17, 20, 13⟩] ⟨0, 17, 24, 15⟩ [] (by rw [htab]; rfl) (fun z h => by
          simp only [List.mem_cons, List.not_mem_nil, or_false] at h
          rcases h with rfl
          · exact Or.inr ⟨by decide, "java/lang/IndexOutOfBoundsException", (ht_at2 hts 20 rfl), hN ("java/lang/IllegalArgumentException", "java/lang/IndexOutOfBoundsException") (by decide +kernel)⟩) (by decide) (by decide) (ht_at2 hts 21 rfl) (va_Nw.use rfl (hE.1.1.2.1.2.1 _ (List.mem_of_getElem? (i := 1) rfl))) hce hcv hcl ?_
      refine lv_astore (lv' := [(4, .ref q9), (0, .ref o0), (1, .int p1), (2, .int p2), (3, .ref ou)]) hx hb dL_sow_24 hl (by decide) rfl (fun ls hl => ?_)
      refine lv_iconst (v := 2) hx hb dL_sow_26 (by decide) ?_
      exact W.iret (v := 2) hx hb hr (fun t ht hW => ⟨⟨2, VK, rfl, (by exact ⟨(rg_t (a := 2) (by decide) (by first | decide | omega) (by first | decide | omega)), (by have : (2 : Int32).toInt = 2 := (by decide); omega), (Or.inr ⟨by omega, rfl⟩)⟩), by (try dsimp only); rw [ht]; exact ⟨hT, hF, hxc0⟩⟩, hS.F ht⟩) hS.2.2 dL_sow_27
    · have hxf := (hxf.resolve_left (fun h => absurd h.1 (by decide))).2
      refine vx_catch (E := "java/lang/IndexOutOfBoundsException") hown [] ⟨0, 17, 20, 13⟩ [⟨0, 17, 24, 15⟩] (by rw [htab]; rfl) (fun z h => absurd h List.not_mem_nil) (by decide) (by decide) (ht_at2 hts 20 rfl) (va_Nw.use rfl (hE.1.1.2.1.2.1 _ (List.mem_of_getElem? (i := 0) rfl))) hce hcv hcl ?_
      refine lv_astore (lv' := [(4, .ref q9), (0, .ref o0), (1, .int p1), (2, .int p2), (3, .ref ou)]) hx hb dL_sow_20 hl (by decide) rfl (fun ls hl => ?_)
      refine lv_iconst (v := 1) hx hb dL_sow_22 (by decide) ?_
      exact W.iret (v := 1) hx hb hr (fun t ht hW => ⟨⟨1, VK, rfl, (by exact ⟨(rg_t (a := 1) (by decide) (by first | decide | omega) (by first | decide | omega)), (by have : (1 : Int32).toInt = 1 := (by decide); omega), (Or.inr ⟨by omega, rfl⟩)⟩), by (try dsimp only); rw [ht]; exact ⟨hT, hF, hxc0⟩⟩, hS.F ht⟩) hS.2.2 dL_sow_23
  · obtain ⟨hT, hF1, m3⟩ := hB
    rw [ht] at hT hF1 m3
    have hF := hF.more hF1 (by decide)
    try dsimp only at hw2
    obtain ⟨h8, hf9, hf10⟩ := hw2
    refine lv_if_eq (tgt := 15) hx hb dL_sow_8 (by decide) (fun c11 => ?_) (fun c11 => ?_)
    · have t12 : r1.toInt = 0 := ti_eq c11 rfl (by decide)
      refine lv_lconst (v := 0) hx hb dL_sow_15 (by decide) ?_
      refine tw_last (i := 0)  hx hb hK hT hG hS hr_ou shc_98 rfl (by unfold vp_in; decide) ⟨_, rfl⟩ dL_sow_16 (fun H locs hT oq m13 oi hS => ?_)
      have hF := hF.ast hr_ou skc_98 oq (by decide)
      have m17 := m3.kept (oq _ (gne hr_cr hr_ou (by decide)))
      refine lv_goto (tgt := 28) hx hb dL_sow_17 (by decide) ?_
      refine lv_iconst (v := 0) hx hb dL_sow_28 (by decide) ?_
      exact W.iret (v := 0) hx hb hr (fun t ht hW => ⟨⟨0, (cu VK p1.toNatClampNeg p2), rfl, (by exact ⟨(rg_t (a := 0) (by decide) (by first | decide | omega) (by first | decide | omega)), (by have : (0 : Int32).toInt = 0 := (by decide); omega), (Or.inl ⟨by omega, rfl⟩)⟩), by (try dsimp only); rw [ht]; exact ⟨hT, hF, m17⟩⟩, hS.F ht⟩) hS.2.2 dL_sow_29
    · have t18 : r1.toInt ≠ 0 := ti_ne c11 rfl (by decide)
      refine lv_lconst (v := 1) hx hb dL_sow_11 (by decide) ?_
      refine lv_goto (tgt := 16) hx hb dL_sow_12 (by decide) ?_
      refine tw_last (i := 0)  hx hb hK hT hG hS hr_ou shc_98 rfl (by unfold vp_in; decide) ⟨_, rfl⟩ dL_sow_16 (fun H locs hT oq m19 oi hS => ?_)
      have hF := hF.ast hr_ou skc_98 oq (by decide)
      have m23 := m3.kept (oq _ (gne hr_cr hr_ou (by decide)))
      refine lv_goto (tgt := 28) hx hb dL_sow_17 (by decide) ?_
      refine lv_iconst (v := 0) hx hb dL_sow_28 (by decide) ?_
      exact W.iret (v := 0) hx hb hr (fun t ht hW => ⟨⟨0, (cu VK p1.toNatClampNeg p2), rfl, (by exact ⟨(rg_t (a := 0) (by decide) (by first | decide | omega) (by first | decide | omega)), (by have : (0 : Int32).toInt = 0 := (by decide); omega), (Or.inl ⟨by omega, rfl⟩)⟩), by (try dsimp only); rw [ht]; exact ⟨hT, hF, m23⟩⟩, hS.F ht⟩) hS.2.2 dL_sow_29
def w_c_feedOneC : List Cond := .code yX11_feedOne cX11_feedOne 3 none :: (HAppend.hAppend (α := List Cond) (β := List Cond) (γ := List Cond) [.fieldLink RX11 9 "SeaLand" "tape" "[I", .fieldLink RX11 47 "SeaLand" "taped" "I"] bs2)
set_option maxHeartbeats 4000000 in
set_option maxRecDepth 100000 in
theorem c_feedOneC (l : Launch) (dC : Nat → ClassId) (dI : Nat → Nat → Nat) (kA : Nat → ClassId) (adK adV : Nat → Nat) (G : gT) (H0 : Heap) (nC nS : Int) (o0 : Nat) (nu : Int32) (tp : Int32) (ta : Nat) (vc : Nat → Int32)  (hT : gH (dC, dI) kA (SHc nC nS) G H0) (hr_o0 : G o0 = some 14) (hm_tp : el H0 o0 (dI 14 7) = some (.int tp)) (hm_ta : el H0 o0 (dI 14 0) = some (.ref ta)) (hr_ta : G ta = some 16) (hq0 : 0 ≤ tp.toInt ∧ tp.toInt ≤ 396) (hc_vc : ct H0 ta 400 vc) (hgC : 0 ≤ nC ∧ nC ≤ 40) (hgS : 0 ≤ nS ∧ nS ≤ 60) : Met l yX11_feedOne w_c_feedOneC ({ frames := 0, cells := 0, slots := 0, locals := 0 }) (va_Pc [.ref o0, .int nu] (fun U => U.heap = H0 ∧ va_K (dC, dI) vwCl (tyl kA) U ∧ EVC adK adV (gA G H0.size) U U.heap)) (va_Qv (fun (u : Int32 × (Nat → Int32)) => match u with | (t1, vc1) => (0 ≤ t1.toInt ∧ t1.toInt ≤ 400) ∧ (t1.toInt = tp.toInt + 4) ∧ (vc1 = f4U vc tp.toNatClampNeg nu)) (fun (u : Int32 × (Nat → Int32)) (t : State) => match u with | (t1, vc1) => gH (dC, dI) kA (SHc nC nS) G t.heap ∧ gF (dC, dI) SKc G ([(14, 7), (16, 0)] : List (Nat × Nat)) H0 t.heap ∧ el t.heap o0 (dI 14 7) = some (.int t1) ∧ ct t.heap ta 400 vc1) (gA G H0.size)) 0 0 (gA G H0.size) := by
  refine Met.ofW (cc := cX11_feedOne) (maxL := 3) (ret := none) (by decide) rfl ?_
  intro p e s m args below meth c s₁ B hml hv
  obtain ⟨rfl, hH0, hK, hE⟩ := hv
  have hx := B.exec
  have hb := B.bytes
  have hr := B.returns
  have hts := atoms_spec (ws := w_c_feedOneC) B.pre
  have hown : s.vm.findClass RX11 = some m.cls := findClass_of_methodNamed B.named
  have hlocks := B.notSynchronized
  subst hH0
  generalize hAe : gA G s.heap.size = A at hE ⊢
  have hA : ∀ q : Nat, s.heap.size ≤ q → A q := fun q h => by rw [← hAe]; exact Or.inr h
  have hG := gA_of hAe
  have hS : va_S A s.heap s.heap [] := va_S.rf
  have hF : gF (dC, dI) SKc G ([(14, 7), (16, 0)] : List (Nat × Nat)) s.heap s.heap := gF.rf
  have hl := lv_entry ([.ref o0, .int nu]) (n := 3) (Nat.le_of_ble_eq_true rfl)
  rw [lg_entry_eq]
  generalize (lg_sl ([.ref o0, .int nu]) ++ List.replicate (3 - (lg_sl ([.ref o0, .int nu])).length) Slot.unset).toArray = ls at hl ⊢
  have hl : lv_has ls 3 [(0, .ref o0), (1, .int nu)] := hl
  refine lv_bipush (v := 24) hx hb dX11_feedOne_0 (by decide) ?_
  refine lv_istore_n (lv' := [(2, .int 24), (0, .ref o0), (1, .int nu)]) hx hb dX11_feedOne_2 rfl hl (by decide) rfl (fun ls hl => ?_)
  refine lv_iload_n hx hb dX11_feedOne_3 rfl (lv_at hl 0 rfl) ?_
  refine lv_if_lt (tgt := 39) hx hb dX11_feedOne_4 (by decide) (fun c1 => absurd c1 (by decide)) (fun c1 => ?_)
  refine lv_aload_n hx hb dX11_feedOne_7 rfl (lv_at hl 1 rfl) ?_
  refine tw_getM (v := .ref ta) hx hb hts bF2_X11 hown hK hT hr_o0 shc_14 rfl 0 (by decide) (ht_at2 hts 0 rfl) (fun _ h9 => h9) hm_ta dX11_feedOne_8 ?_
  refine lv_aload_n hx hb dX11_feedOne_11 rfl (lv_at hl 1 rfl) ?_
  refine tw_getM (v := .int tp) hx hb hts bF2_X11 hown hK hT hr_o0 shc_14 rfl 7 (by decide) (ht_at2 hts 1 rfl) (fun _ h9 => h9) hm_tp dX11_feedOne_12 ?_
  refine lv_iload_n hx hb dX11_feedOne_15 rfl (lv_at hl 2 rfl) ?_
  refine lv_iload_n hx hb dX11_feedOne_16 rfl (lv_at hl 0 rfl) ?_
  refine lv_iushr hx hb dX11_feedOne_17 rfl ?_
  refine lv_topi (fun x2 ex2 => ?_)
  refine lv_sipush (v := 255) hx hb dX11_feedOne_18 (by decide) ?_
  refine lv_iand hx hb dX11_feedOne_21 ?_
  refine lv_topi (fun x3 ex3 => ?_)
  have t4 : 0 ≤ x3.toInt ∧ x3.toInt ≤ 255 := by rw [ex3]; exact and_nn (show (255 : Int32).toInt = 255 from (by decide)) (by omega)
  refine tw_iast (i := tp) (x := x3) hx hb hK hT hG hS hr_ta shc_16 rfl (vin_t (a := tp.toInt) rfl (by omega) (by omega)) (gi_of (show x3.toInt = x3.toInt from rfl) (by omega) (by omega)) dX11_feedOne_22 (fun H locs hT oq m5 oi hS => ?_)
  have hF := hF.ast hr_ta skc_16 oq (by decide)
  have m6 := (el_kept (oq _ (gne hr_o0 hr_ta (by decide)))).trans hm_tp
  have m7 := (el_kept (oq _ (gne hr_o0 hr_ta (by decide)))).trans hm_ta
  have m8 := hc_vc.put m5 oi
  refine lv_aload_n hx hb dX11_feedOne_23 rfl (lv_at hl 1 rfl) ?_
  refine lv_dup hx hb dX11_feedOne_24 rfl ?_
  refine tw_getM (v := .int tp) hx hb hts bF2_X11 hown hK hT hr_o0 shc_14 rfl 7 (by decide) (ht_at2 hts 1 rfl) (fun _ h9 => h9) m6 dX11_feedOne_25 ?_
  refine lv_iconst (v := 1) hx hb dX11_feedOne_28 (by decide) ?_
  refine lv_iadd hx hb dX11_feedOne_29 ?_
  refine lv_topi (fun x9 ex9 => ?_)
  have t10 : x9.toInt = tp.toInt + 1 := ti_add ex9 rfl (by decide) (by omega) (by omega)
  refine tw_put (v := .int x9) (ty := .int) hx hb hts bF2_X11 tyX11 tyX11_ok nmX11 hown hK hT hG hS hr_o0 shc_14 rfl 7 (by decide) (ht_at2 hts 1 rfl) (fun _ h9 => h9) rfl (by decide +kernel) rfl rfl (gl_at rfl (gi_of (show x9.toInt = x9.toInt from rfl) (by omega) (by omega))) dX11_feedOne_30 (fun H locs hT oq m11 oj hS => ?_)
  have hF := hF.put hr_o0 skc_14 oq oj (by decide)
  have m12 := (oj 0 (by decide) (by decide)).trans m7
  have m13 := m8.kept (oq _ (gne hr_ta hr_o0 (by decide)))
  refine lv_iinc (v := 16) (lv' := [(2, .int 16), (0, .ref o0), (1, .int nu)]) hx hb dX11_feedOne_33 hl (k := 0) rfl (by decide) (by decide) rfl (fun ls hl => ?_)
  refine lv_goto (tgt := 3) hx hb dX11_feedOne_36 (by decide) ?_
  refine lv_iload_n hx hb dX11_feedOne_3 rfl (lv_at hl 0 rfl) ?_
  refine lv_if_lt (tgt := 39) hx hb dX11_feedOne_4 (by decide) (fun c15 => absurd c15 (by decide)) (fun c15 => ?_)
  refine lv_aload_n hx hb dX11_feedOne_7 rfl (lv_at hl 1 rfl) ?_
  refine tw_getM (v := .ref ta) hx hb hts bF2_X11 hown hK hT hr_o0 shc_14 rfl 0 (by decide) (ht_at2 hts 0 rfl) (fun _ h9 => h9) m12 dX11_feedOne_8 ?_
  refine lv_aload_n hx hb dX11_feedOne_11 rfl (lv_at hl 1 rfl) ?_
  refine tw_getM (v := .int x9) hx hb hts bF2_X11 hown hK hT hr_o0 shc_14 rfl 7 (by decide) (ht_at2 hts 1 rfl) (fun _ h9 => h9) m11 dX11_feedOne_12 ?_
  refine lv_iload_n hx hb dX11_feedOne_15 rfl (lv_at hl 2 rfl) ?_
  refine lv_iload_n hx hb dX11_feedOne_16 rfl (lv_at hl 0 rfl) ?_
  refine lv_iushr hx hb dX11_feedOne_17 rfl ?_
  refine lv_topi (fun x16 ex16 => ?_)
  refine lv_sipush (v := 255) hx hb dX11_feedOne_18 (by decide) ?_
  refine lv_iand hx hb dX11_feedOne_21 ?_
  refine lv_topi (fun x17 ex17 => ?_)
  have t18 : 0 ≤ x17.toInt ∧ x17.toInt ≤ 255 := by rw [ex17]; exact and_nn (show (255 : Int32).toInt = 255 from (by decide)) (by omega)
  refine tw_iast (i := x9) (x := x17) hx hb hK hT hG hS hr_ta shc_16 rfl (vin_t (a := x9.toInt) rfl (by omega) (by omega)) (gi_of (show x17.toInt = x17.toInt from rfl) (by omega) (by omega)) dX11_feedOne_22 (fun H locs hT oq m19 oi hS => ?_)
  have hF := hF.ast hr_ta skc_16 oq (by decide)
  have m20 := (el_kept (oq _ (gne hr_o0 hr_ta (by decide)))).trans m12
  have m21 := m13.put m19 oi
  have m23 := (el_kept (oq _ (gne hr_o0 hr_ta (by decide)))).trans m11
  refine lv_aload_n hx hb dX11_feedOne_23 rfl (lv_at hl 1 rfl) ?_
  refine lv_dup hx hb dX11_feedOne_24 rfl ?_
  refine tw_getM (v := .int x9) hx hb hts bF2_X11 hown hK hT hr_o0 shc_14 rfl 7 (by decide) (ht_at2 hts 1 rfl) (fun _ h9 => h9) m23 dX11_feedOne_25 ?_
  refine lv_iconst (v := 1) hx hb dX11_feedOne_28 (by decide) ?_
  refine lv_iadd hx hb dX11_feedOne_29 ?_
  refine lv_topi (fun x24 ex24 => ?_)
  have t25 : x24.toInt = x9.toInt + 1 := ti_add ex24 rfl (by decide) (by omega) (by omega)
  refine tw_put (v := .int x24) (ty := .int) hx hb hts bF2_X11 tyX11 tyX11_ok nmX11 hown hK hT hG hS hr_o0 shc_14 rfl 7 (by decide) (ht_at2 hts 1 rfl) (fun _ h9 => h9) rfl (by decide +kernel) rfl rfl (gl_at rfl (gi_of (show x24.toInt = x24.toInt from rfl) (by omega) (by omega))) dX11_feedOne_30 (fun H locs hT oq m26 oj hS => ?_)
  have hF := hF.put hr_o0 skc_14 oq oj (by decide)
  have m27 := (oj 0 (by decide) (by decide)).trans m20
  have m28 := m21.kept (oq _ (gne hr_ta hr_o0 (by decide)))
  refine lv_iinc (v := 8) (lv' := [(2, .int 8), (0, .ref o0), (1, .int nu)]) hx hb dX11_feedOne_33 hl (k := 0) rfl (by decide) (by decide) rfl (fun ls hl => ?_)
  refine lv_goto (tgt := 3) hx hb dX11_feedOne_36 (by decide) ?_
  refine lv_iload_n hx hb dX11_feedOne_3 rfl (lv_at hl 0 rfl) ?_
  refine lv_if_lt (tgt := 39) hx hb dX11_feedOne_4 (by decide) (fun c31 => absurd c31 (by decide)) (fun c31 => ?_)
  refine lv_aload_n hx hb dX11_feedOne_7 rfl (lv_at hl 1 rfl) ?_
  refine tw_getM (v := .ref ta) hx hb hts bF2_X11 hown hK hT hr_o0 shc_14 rfl 0 (by decide) (ht_at2 hts 0 rfl) (fun _ h9 => h9) m27 dX11_feedOne_8 ?_
  refine lv_aload_n hx hb dX11_feedOne_11 rfl (lv_at hl 1 rfl) ?_
  refine tw_getM (v := .int x24) hx hb hts bF2_X11 hown hK hT hr_o0 shc_14 rfl 7 (by decide) (ht_at2 hts 1 rfl) (fun _ h9 => h9) m26 dX11_feedOne_12 ?_
  refine lv_iload_n hx hb dX11_feedOne_15 rfl (lv_at hl 2 rfl) ?_
  refine lv_iload_n hx hb dX11_feedOne_16 rfl (lv_at hl 0 rfl) ?_
  refine lv_iushr hx hb dX11_feedOne_17 rfl ?_
  refine lv_topi (fun x32 ex32 => ?_)
  refine lv_sipush (v := 255) hx hb dX11_feedOne_18 (by decide) ?_
  refine lv_iand hx hb dX11_feedOne_21 ?_
  refine lv_topi (fun x33 ex33 => ?_)
  have t34 : 0 ≤ x33.toInt ∧ x33.toInt ≤ 255 := by rw [ex33]; exact and_nn (show (255 : Int32).toInt = 255 from (by decide)) (by omega)
  refine tw_iast (i := x24) (x := x33) hx hb hK hT hG hS hr_ta shc_16 rfl (vin_t (a := x24.toInt) rfl (by omega) (by omega)) (gi_of (show x33.toInt = x33.toInt from rfl) (by omega) (by omega)) dX11_feedOne_22 (fun H locs hT oq m35 oi hS => ?_)
  have hF := hF.ast hr_ta skc_16 oq (by decide)
  have m36 := (el_kept (oq _ (gne hr_o0 hr_ta (by decide)))).trans m27
  have m37 := m28.put m35 oi
  have m40 := (el_kept (oq _ (gne hr_o0 hr_ta (by decide)))).trans m26
  refine lv_aload_n hx hb dX11_feedOne_23 rfl (lv_at hl 1 rfl) ?_
  refine lv_dup hx hb dX11_feedOne_24 rfl ?_
  refine tw_getM (v := .int x24) hx hb hts bF2_X11 hown hK hT hr_o0 shc_14 rfl 7 (by decide) (ht_at2 hts 1 rfl) (fun _ h9 => h9) m40 dX11_feedOne_25 ?_
  refine lv_iconst (v := 1) hx hb dX11_feedOne_28 (by decide) ?_
  refine lv_iadd hx hb dX11_feedOne_29 ?_
  refine lv_topi (fun x41 ex41 => ?_)
  have t42 : x41.toInt = x24.toInt + 1 := ti_add ex41 rfl (by decide) (by omega) (by omega)
  refine tw_put (v := .int x41) (ty := .int) hx hb hts bF2_X11 tyX11 tyX11_ok nmX11 hown hK hT hG hS hr_o0 shc_14 rfl 7 (by decide) (ht_at2 hts 1 rfl) (fun _ h9 => h9) rfl (by decide +kernel) rfl rfl (gl_at rfl (gi_of (show x41.toInt = x41.toInt from rfl) (by omega) (by omega))) dX11_feedOne_30 (fun H locs hT oq m43 oj hS => ?_)
  have hF := hF.put hr_o0 skc_14 oq oj (by decide)
  have m44 := (oj 0 (by decide) (by decide)).trans m36
  have m45 := m37.kept (oq _ (gne hr_ta hr_o0 (by decide)))
  refine lv_iinc (v := 0) (lv' := [(2, .int 0), (0, .ref o0), (1, .int nu)]) hx hb dX11_feedOne_33 hl (k := 0) rfl (by decide) (by decide) rfl (fun ls hl => ?_)
  refine lv_goto (tgt := 3) hx hb dX11_feedOne_36 (by decide) ?_
  refine lv_iload_n hx hb dX11_feedOne_3 rfl (lv_at hl 0 rfl) ?_
  refine lv_if_lt (tgt := 39) hx hb dX11_feedOne_4 (by decide) (fun c49 => absurd c49 (by decide)) (fun c49 => ?_)
  refine lv_aload_n hx hb dX11_feedOne_7 rfl (lv_at hl 1 rfl) ?_
  refine tw_getM (v := .ref ta) hx hb hts bF2_X11 hown hK hT hr_o0 shc_14 rfl 0 (by decide) (ht_at2 hts 0 rfl) (fun _ h9 => h9) m44 dX11_feedOne_8 ?_
  refine lv_aload_n hx hb dX11_feedOne_11 rfl (lv_at hl 1 rfl) ?_
  refine tw_getM (v := .int x41) hx hb hts bF2_X11 hown hK hT hr_o0 shc_14 rfl 7 (by decide) (ht_at2 hts 1 rfl) (fun _ h9 => h9) m43 dX11_feedOne_12 ?_
  refine lv_iload_n hx hb dX11_feedOne_15 rfl (lv_at hl 2 rfl) ?_
  refine lv_iload_n hx hb dX11_feedOne_16 rfl (lv_at hl 0 rfl) ?_
  refine lv_iushr hx hb dX11_feedOne_17 rfl ?_
  refine lv_topi (fun x50 ex50 => ?_)
  refine lv_sipush (v := 255) hx hb dX11_feedOne_18 (by decide) ?_
  refine lv_iand hx hb dX11_feedOne_21 ?_
  refine lv_topi (fun x51 ex51 => ?_)
  have t52 : 0 ≤ x51.toInt ∧ x51.toInt ≤ 255 := by rw [ex51]; exact and_nn (show (255 : Int32).toInt = 255 from (by decide)) (by omega)
  refine tw_iast (i := x41) (x := x51) hx hb hK hT hG hS hr_ta shc_16 rfl (vin_t (a := x41.toInt) rfl (by omega) (by omega)) (gi_of (show x51.toInt = x51.toInt from rfl) (by omega) (by omega)) dX11_feedOne_22 (fun H locs hT oq m53 oi hS => ?_)
  have hF := hF.ast hr_ta skc_16 oq (by decide)
  have m55 := m45.put m53 oi
  have m59 := (el_kept (oq _ (gne hr_o0 hr_ta (by decide)))).trans m43
  refine lv_aload_n hx hb dX11_feedOne_23 rfl (lv_at hl 1 rfl) ?_
  refine lv_dup hx hb dX11_feedOne_24 rfl ?_
  refine tw_getM (v := .int x41) hx hb hts bF2_X11 hown hK hT hr_o0 shc_14 rfl 7 (by decide) (ht_at2 hts 1 rfl) (fun _ h9 => h9) m59 dX11_feedOne_25 ?_
  refine lv_iconst (v := 1) hx hb dX11_feedOne_28 (by decide) ?_
  refine lv_iadd hx hb dX11_feedOne_29 ?_
  refine lv_topi (fun x60 ex60 => ?_)
  have t61 : x60.toInt = x41.toInt + 1 := ti_add ex60 rfl (by decide) (by omega) (by omega)
  refine tw_put (v := .int x60) (ty := .int) hx hb hts bF2_X11 tyX11 tyX11_ok nmX11 hown hK hT hG hS hr_o0 shc_14 rfl 7 (by decide) (ht_at2 hts 1 rfl) (fun _ h9 => h9) rfl (by decide +kernel) rfl rfl (gl_at rfl (gi_of (show x60.toInt = x60.toInt from rfl) (by omega) (by omega))) dX11_feedOne_30 (fun H locs hT oq m62 oj hS => ?_)
  have hF := hF.put hr_o0 skc_14 oq oj (by decide)
  have m64 := m55.kept (oq _ (gne hr_ta hr_o0 (by decide)))
  refine lv_iinc (v := (-8)) (lv' := [(2, .int (-8)), (0, .ref o0), (1, .int nu)]) hx hb dX11_feedOne_33 hl (k := 0) rfl (by decide) (by decide) rfl (fun ls hl => ?_)
  refine lv_goto (tgt := 3) hx hb dX11_feedOne_36 (by decide) ?_
  refine lv_iload_n hx hb dX11_feedOne_3 rfl (lv_at hl 0 rfl) ?_
  refine lv_if_lt (tgt := 39) hx hb dX11_feedOne_4 (by decide) (fun c69 => ?_) (fun c69 => absurd c69 (by decide))
  exact W.vret hx hb hr (fun t ht hW => ⟨⟨(x60, (cu (cu (cu (cu vc tp.toNatClampNeg x3) x9.toNatClampNeg x17) x24.toNatClampNeg x33) x41.toNatClampNeg x51)), rfl, (by exact ⟨(by have q8 := ti_all x60; omega), (by omega), (by have := tn_of (show tp.toInt = tp.toInt from rfl) (by omega); have := tn_of (show x9.toInt = x9.toInt from rfl) (by omega); have := tn_of (show x24.toInt = x24.toInt from rfl) (by omega); have := tn_of (show x41.toInt = x41.toInt from rfl) (by omega); have j0 : x3 = ub nu 24 := (by rw [ex3, ex2]; rfl); have i1 : x9.toNatClampNeg = tp.toNatClampNeg + 1 := (by omega); have j1 : x17 = ub nu 16 := (by rw [ex17, ex16]; rfl); have i2 : x24.toNatClampNeg = tp.toNatClampNeg + 2 := (by omega); have j2 : x33 = ub nu 8 := (by rw [ex33, ex32]; rfl); have i3 : x41.toNatClampNeg = tp.toNatClampNeg + 3 := (by omega); have j3 : x51 = ub nu 0 := (by rw [ex51, ex50]; rfl); (try dsimp only); rw [j0, i1, j1, i2, j2, i3, j3]; rfl)⟩), by (try dsimp only); rw [ht]; exact ⟨hT, hF, m62, m64⟩⟩, hS.F ht⟩) hS.2.2 dX11_feedOne_39
