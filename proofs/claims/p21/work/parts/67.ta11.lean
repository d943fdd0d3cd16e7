set_option maxHeartbeats 4000000 in
set_option maxRecDepth 100000 in
theorem c_proposeZ (l : Launch) (hlt : l.stackTraces = false) (dC : Nat → ClassId) (dI : Nat → Nat → Nat) (kA : Nat → ClassId) (adK adV : Nat → Nat) (G : gT) (H0 : Heap) (nC nS : Int) (o0 : Nat) (bd : Nat) (tn : Int32) (ta : Nat) (sp : Nat) (po : Nat) (vo : Int32) (yv : Int64) (dv9 : Int64) (sd9 : Int32) (kn9 : Nat) (sf9 : Nat) (st9 : Nat) (sp9 : Nat) (vc : Nat → Int32) (vK : Nat → Int32) (vF : Nat → Int32) (vE : Nat → Int32) (vS : Nat → Int32) (N : Nat) (fv : Int32) (hT : gH (dC, dI) kA (SHc nC nS) G H0) (hr_o0 : G o0 = some 167) (hm_bd : el H0 o0 (dI 14 3) = some (.ref bd)) (hr_bd : G bd = some 166) (hm_tn : el H0 o0 (dI 14 7) = some (.int tn)) (hm_ta : el H0 o0 (dI 14 0) = some (.ref ta)) (hr_ta : G ta = some 16) (hm_sp : el H0 bd (dI 3 9) = some (.ref sp)) (hr_sp : G sp = some 152) (hm_po : el H0 bd (dI 3 8) = some (.ref po)) (hr_po : G po = some 140) (hm_vo : el H0 bd (dI 3 11) = some (.int vo)) (hm_yv : el H0 bd (dI 3 12) = some (.long yv)) (hm_dv9 : el H0 bd (dI 3 13) = some (.long dv9)) (hm_sd9 : el H0 bd (dI 3 14) = some (.int sd9)) (hm_kn9 : el H0 sp (dI 7 2) = some (.ref kn9)) (hr_kn9 : G kn9 = some 155) (hm_sf9 : el H0 sp (dI 7 7) = some (.ref sf9)) (hr_sf9 : G sf9 = some 160) (hm_st9 : el H0 sp (dI 7 8) = some (.ref st9)) (hr_st9 : G st9 = some 161) (hm_sp9 : el H0 sp (dI 7 9) = some (.ref sp9)) (hr_sp9 : G sp9 = some 162) (hq0 : 0 ≤ tn.toInt ∧ tn.toInt ≤ 400) (hq1 : 0 ≤ vo.toInt ∧ vo.toInt ≤ 1) (hq2 : 0 ≤ sd9.toInt ∧ sd9.toInt ≤ 60) (hsd : sd9.toInt = nS) (hN : tn.toInt = ((N : Nat) : Int)) (hfv : fv = Int32.ofInt (laE (tc vc) N).2) (hc_vc : ct H0 ta 400 vc) (hc_vK : ct H0 kn9 20 vK) (hc_vF : ct H0 sf9 20 vF) (hc_vE : ct H0 st9 20 vE) (hc_vS : ct H0 sp9 400 vS) (hgC : 0 ≤ nC ∧ nC ≤ 40) (hgS : 0 ≤ nS ∧ nS ≤ 60) : vx_Met l yX11_propose w_c_proposeZ ({ frames := 27, cells := 1, slots := 6, locals := 614 }) (va_Pc [.ref o0] (fun U => U.heap = H0 ∧ va_K (dC, dI) vwCl (tyl kA) U ∧ EVC adK adV (gA G H0.size) U U.heap)) (va_Qi (fun (r : Int32) (u : Int32 × Int32 × Int32) => match u with | (f1, t1, v1) => (0 ≤ r.toInt ∧ r.toInt ≤ 20) ∧ ((laE (tc vc) N).2 = -1 ∧ vo.toInt = 0 ∧ f1.toInt = fv.toInt ∧ t1.toInt = 0 ∧ v1.toInt = 1)) (fun (u : Int32 × Int32 × Int32) (t : State) => match u with | (f1, t1, v1) => gH (dC, dI) kA (SHc nC nS) G t.heap ∧ gF (dC, dI) SKc G ([(10, 11), (152, 11), (152, 12), (152, 13), (153, 0), (154, 0), (155, 0), (156, 0), (157, 0), (158, 0), (159, 0), (160, 0), (161, 0), (162, 0), (166, 8), (166, 9), (166, 10), (166, 11), (166, 12), (166, 13), (167, 7)] : List (Nat × Nat)) H0 t.heap ∧ el t.heap bd (dI 3 10) = some (.int f1) ∧ el t.heap o0 (dI 14 7) = some (.int t1) ∧ el t.heap bd (dI 3 11) = some (.int v1) ∧ el t.heap bd (dI 3 8) = some (.ref sp) ∧ el t.heap bd (dI 3 9) = some (.ref po) ∧ el t.heap bd (dI 3 12) = some (.long 0) ∧ el t.heap bd (dI 3 13) = some (.long 0)) (gA G H0.size)) (vx_X (fun _ : Unit => True) (fun E _ t => (E = "java/lang/IllegalArgumentException" ∨ E = "java/lang/IllegalStateException") ∧ ((E = "java/lang/IllegalArgumentException" ∧ (laE (tc vc) N).2 ≠ -1) ∨ (E = "java/lang/IllegalStateException" ∧ ((laE (tc vc) N).2 = -1 ∧ vo.toInt = 1))) ∧ gH (dC, dI) kA (SHc nC nS) G t.heap ∧ gF (dC, dI) SKc G ([(10, 11), (152, 11), (152, 12), (152, 13), (153, 0), (154, 0), (155, 0), (156, 0), (157, 0), (158, 0), (159, 0), (160, 0), (161, 0), (162, 0), (166, 8), (166, 9), (166, 10), (166, 11), (166, 12), (166, 13), (167, 7)] : List (Nat × Nat)) H0 t.heap ∧ el t.heap bd (dI 3 10) = some (.int fv) ∧ el t.heap o0 (dI 14 7) = some (.int 0) ∧ el t.heap bd (dI 3 11) = some (.int vo) ∧ el t.heap bd (dI 3 12) = some (.long yv) ∧ el t.heap bd (dI 3 13) = some (.long dv9) ∧ el t.heap bd (dI 3 8) = some (.ref po) ∧ el t.heap bd (dI 3 9) = some (.ref sp)) (gA G H0.size)) 1 6 (gA G H0.size) := by
  refine vx_ofW (cc := cX11_propose) (maxL := 1) (ret := (some .int)) (by decide) rfl ?_
  intro p e s m args below meth c s₁ B hml hnt hv
  obtain ⟨rfl, hH0, hK, hE⟩ := hv
  have hx := B.exec
  have hb := B.bytes
  have hr := B.returns
  have hts := atoms_spec (ws := w_c_proposeZ) B.pre
  have hown : s.vm.findClass RX11 = some m.cls := findClass_of_methodNamed B.named
  have hlocks := B.notSynchronized
  subst hH0
  generalize hAe : gA G s.heap.size = A at hE ⊢
  have hA : ∀ q : Nat, s.heap.size ≤ q → A q := fun q h => by rw [← hAe]; exact Or.inr h
  have hG := gA_of hAe
  have hS : va_S A s.heap s.heap [] := va_S.rf
  have hF : gF (dC, dI) SKc G ([(10, 11), (152, 11), (152, 12), (152, 13), (153, 0), (154, 0), (155, 0), (156, 0), (157, 0), (158, 0), (159, 0), (160, 0), (161, 0), (162, 0), (166, 8), (166, 9), (166, 10), (166, 11), (166, 12), (166, 13), (167, 7)] : List (Nat × Nat)) s.heap s.heap := gF.rf
  have hl := lv_entry ([.ref o0]) (n := 1) (Nat.le_of_ble_eq_true rfl)
  rw [lg_entry_eq]
  generalize (lg_sl ([.ref o0]) ++ List.replicate (1 - (lg_sl ([.ref o0])).length) Slot.unset).toArray = ls at hl ⊢
  have hl : lv_has ls 1 [(0, .ref o0)] := hl
  refine lv_aload_n hx hb dX11_propose_0 rfl (lv_at hl 0 rfl) ?_
  refine tw_getM (v := .ref bd) hx hb hts bF2_X11 hown hK hT hr_o0 shc_167 rfl 3 (by decide) (ht_at2 hts 0 rfl) (fun _ h9 => h9) hm_bd dX11_propose_1 ?_
  refine lv_aload_n hx hb dX11_propose_4 rfl (lv_at hl 0 rfl) ?_
  refine tw_getM (v := .ref bd) hx hb hts bF2_X11 hown hK hT hr_o0 shc_167 rfl 3 (by decide) (ht_at2 hts 0 rfl) (fun _ h9 => h9) hm_bd dX11_propose_5 ?_
  refine tw_getNM (v := .ref sp) hx hb hts bF2_X0 hown hK hT hr_bd shc_166 rfl 9 (by decide) (hE.nw 24 rfl) (fun _ h9 => h9) hm_sp dX11_propose_8 ?_
  refine lv_aload_n hx hb dX11_propose_11 rfl (lv_at hl 0 rfl) ?_
  refine tw_getM (v := .ref ta) hx hb hts bF2_X11 hown hK hT hr_o0 shc_167 rfl 0 (by decide) (ht_at2 hts 1 rfl) (fun _ h9 => h9) hm_ta dX11_propose_12 ?_
  refine lv_aload_n hx hb dX11_propose_15 rfl (lv_at hl 0 rfl) ?_
  refine tw_getM (v := .int tn) hx hb hts bF2_X11 hown hK hT hr_o0 shc_167 rfl 7 (by decide) (ht_at2 hts 2 rfl) (fun _ h9 => h9) hm_tn dX11_propose_16 ?_
  have hFc := gA_free hG hA hS
  refine va_calli (va_runV (As := [.ref ta, .int tn]) (rest := [.ref bd]) ⟨hx, hb, hml, hown, hts⟩ (c_read l dC dI kA adK adV G s.heap nC nS sp ta tn kn9 sf9 st9 sp9 vc vK vF vE vS N hT hr_ta hr_sp hm_kn9 hr_kn9 hm_sf9 hr_sf9 hm_st9 hr_st9 hm_sp9 hr_sp9 (by have q8 := ti_all tn; omega) hN hc_vc hc_vK hc_vF hc_vE hc_vS (by omega) (by omega)) (cwV 2 hts (goodIn_app (goodIn_r _ [133, 134, 135, 16] rfl (by decide +kernel)) (goodIn_ca (goodIn_r _ [4, 5, 6, 7, 8, 9, 10, 11, 12, 13, 14, 15, 16, 17, 18, 19, 20, 21, 22, 23, 24, 25, 26, 27, 28, 29, 30, 31, 32, 33, 34, 35, 36, 37, 38, 39, 40, 41, 42, 43, 44, 45, 46, 47, 48, 49, 50, 51, 52, 53, 54, 55, 56, 57, 58, 59, 60, 61, 62, 63, 64, 65, 66, 67, 68, 69, 70, 71, 72, 73, 74, 75, 76, 77, 78, 79, 80, 81, 82, 83, 84, 85, 86, 87, 88, 89, 90, 91, 92, 93, 94, 95, 96, 97, 98, 99, 100, 101, 102, 103, 104, 105, 106, 107, 108, 109, 110, 111, 112, 113, 114, 115, 116, 117, 118, 119, 120, 121, 122, 123, 124, 125, 126, 127, 128, 129, 130, 131, 132] rfl (by decide +kernel)) (bs2_in _ _))) rfl rfl rfl (by decide +kernel) ⟨(Nat.le_of_ble_eq_true rfl), (Nat.le_of_ble_eq_true rfl)⟩) ⟨fun a U g mk q => by obtain ⟨q0, q1, qK, qE⟩ := q; exact ⟨q0, q1, va_K.moved (u := U) (U := U.calling g mk a) (Vm.Alike.refl U.vm) qK, EVC.blind g mk a qE⟩, gH_rc hK hT hr_sp shc_152 rfl, fun U hU hW => ⟨rfl, hU, va_K.moved hW.alike hK, hE.call hS hFc hU hW⟩⟩ rfl rfl hl.1 rfl (lv_room (Nat.le_of_ble_eq_true rfl)) dX11_propose_19 ⟨(Nat.le_of_ble_eq_true rfl), (Nat.le_of_ble_eq_true rfl)⟩) hS (fun q _ h => hFc q h) hFc (fun r1 u t H locs ht hvm hw2 hB _ _ hS => ?_)
  obtain ⟨u3, u4, u5, u6, u7⟩ := u
  obtain ⟨hT, hF1, m8, m9, m10, m11, m12⟩ := hB
  rw [ht] at hT hF1 m8 m9 m10 m11 m12
  have m13 := (hF1.fld hr_o0 skc_167 (k := 3) (by decide) (by decide)).trans hm_bd
  have m16 := (hF1.fld hr_bd skc_166 (k := 9) (by decide) (by decide)).trans hm_sp
  have m17 := (hF1.fld hr_bd skc_166 (k := 8) (by decide) (by decide)).trans hm_po
  have m18 := (hF1.fld hr_bd skc_166 (k := 11) (by decide) (by decide)).trans hm_vo
  have m19 := (hF1.fld hr_bd skc_166 (k := 12) (by decide) (by decide)).trans hm_yv
  have m20 := (hF1.fld hr_bd skc_166 (k := 13) (by decide) (by decide)).trans hm_dv9
  have m21 := (hF1.fld hr_bd skc_166 (k := 14) (by decide) (by decide)).trans hm_sd9
  have hF := hF.more hF1 (by decide)
  try dsimp only at hw2
  obtain ⟨h31, hf32, hf33⟩ := hw2
  have la9 : r1.toInt = (laE (tc vc) N).2 ∧ (((laE (tc vc) N).2 = -1 ∧ u3.toInt = (laE (tc vc) N).1) ∨ (0 ≤ (laE (tc vc) N).2 ∧ (laE (tc vc) N).1 = -1)) := by rcases hf32 with ⟨a1, a2⟩ | ⟨a1, a2⟩ <;> obtain ⟨e1, e2⟩ := laE_s a2 <;> exact ⟨by omega, by omega⟩
  obtain rfl : fv = r1 := by rw [hfv, ← la9.1]; exact Int32.ofInt_toInt _
  refine tw_putN (v := .int fv) (ty := .int) hx hb hts bF2_X0 tyX0 tyX0_ok nmX0 hown hK hT hG hS hr_bd shc_166 rfl 10 (by decide) (hE.nw 25 rfl) (fun _ h9 => h9) rfl (by decide +kernel) rfl rfl (gl_at rfl (gi_all _)) dX11_propose_22 (fun H locs hT oq m34 oj hS => ?_)
  have hF := hF.put hr_bd skc_166 oq oj (by decide)
  have m35 := (el_kept (oq _ (gne hr_o0 hr_bd (by decide)))).trans m13
  have m38 := (oj 9 (by decide) (by decide)).trans m16
  have m39 := (oj 8 (by decide) (by decide)).trans m17
  have m40 := (oj 11 (by decide) (by decide)).trans m18
  have m41 := (oj 12 (by decide) (by decide)).trans m19
  have m42 := (oj 13 (by decide) (by decide)).trans m20
  have m43 := (oj 14 (by decide) (by decide)).trans m21
  have m49 := (el_kept (oq _ (gne hr_sp hr_bd (by decide)))).trans m8
  refine lv_aload_n hx hb dX11_propose_25 rfl (lv_at hl 0 rfl) ?_
  refine lv_iconst (v := 0) hx hb dX11_propose_26 (by decide) ?_
  refine tw_put (v := .int 0) (ty := .int) hx hb hts bF2_X11 tyX11 tyX11_ok nmX11 hown hK hT hG hS hr_o0 shc_167 rfl 7 (by decide) (ht_at2 hts 2 rfl) (fun _ h9 => h9) rfl (by decide +kernel) rfl rfl (gl_at rfl (gi_of (show (0 : Int32).toInt = 0 from (by decide)) (by first | decide | omega) (by first | decide | omega))) dX11_propose_27 (fun H locs hT oq m54 oj hS => ?_)
  have hF := hF.put hr_o0 skc_167 oq oj (by decide)
  have m55 := (oj 3 (by decide) (by decide)).trans m35
  have m57 := (el_kept (oq _ (gne hr_bd hr_o0 (by decide)))).trans m38
  have m58 := (el_kept (oq _ (gne hr_bd hr_o0 (by decide)))).trans m39
  have m59 := (el_kept (oq _ (gne hr_bd hr_o0 (by decide)))).trans m40
  have m60 := (el_kept (oq _ (gne hr_bd hr_o0 (by decide)))).trans m41
  have m61 := (el_kept (oq _ (gne hr_bd hr_o0 (by decide)))).trans m42
  have m62 := (el_kept (oq _ (gne hr_bd hr_o0 (by decide)))).trans m43
  have m68 := (el_kept (oq _ (gne hr_sp hr_o0 (by decide)))).trans m49
  have m73 := (el_kept (oq _ (gne hr_bd hr_o0 (by decide)))).trans m34
  refine lv_aload_n hx hb dX11_propose_30 rfl (lv_at hl 0 rfl) ?_
  refine tw_getM (v := .ref bd) hx hb hts bF2_X11 hown hK hT hr_o0 shc_167 rfl 3 (by decide) (ht_at2 hts 0 rfl) (fun _ h9 => h9) m55 dX11_propose_31 ?_
  refine tw_getNM (v := .int fv) hx hb hts bF2_X0 hown hK hT hr_bd shc_166 rfl 10 (by decide) (hE.nw 25 rfl) (fun _ h9 => h9) m73 dX11_propose_34 ?_
  refine lv_iconst (v := (-1)) hx hb dX11_propose_37 (by decide) ?_
  have t74 : -2147483648 ≤ fv.toInt ∧ fv.toInt ≤ 2147483647 := ti_all fv
  refine lv_icmp_ne (tgt := 45) hx hb dX11_propose_38 (by decide) (fun c75 => ?_) (fun c75 => ?_)
  · have t76 : fv.toInt ≠ (-1) := ti_ne c75 rfl (by decide)
    refine lv_iconst (v := 0) hx hb dX11_propose_45 (by decide) ?_
    have hFc := gA_free hG hA hS
    refine vx_callN (vx_runS (As := [.int 0]) (rest := []) ⟨hx, hb, hml, hown, hts⟩ (c_needNumbers0 l hlt dC dI kA adK adV G H nC nS hT (by omega) (by omega)) (va_cwS 1 hts (goodIn_app (goodIn_r _ [139, 140, 141] rfl (by decide +kernel)) (goodIn_ca (goodIn_r _ [136, 137, 138] rfl (by decide +kernel)) (bs2_in _ _))) rfl rfl rfl (by decide +kernel) ⟨(Nat.le_of_ble_eq_true rfl), (Nat.le_of_ble_eq_true rfl)⟩) ⟨fun a U g mk q => by obtain ⟨q0, q1, qK, qE⟩ := q; exact ⟨q0, q1, va_K.moved (u := U) (U := U.calling g mk a) (Vm.Alike.refl U.vm) qK, EVC.blind g mk a qE⟩, fun U hU hW => ⟨rfl, hU, va_K.moved hW.alike hK, hE.call hS hFc hU hW⟩⟩ rfl rfl hl.1 rfl (lv_room (Nat.le_of_ble_eq_true rfl)) dX11_propose_46 ⟨(Nat.le_of_ble_eq_true rfl), (Nat.le_of_ble_eq_true rfl)⟩) hS hFc (fun q _ h => hFc q h) (fun E ce q9 u t H locs ht hvm _ hw78 _ _ hS hce hcv hcl => ?_)
    obtain ⟨hw78, hTx, hFx⟩ := hw78; rw [ht] at hTx hFx
    exact vx_out (fun x h => (hnt x h).elim) hlocks hce hcv hcl (fun t2 h2 hW => ⟨(), trivial, ⟨((fun h9 => (Or.inl h9)) hw78), (Or.inl ⟨hw78, (by first | omega | exact hxf.elim)⟩), by rw [h2]; exact hTx, by rw [h2]; exact hF.more hFx (by decide), by rw [h2]; exact (hFx.fld hr_bd skc_166 (k := 10) (by decide) (by decide)).trans m73, by rw [h2]; exact (hFx.fld hr_o0 skc_167 (k := 7) (by decide) (by decide)).trans m54, by rw [h2]; exact (hFx.fld hr_bd skc_166 (k := 11) (by decide) (by decide)).trans m59, by rw [h2]; exact (hFx.fld hr_bd skc_166 (k := 12) (by decide) (by decide)).trans m60, by rw [h2]; exact (hFx.fld hr_bd skc_166 (k := 13) (by decide) (by decide)).trans m61, by rw [h2]; exact (hFx.fld hr_bd skc_166 (k := 8) (by decide) (by decide)).trans m58, by rw [h2]; exact (hFx.fld hr_bd skc_166 (k := 9) (by decide) (by decide)).trans m57⟩, hS.F h2⟩) hS.2.2 (by decide) (by decide)
  · have t79 : fv.toInt = (-1) := ti_eq c75 rfl (by decide)
    refine lv_iconst (v := 1) hx hb dX11_propose_41 (by decide) ?_
    refine lv_goto (tgt := 46) hx hb dX11_propose_42 (by decide) ?_
    have hFc := gA_free hG hA hS
    refine vx_callv (vx_runS (As := [.int 1]) (rest := []) ⟨hx, hb, hml, hown, hts⟩ (c_needNumbers1X l hlt dC dI kA adK adV G H nC nS hT (by omega) (by omega)) (va_cwS 1 hts (goodIn_app (goodIn_r _ [139, 140, 141] rfl (by decide +kernel)) (goodIn_ca (goodIn_r _ [136] rfl (by decide +kernel)) (bs2_in _ _))) rfl rfl rfl (by decide +kernel) ⟨(Nat.le_of_ble_eq_true rfl), (Nat.le_of_ble_eq_true rfl)⟩) ⟨fun a U g mk q => by obtain ⟨q0, q1, qK, qE⟩ := q; exact ⟨q0, q1, va_K.moved (u := U) (U := U.calling g mk a) (Vm.Alike.refl U.vm) qK, EVC.blind g mk a qE⟩, fun U hU hW => ⟨rfl, hU, va_K.moved hW.alike hK, hE.call hS hFc hU hW⟩⟩ rfl rfl hl.1 rfl (lv_room (Nat.le_of_ble_eq_true rfl)) dX11_propose_46 ⟨(Nat.le_of_ble_eq_true rfl), (Nat.le_of_ble_eq_true rfl)⟩) hS (fun q _ h => hFc q h) hFc (fun q _ h => hFc q h) (fun E ce q9 u t H locs ht hvm _ hw81 _ _ hS hce hcv hcl => ?_) (fun u t H locs ht hvm hw81 hB _ _ hS => ?_)
    · obtain ⟨hw81, hxf, hTx, hFx⟩ := hw81; rw [ht] at hTx hFx
      exact vx_out (fun x h => (hnt x h).elim) hlocks hce hcv hcl (fun t2 h2 hW => ⟨(), trivial, ⟨((fun h9 => (Or.inl h9)) hw81), (Or.inl ⟨hw81, (by first | omega | exact hxf.elim)⟩), by rw [h2]; exact hTx, by rw [h2]; exact hF.more hFx (by decide), by rw [h2]; exact (hFx.fld hr_bd skc_166 (k := 10) (by decide) (by decide)).trans m73, by rw [h2]; exact (hFx.fld hr_o0 skc_167 (k := 7) (by decide) (by decide)).trans m54, by rw [h2]; exact (hFx.fld hr_bd skc_166 (k := 11) (by decide) (by decide)).trans m59, by rw [h2]; exact (hFx.fld hr_bd skc_166 (k := 12) (by decide) (by decide)).trans m60, by rw [h2]; exact (hFx.fld hr_bd skc_166 (k := 13) (by decide) (by decide)).trans m61, by rw [h2]; exact (hFx.fld hr_bd skc_166 (k := 8) (by decide) (by decide)).trans m58, by rw [h2]; exact (hFx.fld hr_bd skc_166 (k := 9) (by decide) (by decide)).trans m57⟩, hS.F h2⟩) hS.2.2 (by decide) (by decide)
    · obtain ⟨hT, hF1⟩ := hB
      rw [ht] at hT hF1
      have m82 := (hF1.fld hr_o0 skc_167 (k := 3) (by decide) (by decide)).trans m55
      have m84 := (hF1.fld hr_bd skc_166 (k := 9) (by decide) (by decide)).trans m57
      have m85 := (hF1.fld hr_bd skc_166 (k := 8) (by decide) (by decide)).trans m58
      have m86 := (hF1.fld hr_bd skc_166 (k := 11) (by decide) (by decide)).trans m59
      have m87 := (hF1.fld hr_bd skc_166 (k := 12) (by decide) (by decide)).trans m60
      have m88 := (hF1.fld hr_bd skc_166 (k := 13) (by decide) (by decide)).trans m61
      have m89 := (hF1.fld hr_bd skc_166 (k := 14) (by decide) (by decide)).trans m62
      have m95 := (hF1.fld hr_sp skc_152 (k := 11) (by decide) (by decide)).trans m68
      have m100 := (hF1.fld hr_bd skc_166 (k := 10) (by decide) (by decide)).trans m73
      have m101 := (hF1.fld hr_o0 skc_167 (k := 7) (by decide) (by decide)).trans m54
      have hF := hF.more hF1 (by decide)
      try dsimp only at hw81
      refine lv_aload_n hx hb dX11_propose_49 rfl (lv_at hl 0 rfl) ?_
      refine tw_getM (v := .ref bd) hx hb hts bF2_X11 hown hK hT hr_o0 shc_167 rfl 3 (by decide) (ht_at2 hts 0 rfl) (fun _ h9 => h9) m82 dX11_propose_50 ?_
      refine tw_getNM (v := .int vo) hx hb hts bF2_X0 hown hK hT hr_bd shc_166 rfl 11 (by decide) (hE.nw 27 rfl) (fun _ h9 => h9) m86 dX11_propose_53 ?_
      refine lv_if_eq (tgt := 70) hx hb dX11_propose_56 (by decide) (fun c102 => ?_) (fun c102 => ?_)
      · have t103 : vo.toInt = 0 := ti_eq c102 rfl (by decide)
        refine lv_aload_n hx hb dX11_propose_70 rfl (lv_at hl 0 rfl) ?_
        refine tw_getM (v := .ref bd) hx hb hts bF2_X11 hown hK hT hr_o0 shc_167 rfl 3 (by decide) (ht_at2 hts 0 rfl) (fun _ h9 => h9) m82 dX11_propose_71 ?_
        have hFc := gA_free hG hA hS
        refine va_calli (va_runV (As := []) (rest := []) ⟨hx, hb, hml, hown, hts⟩ (c_proposeSpareZ l dC dI kA adK adV G H nC nS bd po sp u3 sd9 hT hr_bd m85 hr_po m84 hr_sp m95 m89 (by have q8 := ti_all sd9; omega) hsd (by omega) (by omega)) (cwV 0 hts (goodIn_app (goodIn_r _ [150, 151, 152, 153] rfl (by decide +kernel)) (goodIn_ca (goodIn_r _ [142, 143, 144, 145, 146, 147, 148, 149] rfl (by decide +kernel)) (bs2_in _ _))) rfl rfl rfl (by decide +kernel) ⟨(Nat.le_of_ble_eq_true rfl), (Nat.le_of_ble_eq_true rfl)⟩) ⟨fun a U g mk q => by obtain ⟨q0, q1, qK, qE⟩ := q; exact ⟨q0, q1, va_K.moved (u := U) (U := U.calling g mk a) (Vm.Alike.refl U.vm) qK, EVC.blind g mk a qE⟩, gH_rc hK hT hr_bd shc_166 rfl, fun U hU hW => ⟨rfl, hU, va_K.moved hW.alike hK, hE.call hS hFc hU hW⟩⟩ rfl rfl hl.1 rfl (lv_room (Nat.le_of_ble_eq_true rfl)) dX11_propose_74 ⟨(Nat.le_of_ble_eq_true rfl), (Nat.le_of_ble_eq_true rfl)⟩) hS (fun q _ h => hFc q h) hFc (fun r104 u t H locs ht hvm hw105 hB _ _ hS => ?_)
        obtain ⟨u106, rfl⟩ : ∃ z, z = u := ⟨_, rfl⟩
        obtain ⟨hT, hF1, m107, m108, m109, m110, m111⟩ := hB
        rw [ht] at hT hF1 m107 m108 m109 m110 m111
        have m130 := (hF1.fld hr_bd skc_166 (k := 10) (by decide) (by decide)).trans m100
        have m131 := (hF1.fld hr_o0 skc_167 (k := 7) (by decide) (by decide)).trans m101
        have hF := hF.more hF1 (by decide)
        try dsimp only at hw105
        obtain ⟨hf132, hd133⟩ := hw105
        obtain rfl : u3 = r104 := hd133.symm
        refine W.widen (k := 1) (n := 6) (by decide) (by decide) ?_
        exact vx_ret (W.iret (v := u3) hx hb hr (fun t ht hW => ⟨⟨u3, (fv, (0 : Int32), u106), rfl, (by exact ⟨(by have q8 := ti_all u3; omega), (by have : (0 : Int32).toInt = 0 := (by decide); omega)⟩), by (try dsimp only); rw [ht]; exact ⟨hT, hF, m130, m131, m107, m108, m109, m110, m111⟩⟩, hS.F ht⟩) hS.2.2 dX11_propose_77)
      · have t134 : vo.toInt ≠ 0 := ti_ne c102 rfl (by decide)
        obtain ⟨sa135, hsa135⟩ := hE.str 5 rfl
        exact vx_throwSW (names := ["java/lang/RuntimeException", "java/lang/Exception"]) hx hb hlt hown (by decide +kernel) (by decide +kernel) (ht_at2 hts 153 rfl) (ht_at2 hts 154 rfl) hsa135 (bX2_at3 hts hE) bX_ok3_69 hE.1.1.2.2.1 hE.1.1.2.2.2 hS (by rw [hml]; exact hl.1) dX11_propose_59 dX11_propose_62 dX11_propose_63 dX11_propose_66 dX11_propose_69 (fun x h => (hnt x h).elim) (by decide) (Nat.le_of_ble_eq_true rfl) (Nat.le_of_ble_eq_true rfl) (Nat.le_of_ble_eq_true rfl) hlocks (fun t hW hz hq => ⟨(), trivial, ⟨(Or.inr rfl), (Or.inr (⟨rfl, (by first | omega | exact hxf.elim)⟩)), hT.ext hq, hF.ext hT hq, (el_kept (hq _ (hT.lt hr_bd))).trans m100, (el_kept (hq _ (hT.lt hr_o0))).trans m101, (el_kept (hq _ (hT.lt hr_bd))).trans m86, (el_kept (hq _ (hT.lt hr_bd))).trans m87, (el_kept (hq _ (hT.lt hr_bd))).trans m88, (el_kept (hq _ (hT.lt hr_bd))).trans m85, (el_kept (hq _ (hT.lt hr_bd))).trans m84⟩, Nat.le_trans hS.1 hz, fun q h1 h2 => (hq q (Nat.lt_of_lt_of_le h1 hS.1)).trans (hS.2.1 q h1 h2)⟩) hS.2.2 (by decide) (by decide)
def w_c_needVoteZ : List Cond := .code yX11_needVote cX11_needVote 1 none :: (HAppend.hAppend (α := List Cond) (β := List Cond) (γ := List Cond) [.fieldLink RX11 30 "SeaLand" "board" "LSeaLand$Board;", .classLink RX11 69 "java/lang/IllegalStateException", .initialized "java/lang/IllegalStateException"] bs2)
set_option maxHeartbeats 4000000 in
set_option maxRecDepth 100000 in
theorem c_needVoteZ (l : Launch) (hlt : l.stackTraces = false) (dC : Nat → ClassId) (dI : Nat → Nat → Nat) (kA : Nat → ClassId) (adK adV : Nat → Nat) (G : gT) (H0 : Heap) (nC nS : Int) (o0 : Nat) (bd : Nat) (vo : Int32)  (hT : gH (dC, dI) kA (SHc nC nS) G H0) (hr_o0 : G o0 = some 167) (hm_bd : el H0 o0 (dI 14 3) = some (.ref bd)) (hr_bd : G bd = some 166) (hm_vo : el H0 bd (dI 3 11) = some (.int vo)) (hq0 : 0 ≤ vo.toInt ∧ vo.toInt ≤ 1) (hgC : 0 ≤ nC ∧ nC ≤ 40) (hgS : 0 ≤ nS ∧ nS ≤ 60) : vx_Met l yX11_needVote w_c_needVoteZ ({ frames := 6, cells := 1, slots := 6, locals := 100 }) (va_Pc [.ref o0] (fun U => U.heap = H0 ∧ va_K (dC, dI) vwCl (tyl kA) U ∧ EVC adK adV (gA G H0.size) U U.heap)) (va_Qv (fun (u : Unit) => (vo.toInt = 1)) (fun (_ : Unit) (t : State) => gH (dC, dI) kA (SHc nC nS) G t.heap ∧ gF (dC, dI) SKc G ([] : List (Nat × Nat)) H0 t.heap) (gA G H0.size)) (vx_X (fun _ : Unit => True) (fun E _ t => (E = "java/lang/IllegalStateException") ∧ (vo.toInt = 0) ∧ gH (dC, dI) kA (SHc nC nS) G t.heap ∧ gF (dC, dI) SKc G ([] : List (Nat × Nat)) H0 t.heap) (gA G H0.size)) 1 6 (gA G H0.size) := by
  refine vx_ofW (cc := cX11_needVote) (maxL := 1) (ret := none) (by decide) rfl ?_
  intro p e s m args below meth c s₁ B hml hnt hv
  obtain ⟨rfl, hH0, hK, hE⟩ := hv
  have hx := B.exec
  have hb := B.bytes
  have hr := B.returns
  have hts := atoms_spec (ws := w_c_needVoteZ) B.pre
  have hown : s.vm.findClass RX11 = some m.cls := findClass_of_methodNamed B.named
  have hlocks := B.notSynchronized
  subst hH0
  generalize hAe : gA G s.heap.size = A at hE ⊢
  have hA : ∀ q : Nat, s.heap.size ≤ q → A q := fun q h => by rw [← hAe]; exact Or.inr h
  have hG := gA_of hAe
  have hS : va_S A s.heap s.heap [] := va_S.rf
  have hF : gF (dC, dI) SKc G ([] : List (Nat × Nat)) s.heap s.heap := gF.rf
  have hl := lv_entry ([.ref o0]) (n := 1) (Nat.le_of_ble_eq_true rfl)
  rw [lg_entry_eq]
  generalize (lg_sl ([.ref o0]) ++ List.replicate (1 - (lg_sl ([.ref o0])).length) Slot.unset).toArray = ls at hl ⊢
  have hl : lv_has ls 1 [(0, .ref o0)] := hl
  refine lv_aload_n hx hb dX11_needVote_0 rfl (lv_at hl 0 rfl) ?_
  refine tw_getM (v := .ref bd) hx hb hts bF2_X11 hown hK hT hr_o0 shc_167 rfl 3 (by decide) (ht_at2 hts 0 rfl) (fun _ h9 => h9) hm_bd dX11_needVote_1 ?_
  refine tw_getNM (v := .int vo) hx hb hts bF2_X0 hown hK hT hr_bd shc_166 rfl 11 (by decide) (hE.nw 27 rfl) (fun _ h9 => h9) hm_vo dX11_needVote_4 ?_
  refine lv_if_ne (tgt := 21) hx hb dX11_needVote_7 (by decide) (fun c1 => ?_) (fun c1 => ?_)
  · have t2 : vo.toInt ≠ 0 := ti_ne c1 rfl (by decide)
    refine W.widen (k := 1) (n := 6) (by decide) (by decide) ?_
    exact vx_ret (W.vret hx hb hr (fun t ht hW => ⟨⟨(), rfl, (by exact (by omega)), by (try dsimp only); rw [ht]; exact ⟨hT, hF⟩⟩, hS.F ht⟩) hS.2.2 dX11_needVote_21)
  · have t3 : vo.toInt = 0 := ti_eq c1 rfl (by decide)
    obtain ⟨sa4, hsa4⟩ := hE.str 17 rfl
    exact vx_throwSW (names := ["java/lang/RuntimeException", "java/lang/Exception"]) hx hb hlt hown (by decide +kernel) (by decide +kernel) (ht_at2 hts 1 rfl) (ht_at2 hts 2 rfl) hsa4 (bX2_at3 hts hE) bX_ok3_69 hE.1.1.2.2.1 hE.1.1.2.2.2 hS (by rw [hml]; exact hl.1) dX11_needVote_10 dX11_needVote_13 dX11_needVote_14 dX11_needVote_17 dX11_needVote_20 (fun x h => (hnt x h).elim) (by decide) (Nat.le_of_ble_eq_true rfl) (Nat.le_of_ble_eq_true rfl) (Nat.le_of_ble_eq_true rfl) hlocks (fun t hW hz hq => ⟨(), trivial, ⟨rfl, (by omega), hT.ext hq, hF.ext hT hq⟩, Nat.le_trans hS.1 hz, fun q h1 h2 => (hq q (Nat.lt_of_lt_of_le h1 hS.1)).trans (hS.2.1 q h1 h2)⟩) hS.2.2 (by decide) (by decide)
def w_c_closeVoteN : List Cond := .code yX0_closeVote cX0_closeVote 3 (some .boolean) :: (HAppend.hAppend (α := List Cond) (β := List Cond) (γ := List Cond) [.fieldLink RX0 68 "SeaLand$Board" "yesVotes" "J", .constantLong RX0 92 100, .fieldLink RX0 72 "SeaLand$Board" "allVotes" "J", .fieldLink RX0 41 "SeaLand$Board" "force" "LSeaLand$Law;", .code yX4_lastOf cX4_lastOf 5 (some .int), .fieldLink RX4 60 "SeaLand$Law" "lines" "I", .fieldLink RX4 18 "SeaLand$Law" "kinds" "[I", .fieldLink RX4 21 "SeaLand$Law" "firsts" "[I", .methodLink RX0 94 yX4_lastOf, .instanceMethod yX4_lastOf, .selects RX4 yX4_lastOf yX4_lastOf, .initialized RX4, .fieldLink RX0 64 "SeaLand$Board" "voting" "Z"] bs2)
set_option maxHeartbeats 4000000 in
set_option maxRecDepth 100000 in
theorem c_closeVoteN (l : Launch) (dC : Nat → ClassId) (dI : Nat → Nat → Nat) (kA : Nat → ClassId) (adK adV : Nat → Nat) (G : gT) (H0 : Heap) (nC nS : Int) (o0 : Nat) (yv : Int64) (dv9 : Int64) (fo : Nat)  (hT : gH (dC, dI) kA (SHc nC nS) G H0) (hr_o0 : G o0 = some 166) (hm_yv : el H0 o0 (dI 3 12) = some (.long yv)) (hm_dv9 : el H0 o0 (dI 3 13) = some (.long dv9)) (hm_fo : el H0 o0 (dI 3 7) = some (.ref fo)) (hr_fo : G fo = some 7) (hyv : yv.toInt = 0) (hdv : dv9.toInt = 0) (hgC : 0 ≤ nC ∧ nC ≤ 40) (hgS : 0 ≤ nS ∧ nS ≤ 60) : Met l yX0_closeVote w_c_closeVoteN ({ frames := 1, cells := 0, slots := 0, locals := 24 }) (va_Pc [.ref o0] (fun U => U.heap = H0 ∧ va_K (dC, dI) vwCl (tyl kA) U ∧ EVC adK adV (gA G H0.size) U U.heap)) (va_Qi (fun (r : Int32) (u : Int32) => (0 ≤ r.toInt ∧ r.toInt ≤ 0) ∧ (u.toInt = 0)) (fun (v1 : Int32) (t : State) => gH (dC, dI) kA (SHc nC nS) G t.heap ∧ gF (dC, dI) SKc G ([(166, 11)] : List (Nat × Nat)) H0 t.heap ∧ el t.heap o0 (dI 3 11) = some (.int v1)) (gA G H0.size)) 0 0 (gA G H0.size) := by
  refine Met.ofW (cc := cX0_closeVote) (maxL := 3) (ret := (some .boolean)) (by decide) rfl ?_
  intro p e s m args below meth c s₁ B hml hv
  obtain ⟨rfl, hH0, hK, hE⟩ := hv
  have hx := B.exec
  have hb := B.bytes
  have hr := B.returns
  have hts := atoms_spec (ws := w_c_closeVoteN) B.pre
  have hown : s.vm.findClass RX0 = some m.cls := findClass_of_methodNamed B.named
  have hlocks := B.notSynchronized
  subst hH0
  generalize hAe : gA G s.heap.size = A at hE ⊢
  have hA : ∀ q : Nat, s.heap.size ≤ q → A q := fun q h => by rw [← hAe]; exact Or.inr h
  have hG := gA_of hAe
  have hS : va_S A s.heap s.heap [] := va_S.rf
  have hF : gF (dC, dI) SKc G ([(166, 11)] : List (Nat × Nat)) s.heap s.heap := gF.rf
  have hl := lv_entry ([.ref o0]) (n := 3) (Nat.le_of_ble_eq_true rfl)
  rw [lg_entry_eq]
  generalize (lg_sl ([.ref o0]) ++ List.replicate (3 - (lg_sl ([.ref o0])).length) Slot.unset).toArray = ls at hl ⊢
  have hl : lv_has ls 3 [(0, .ref o0)] := hl
  refine lv_aload_n hx hb dX0_closeVote_0 rfl (lv_at hl 0 rfl) ?_
  refine tw_getM (v := .long yv) hx hb hts bF2_X0 hown hK hT hr_o0 shc_166 rfl 12 (by decide) (ht_at2 hts 0 rfl) (fun _ h9 => h9) hm_yv dX0_closeVote_1 ?_
  refine lv_ldc2 (v := 100) hx hb hown (ht_at2 hts 1 rfl) dX0_closeVote_4 ?_
  refine lv_lmul hx hb dX0_closeVote_7 ?_
  refine lv_topl (fun y1 ey1 => ?_)
  have t2 : y1.toInt = yv.toInt * 100 ∧ -(0 * 100) ≤ y1.toInt ∧ y1.toInt ≤ 0 * 100 := tl_m ey1 rfl (by decide) (A := 0) (B := 100) (by omega) (by omega) (by omega) (by omega) (by decide)
  refine lv_aload_n hx hb dX0_closeVote_8 rfl (lv_at hl 0 rfl) ?_
  refine tw_getM (v := .long dv9) hx hb hts bF2_X0 hown hK hT hr_o0 shc_166 rfl 13 (by decide) (ht_at2 hts 2 rfl) (fun _ h9 => h9) hm_dv9 dX0_closeVote_9 ?_
  refine lv_aload_n hx hb dX0_closeVote_12 rfl (lv_at hl 0 rfl) ?_
  refine tw_getM (v := .ref fo) hx hb hts bF2_X0 hown hK hT hr_o0 shc_166 rfl 7 (by decide) (ht_at2 hts 3 rfl) (fun _ h9 => h9) hm_fo dX0_closeVote_13 ?_
  refine lv_bipush (v := 8) hx hb dX0_closeVote_16 (by decide) ?_
  refine lv_bipush (v := 50) hx hb dX0_closeVote_18 (by decide) ?_
  have hFc := gA_free hG hA hS
  refine va_calli (va_runV (As := [.int 8, .int 50]) (rest := [.long dv9, .long y1]) ⟨hx, hb, hml, hown, hts⟩ (c_lastOf l dC dI kA adK adV G s.heap nC nS fo 8 50 hT hr_fo (by omega) (by omega)) (cwV 2 hts (goodIn_app (goodIn_r _ [9, 10, 11, 12] rfl (by decide +kernel)) (goodIn_ca (goodIn_r _ [5, 6, 7, 8] rfl (by decide +kernel)) (bs2_in _ _))) rfl rfl rfl (by decide +kernel) ⟨(Nat.le_of_ble_eq_true rfl), (Nat.le_of_ble_eq_true rfl)⟩) ⟨fun a U g mk q => by obtain ⟨q0, q1, qK, qE⟩ := q; exact ⟨q0, q1, va_K.moved (u := U) (U := U.calling g mk a) (Vm.Alike.refl U.vm) qK, EVC.blind g mk a qE⟩, gH_rc hK hT hr_fo shc_7 rfl, fun U hU hW => ⟨rfl, hU, va_K.moved hW.alike hK, hE.call hS hFc hU hW⟩⟩ rfl rfl hl.1 rfl (lv_room (Nat.le_of_ble_eq_true rfl)) dX0_closeVote_20 ⟨(Nat.le_of_ble_eq_true rfl), (Nat.le_of_ble_eq_true rfl)⟩) hS (fun q _ h => hFc q h) hFc (fun r3 u t H locs ht hvm hw4 hB _ _ hS => ?_)
  obtain ⟨hT, hF1⟩ := hB
  rw [ht] at hT hF1
  have hF := hF.more hF1 (by decide)
  try dsimp only at hw4
  refine lv_i2l (v := r3.toInt64) hx hb dX0_closeVote_23 rfl ?_
  refine lv_lmul hx hb dX0_closeVote_24 ?_
  refine lv_topl (fun y8 ey8 => ?_)
  have tqy8 := ti_all r3
  have t9 : y8.toInt = dv9.toInt * r3.toInt ∧ -(0 * 2147483648) ≤ y8.toInt ∧ y8.toInt ≤ 0 * 2147483648 := tl_m ey8 rfl ((Int32.toInt_toInt64 _).trans rfl) (A := 0) (B := 2147483648) (by omega) (by omega) (by omega) (by omega) (by decide)
  refine W.lcmp hx hb dX0_closeVote_25 ?_
  refine lv_topi (fun x10 ex10 => ?_)
  have t11 : (y1.toInt < y8.toInt ∧ x10.toInt = -1) ∨ (y1.toInt = y8.toInt ∧ x10.toInt = 0) ∨ (y8.toInt < y1.toInt ∧ x10.toInt = 1) := tl_c ex10 rfl rfl
  refine lv_if_le (tgt := 33) hx hb dX0_closeVote_26 (by decide) (fun c12 => ?_) (fun c12 => ?_)
  · have t13 : x10.toInt ≤ 0 := ti_le c12 rfl (by decide)
    refine lv_iconst (v := 0) hx hb dX0_closeVote_33 (by decide) ?_
    refine lv_istore_n (lv' := [(1, .int 0), (0, .ref o0)]) hx hb dX0_closeVote_34 rfl hl (by decide) rfl (fun ls hl => ?_)
    refine lv_aload_n hx hb dX0_closeVote_35 rfl (lv_at hl 1 rfl) ?_
    refine lv_iconst (v := 0) hx hb dX0_closeVote_36 (by decide) ?_
    refine tw_put (v := .int 0) (ty := .boolean) hx hb hts bF2_X0 tyX0 tyX0_ok nmX0 hown hK hT hG hS hr_o0 shc_166 rfl 11 (by decide) (ht_at2 hts 12 rfl) (fun _ h9 => h9) rfl (by decide +kernel) rfl rfl (gl_at rfl (gi_of (show (0 : Int32).toInt = 0 from (by decide)) (by first | decide | omega) (by first | decide | omega))) dX0_closeVote_37 (fun H locs hT oq m14 oj hS => ?_)
    have hF := hF.put hr_o0 skc_166 oq oj (by decide)
    refine lv_iload_n hx hb dX0_closeVote_40 rfl (lv_at hl 0 rfl) ?_
    refine lv_if_eq (tgt := 62) hx hb dX0_closeVote_41 (by decide) (fun c18 => ?_) (fun c18 => absurd c18 (by decide))
    refine lv_iload_n hx hb dX0_closeVote_62 rfl (lv_at hl 0 rfl) ?_
    exact W.zret (v := 0) hx hb hr (by decide) (fun t ht hW => ⟨⟨0, (0 : Int32), rfl, (by exact ⟨(rg_t (a := 0) (by decide) (by first | decide | omega) (by first | decide | omega)), (by have : (0 : Int32).toInt = 0 := (by decide); omega)⟩), by (try dsimp only); rw [ht]; exact ⟨hT, hF, m14⟩⟩, hS.F ht⟩) hS.2.2 dX0_closeVote_63
  · have t19 : 0 < x10.toInt := ti_nle c12 rfl (by decide)
    exfalso; omega
def w_c_closeVoteG : List Cond := .code yX0_closeVote cX0_closeVote 3 (some .boolean) :: (HAppend.hAppend (α := List Cond) (β := List Cond) (γ := List Cond) [.fieldLink RX0 68 "SeaLand$Board" "yesVotes" "J", .constantLong RX0 92 100, .fieldLink RX0 72 "SeaLand$Board" "allVotes" "J", .fieldLink RX0 41 "SeaLand$Board" "force" "LSeaLand$Law;", .code yX4_lastOf cX4_lastOf 5 (some .int), .fieldLink RX4 60 "SeaLand$Law" "lines" "I", .fieldLink RX4 18 "SeaLand$Law" "kinds" "[I", .fieldLink RX4 21 "SeaLand$Law" "firsts" "[I", .methodLink RX0 94 yX4_lastOf, .instanceMethod yX4_lastOf, .selects RX4 yX4_lastOf yX4_lastOf, .initialized RX4, .fieldLink RX0 64 "SeaLand$Board" "voting" "Z", .fieldLink RX0 45 "SeaLand$Board" "proposed" "LSeaLand$Law;"] bs2)
set_option maxHeartbeats 4000000 in
set_option maxRecDepth 100000 in
theorem c_closeVoteG (l : Launch) (dC : Nat → ClassId) (dI : Nat → Nat → Nat) (kA : Nat → ClassId) (adK adV : Nat → Nat) (G : gT) (H0 : Heap) (nC nS : Int) (o0 : Nat) (fo : Nat) (po : Nat)  (hT : gH (dC, dI) kA (SHc nC nS) G H0) (hr_o0 : G o0 = some 166) (hm_fo : el H0 o0 (dI 3 7) = some (.ref fo)) (hr_fo : G fo = some 7) (hm_po : el H0 o0 (dI 3 8) = some (.ref po)) (hr_po : G po = some 140) (hgC : 0 ≤ nC ∧ nC ≤ 40) (hgS : 0 ≤ nS ∧ nS ≤ 60) : Met l yX0_closeVote w_c_closeVoteG ({ frames := 1, cells := 0, slots := 0, locals := 24 }) (va_Pc [.ref o0] (fun U => U.heap = H0 ∧ va_K (dC, dI) vwCl (tyl kA) U ∧ EVC adK adV (gA G H0.size) U U.heap)) (va_Qi (fun (r : Int32) (u : Int32 × Nat × Nat) => match u with | (v1, fo1, po1) => (0 ≤ r.toInt ∧ r.toInt ≤ 1) ∧ (v1.toInt = 0) ∧ ((fo1 = fo ∧ po1 = po) ∨ (fo1 = po ∧ po1 = fo))) (fun (u : Int32 × Nat × Nat) (t : State) => match u with | (v1, fo1, po1) => gH (dC, dI) kA (SHc nC nS) G t.heap ∧ gF (dC, dI) SKc G ([(166, 7), (166, 8), (166, 11)] : List (Nat × Nat)) H0 t.heap ∧ el t.heap o0 (dI 3 11) = some (.int v1) ∧ el t.heap o0 (dI 3 7) = some (.ref fo1) ∧ el t.heap o0 (dI 3 8) = some (.ref po1)) (gA G H0.size)) 0 0 (gA G H0.size) := by
  refine Met.ofW (cc := cX0_closeVote) (maxL := 3) (ret := (some .boolean)) (by decide) rfl ?_
  intro p e s m args below meth c s₁ B hml hv
  obtain ⟨rfl, hH0, hK, hE⟩ := hv
  have hx := B.exec
  have hb := B.bytes
  have hr := B.returns
  have hts := atoms_spec (ws := w_c_closeVoteG) B.pre
  have hown : s.vm.findClass RX0 = some m.cls := findClass_of_methodNamed B.named
  have hlocks := B.notSynchronized
  subst hH0
  generalize hAe : gA G s.heap.size = A at hE ⊢
  have hA : ∀ q : Nat, s.heap.size ≤ q → A q := fun q h => by rw [← hAe]; exact Or.inr h
  have hG := gA_of hAe
  have hS : va_S A s.heap s.heap [] := va_S.rf
  have hF : gF (dC, dI) SKc G ([(166, 7), (166, 8), (166, 11)] : List (Nat × Nat)) s.heap s.heap := gF.rf
  have hl := lv_entry ([.ref o0]) (n := 3) (Nat.le_of_ble_eq_true rfl)
  rw [lg_entry_eq]
  generalize (lg_sl ([.ref o0]) ++ List.replicate (3 - (lg_sl ([.ref o0])).length) Slot.unset).toArray = ls at hl ⊢
  have hl : lv_has ls 3 [(0, .ref o0)] := hl
  refine lv_aload_n hx hb dX0_closeVote_0 rfl (lv_at hl 0 rfl) ?_
  refine tw_get hx hb hts bF2_X0 hown hK hT hr_o0 shc_166 rfl 12 (by decide) (ht_at2 hts 0 rfl) (fun _ h9 => h9) dX0_closeVote_1 (fun v9 m1 h9 => ?_)
  obtain ⟨y2, rfl⟩ := h9 _ rfl
  refine lv_ldc2 (v := 100) hx hb hown (ht_at2 hts 1 rfl) dX0_closeVote_4 ?_
  refine lv_lmul hx hb dX0_closeVote_7 ?_
  refine lv_topl (fun y3 _ => ?_)
  refine lv_aload_n hx hb dX0_closeVote_8 rfl (lv_at hl 0 rfl) ?_
  refine tw_get hx hb hts bF2_X0 hown hK hT hr_o0 shc_166 rfl 13 (by decide) (ht_at2 hts 2 rfl) (fun _ h9 => h9) dX0_closeVote_9 (fun v9 m4 h9 => ?_)
  obtain ⟨y5, rfl⟩ := h9 _ rfl
  refine lv_aload_n hx hb dX0_closeVote_12 rfl (lv_at hl 0 rfl) ?_
  refine tw_getM (v := .ref fo) hx hb hts bF2_X0 hown hK hT hr_o0 shc_166 rfl 7 (by decide) (ht_at2 hts 3 rfl) (fun _ h9 => h9) hm_fo dX0_closeVote_13 ?_
  refine lv_bipush (v := 8) hx hb dX0_closeVote_16 (by decide) ?_
  refine lv_bipush (v := 50) hx hb dX0_closeVote_18 (by decide) ?_
  have hFc := gA_free hG hA hS
  refine va_calli (va_runV (As := [.int 8, .int 50]) (rest := [.long y5, .long y3]) ⟨hx, hb, hml, hown, hts⟩ (c_lastOf l dC dI kA adK adV G s.heap nC nS fo 8 50 hT hr_fo (by omega) (by omega)) (cwV 2 hts (goodIn_app (goodIn_r _ [9, 10, 11, 12] rfl (by decide +kernel)) (goodIn_ca (goodIn_r _ [5, 6, 7, 8] rfl (by decide +kernel)) (bs2_in _ _))) rfl rfl rfl (by decide +kernel) ⟨(Nat.le_of_ble_eq_true rfl), (Nat.le_of_ble_eq_true rfl)⟩) ⟨fun a U g mk q => by obtain ⟨q0, q1, qK, qE⟩ := q; exact ⟨q0, q1, va_K.moved (u := U) (U := U.calling g mk a) (Vm.Alike.refl U.vm) qK, EVC.blind g mk a qE⟩, gH_rc hK hT hr_fo shc_7 rfl, fun U hU hW => ⟨rfl, hU, va_K.moved hW.alike hK, hE.call hS hFc hU hW⟩⟩ rfl rfl hl.1 rfl (lv_room (Nat.le_of_ble_eq_true rfl)) dX0_closeVote_20 ⟨(Nat.le_of_ble_eq_true rfl), (Nat.le_of_ble_eq_true rfl)⟩) hS (fun q _ h => hFc q h) hFc (fun r6 u t H locs ht hvm hw7 hB _ _ hS => ?_)
  obtain ⟨hT, hF1⟩ := hB
  rw [ht] at hT hF1
  have m8 := (hF1.fld hr_o0 skc_166 (k := 7) (by decide) (by decide)).trans hm_fo
  have m9 := (hF1.fld hr_o0 skc_166 (k := 8) (by decide) (by decide)).trans hm_po
  have hF := hF.more hF1 (by decide)
  try dsimp only at hw7
  refine lv_i2l (v := r6.toInt64) hx hb dX0_closeVote_23 rfl ?_
  refine lv_lmul hx hb dX0_closeVote_24 ?_
  refine lv_topl (fun y12 _ => ?_)
  refine W.lcmp hx hb dX0_closeVote_25 ?_
  refine lv_topi (fun x13 _ => ?_)
  have t14 : -2147483648 ≤ x13.toInt ∧ x13.toInt ≤ 2147483647 := ti_all x13
  refine lv_if_le (tgt := 33) hx hb dX0_closeVote_26 (by decide) (fun c15 => ?_) (fun c15 => ?_)
  · have t16 : x13.toInt ≤ 0 := ti_le c15 rfl (by decide)
    refine lv_iconst (v := 0) hx hb dX0_closeVote_33 (by decide) ?_
    refine lv_istore_n (lv' := [(1, .int 0), (0, .ref o0)]) hx hb dX0_closeVote_34 rfl hl (by decide) rfl (fun ls hl => ?_)
    refine lv_aload_n hx hb dX0_closeVote_35 rfl (lv_at hl 1 rfl) ?_
    refine lv_iconst (v := 0) hx hb dX0_closeVote_36 (by decide) ?_
    refine tw_put (v := .int 0) (ty := .boolean) hx hb hts bF2_X0 tyX0 tyX0_ok nmX0 hown hK hT hG hS hr_o0 shc_166 rfl 11 (by decide) (ht_at2 hts 12 rfl) (fun _ h9 => h9) rfl (by decide +kernel) rfl rfl (gl_at rfl (gi_of (show (0 : Int32).toInt = 0 from (by decide)) (by first | decide | omega) (by first | decide | omega))) dX0_closeVote_37 (fun H locs hT oq m17 oj hS => ?_)
    have hF := hF.put hr_o0 skc_166 oq oj (by decide)
    have m18 := (oj 7 (by decide) (by decide)).trans m8
    have m19 := (oj 8 (by decide) (by decide)).trans m9
    refine lv_iload_n hx hb dX0_closeVote_40 rfl (lv_at hl 0 rfl) ?_
    refine lv_if_eq (tgt := 62) hx hb dX0_closeVote_41 (by decide) (fun c22 => ?_) (fun c22 => absurd c22 (by decide))
    refine lv_iload_n hx hb dX0_closeVote_62 rfl (lv_at hl 0 rfl) ?_
    exact W.zret (v := 0) hx hb hr (by decide) (fun t ht hW => ⟨⟨0, ((0 : Int32), fo, po), rfl, (by exact ⟨(rg_t (a := 0) (by decide) (by first | decide | omega) (by first | decide | omega)), (by have : (0 : Int32).toInt = 0 := (by decide); omega), (Or.inl ⟨rfl, rfl⟩)⟩), by (try dsimp only); rw [ht]; exact ⟨hT, hF, m17, m18, m19⟩⟩, hS.F ht⟩) hS.2.2 dX0_closeVote_63
  · have t23 : 0 < x13.toInt := ti_nle c15 rfl (by decide)
    refine lv_iconst (v := 1) hx hb dX0_closeVote_29 (by decide) ?_
    refine lv_goto (tgt := 34) hx hb dX0_closeVote_30 (by decide) ?_
    refine lv_istore_n (lv' := [(1, .int 1), (0, .ref o0)]) hx hb dX0_closeVote_34 rfl hl (by decide) rfl (fun ls hl => ?_)
    refine lv_aload_n hx hb dX0_closeVote_35 rfl (lv_at hl 1 rfl) ?_
    refine lv_iconst (v := 0) hx hb dX0_closeVote_36 (by decide) ?_
    refine tw_put (v := .int 0) (ty := .boolean) hx hb hts bF2_X0 tyX0 tyX0_ok nmX0 hown hK hT hG hS hr_o0 shc_166 rfl 11 (by decide) (ht_at2 hts 12 rfl) (fun _ h9 => h9) rfl (by decide +kernel) rfl rfl (gl_at rfl (gi_of (show (0 : Int32).toInt = 0 from (by decide)) (by first | decide | omega) (by first | decide | omega))) dX0_closeVote_37 (fun H locs hT oq m24 oj hS => ?_)
    have hF := hF.put hr_o0 skc_166 oq oj (by decide)
    have m25 := (oj 7 (by decide) (by decide)).trans m8
    have m26 := (oj 8 (by decide) (by decide)).trans m9
    refine lv_iload_n hx hb dX0_closeVote_40 rfl (lv_at hl 0 rfl) ?_
    refine lv_if_eq (tgt := 62) hx hb dX0_closeVote_41 (by decide) (fun c29 => absurd c29 (by decide)) (fun c29 => ?_)
    refine lv_aload_n hx hb dX0_closeVote_44 rfl (lv_at hl 1 rfl) ?_
    refine tw_getM (v := .ref fo) hx hb hts bF2_X0 hown hK hT hr_o0 shc_166 rfl 7 (by decide) (ht_at2 hts 3 rfl) (fun _ h9 => h9) m25 dX0_closeVote_45 ?_
    refine lv_astore_n (lv' := [(2, .ref fo), (1, .int 1), (0, .ref o0)]) hx hb dX0_closeVote_48 rfl hl (by decide) rfl (fun ls hl => ?_)
    refine lv_aload_n hx hb dX0_closeVote_49 rfl (lv_at hl 2 rfl) ?_
    refine lv_aload_n hx hb dX0_closeVote_50 rfl (lv_at hl 2 rfl) ?_
    refine tw_getM (v := .ref po) hx hb hts bF2_X0 hown hK hT hr_o0 shc_166 rfl 8 (by decide) (ht_at2 hts 13 rfl) (fun _ h9 => h9) m26 dX0_closeVote_51 ?_
    refine tw_put (v := .ref po) (ty := (.object "SeaLand$Law")) hx hb hts bF2_X0 tyX0 tyX0_ok nmX0 hown hK hT hG hS hr_o0 shc_166 rfl 7 (by decide) (ht_at2 hts 3 rfl) (fun _ h9 => h9) rfl (by decide +kernel) rfl rfl (gl_at rfl ⟨_, rfl, Or.inr (Or.inl hr_po)⟩) dX0_closeVote_54 (fun H locs hT oq m30 oj hS => ?_)
    have hF := hF.put hr_o0 skc_166 oq oj (by decide)
    have m34 := (oj 11 (by decide) (by decide)).trans m24
    refine lv_aload_n hx hb dX0_closeVote_57 rfl (lv_at hl 2 rfl) ?_
    refine lv_aload_n hx hb dX0_closeVote_58 rfl (lv_at hl 0 rfl) ?_
    refine tw_put (v := .ref fo) (ty := (.object "SeaLand$Law")) hx hb hts bF2_X0 tyX0 tyX0_ok nmX0 hown hK hT hG hS hr_o0 shc_166 rfl 8 (by decide) (ht_at2 hts 13 rfl) (fun _ h9 => h9) rfl (by decide +kernel) rfl rfl (gl_at rfl ⟨_, rfl, Or.inl hr_fo⟩) dX0_closeVote_59 (fun H locs hT oq m35 oj hS => ?_)
    have hF := hF.put hr_o0 skc_166 oq oj (by decide)
    have m38 := (oj 11 (by decide) (by decide)).trans m34
    have m39 := (oj 7 (by decide) (by decide)).trans m30
    refine lv_iload_n hx hb dX0_closeVote_62 rfl (lv_at hl 1 rfl) ?_
    exact W.zret (v := 1) hx hb hr (by decide) (fun t ht hW => ⟨⟨1, ((0 : Int32), po, fo), rfl, (by exact ⟨(rg_t (a := 1) (by decide) (by first | decide | omega) (by first | decide | omega)), (by have : (0 : Int32).toInt = 0 := (by decide); omega), (Or.inr ⟨rfl, rfl⟩)⟩), by (try dsimp only); rw [ht]; exact ⟨hT, hF, m38, m39, m35⟩⟩, hS.F ht⟩) hS.2.2 dX0_closeVote_63
def w_c_closeZN : List Cond := .code yX11_close cX11_close 1 (some .boolean) :: (HAppend.hAppend (α := List Cond) (β := List Cond) (γ := List Cond) [.code yX11_needVote cX11_needVote 1 none, .fieldLink RX11 30 "SeaLand" "board" "LSeaLand$Board;", .classLink RX11 69 "java/lang/IllegalStateException", .initialized "java/lang/IllegalStateException", .methodLink RX11 296 yX11_needVote, .instanceMethod yX11_needVote, .selects RX11 yX11_needVote yX11_needVote, .initialized RX11, .code yX0_closeVote cX0_closeVote 3 (some .boolean), .fieldLink RX0 68 "SeaLand$Board" "yesVotes" "J", .constantLong RX0 92 100, .fieldLink RX0 72 "SeaLand$Board" "allVotes" "J", .fieldLink RX0 41 "SeaLand$Board" "force" "LSeaLand$Law;", .code yX4_lastOf cX4_lastOf 5 (some .int), .fieldLink RX4 60 "SeaLand$Law" "lines" "I", .fieldLink RX4 18 "SeaLand$Law" "kinds" "[I", .fieldLink RX4 21 "SeaLand$Law" "firsts" "[I", .methodLink RX0 94 yX4_lastOf, .instanceMethod yX4_lastOf, .selects RX4 yX4_lastOf yX4_lastOf, .initialized RX4, .fieldLink RX0 64 "SeaLand$Board" "voting" "Z", .methodLink RX11 303 yX0_closeVote, .instanceMethod yX0_closeVote, .selects RX0 yX0_closeVote yX0_closeVote, .initialized RX0] bs2)
set_option maxHeartbeats 4000000 in
set_option maxRecDepth 100000 in
theorem c_closeZN (l : Launch) (hlt : l.stackTraces = false) (dC : Nat → ClassId) (dI : Nat → Nat → Nat) (kA : Nat → ClassId) (adK adV : Nat → Nat) (G : gT) (H0 : Heap) (nC nS : Int) (o0 : Nat) (bd : Nat) (vo : Int32) (yv : Int64) (dv9 : Int64) (fo : Nat)  (hT : gH (dC, dI) kA (SHc nC nS) G H0) (hr_o0 : G o0 = some 167) (hm_bd : el H0 o0 (dI 14 3) = some (.ref bd)) (hr_bd : G bd = some 166) (hm_vo : el H0 bd (dI 3 11) = some (.int vo)) (hm_yv : el H0 bd (dI 3 12) = some (.long yv)) (hm_dv9 : el H0 bd (dI 3 13) = some (.long dv9)) (hm_fo : el H0 bd (dI 3 7) = some (.ref fo)) (hr_fo : G fo = some 7) (hq0 : 0 ≤ vo.toInt ∧ vo.toInt ≤ 1) (hyv : yv.toInt = 0) (hdv : dv9.toInt = 0) (hgC : 0 ≤ nC ∧ nC ≤ 40) (hgS : 0 ≤ nS ∧ nS ≤ 60) : vx_Met l yX11_close w_c_closeZN ({ frames := 7, cells := 1, slots := 6, locals := 120 }) (va_Pc [.ref o0] (fun U => U.heap = H0 ∧ va_K (dC, dI) vwCl (tyl kA) U ∧ EVC adK adV (gA G H0.size) U U.heap)) (va_Qi (fun (r : Int32) (u : Int32) => (0 ≤ r.toInt ∧ r.toInt ≤ 0) ∧ (vo.toInt = 1 ∧ u.toInt = 0)) (fun (v1 : Int32) (t : State) => gH (dC, dI) kA (SHc nC nS) G t.heap ∧ gF (dC, dI) SKc G ([(166, 11)] : List (Nat × Nat)) H0 t.heap ∧ el t.heap bd (dI 3 11) = some (.int v1)) (gA G H0.size)) (vx_X (fun _ : Unit => True) (fun E _ t => (E = "java/lang/IllegalStateException") ∧ ((E = "java/lang/IllegalStateException" ∧ vo.toInt = 0)) ∧ gH (dC, dI) kA (SHc nC nS) G t.heap ∧ gF (dC, dI) SKc G ([(166, 11)] : List (Nat × Nat)) H0 t.heap ∧ (gF (dC, dI) SKc G ([] : List (Nat × Nat)) H0 t.heap)) (gA G H0.size)) 1 6 (gA G H0.size) := by
  refine vx_ofW (cc := cX11_close) (maxL := 1) (ret := (some .boolean)) (by decide) rfl ?_
  intro p e s m args below meth c s₁ B hml hnt hv
  obtain ⟨rfl, hH0, hK, hE⟩ := hv
  have hx := B.exec
  have hb := B.bytes
  have hr := B.returns
  have hts := atoms_spec (ws := w_c_closeZN) B.pre
  have hown : s.vm.findClass RX11 = some m.cls := findClass_of_methodNamed B.named
  have hlocks := B.notSynchronized
  subst hH0
  generalize hAe : gA G s.heap.size = A at hE ⊢
  have hA : ∀ q : Nat, s.heap.size ≤ q → A q := fun q h => by rw [← hAe]; exact Or.inr h
  have hG := gA_of hAe
  have hS : va_S A s.heap s.heap [] := va_S.rf
  have hF : gF (dC, dI) SKc G ([(166, 11)] : List (Nat × Nat)) s.heap s.heap := gF.rf
  have hl := lv_entry ([.ref o0]) (n := 1) (Nat.le_of_ble_eq_true rfl)
  rw [lg_entry_eq]
  generalize (lg_sl ([.ref o0]) ++ List.replicate (1 - (lg_sl ([.ref o0])).length) Slot.unset).toArray = ls at hl ⊢
  have hl : lv_has ls 1 [(0, .ref o0)] := hl
  have hF2 : gF (dC, dI) SKc G ([] : List (Nat × Nat)) s.heap s.heap := gF.rf
  refine lv_aload_n hx hb dX11_close_0 rfl (lv_at hl 0 rfl) ?_
  have hFc := gA_free hG hA hS
  refine vx_callv (vx_runV (As := []) (rest := []) ⟨hx, hb, hml, hown, hts⟩ (c_needVoteZ l hlt dC dI kA adK adV G s.heap nC nS o0 bd vo hT hr_o0 hm_bd hr_bd hm_vo (by have q8 := ti_all vo; omega) (by omega) (by omega)) (cwV 0 hts (goodIn_app (goodIn_r _ [5, 6, 7, 8] rfl (by decide +kernel)) (goodIn_ca (goodIn_r _ [1, 2, 3, 4] rfl (by decide +kernel)) (bs2_in _ _))) rfl rfl rfl (by decide +kernel) ⟨(Nat.le_of_ble_eq_true rfl), (Nat.le_of_ble_eq_true rfl)⟩) ⟨fun a U g mk q => by obtain ⟨q0, q1, qK, qE⟩ := q; exact ⟨q0, q1, va_K.moved (u := U) (U := U.calling g mk a) (Vm.Alike.refl U.vm) qK, EVC.blind g mk a qE⟩, gH_rc hK hT hr_o0 shc_167 rfl, fun U hU hW => ⟨rfl, hU, va_K.moved hW.alike hK, hE.call hS hFc hU hW⟩⟩ rfl rfl hl.1 rfl (lv_room (Nat.le_of_ble_eq_true rfl)) dX11_close_1 ⟨(Nat.le_of_ble_eq_true rfl), (Nat.le_of_ble_eq_true rfl)⟩) hS (fun q _ h => hFc q h) hFc (fun q _ h => hFc q h) (fun E ce q9 u t H locs ht hvm _ hw2 _ _ hS hce hcv hcl => ?_) (fun u t H locs ht hvm hw2 hB _ _ hS => ?_)
  · obtain ⟨hw2, hxf, hTx, hFx⟩ := hw2; rw [ht] at hTx hFx
    exact vx_out (fun x h => (hnt x h).elim) hlocks hce hcv hcl (fun t2 h2 hW => ⟨(), trivial, ⟨((fun h9 => h9) hw2), (⟨hw2, (by first | omega | exact hxf.elim)⟩), by rw [h2]; exact hTx, by rw [h2]; exact hF.more hFx (by decide), by rw [h2]; exact hF2.more hFx (by decide)⟩, hS.F h2⟩) hS.2.2 (by decide) (by decide)
  · obtain ⟨hT, hF1⟩ := hB
    rw [ht] at hT hF1
    have m3 := (hF1.fld hr_o0 skc_167 (k := 3) (by decide) (by decide)).trans hm_bd
    have m5 := (hF1.fld hr_bd skc_166 (k := 12) (by decide) (by decide)).trans hm_yv
    have m6 := (hF1.fld hr_bd skc_166 (k := 13) (by decide) (by decide)).trans hm_dv9
    have m7 := (hF1.fld hr_bd skc_166 (k := 7) (by decide) (by decide)).trans hm_fo
    have hF := hF.more hF1 (by decide)
    have hF2 := hF2.more hF1 (by decide)
    try dsimp only at hw2
    have hf8 := hw2
    refine lv_aload_n hx hb dX11_close_4 rfl (lv_at hl 0 rfl) ?_
    refine tw_getM (v := .ref bd) hx hb hts bF2_X11 hown hK hT hr_o0 shc_167 rfl 3 (by decide) (ht_at2 hts 1 rfl) (fun _ h9 => h9) m3 dX11_close_5 ?_
    have hFc := gA_free hG hA hS
    refine va_calli (va_runV (As := []) (rest := []) ⟨hx, hb, hml, hown, hts⟩ (c_closeVoteN l dC dI kA adK adV G H nC nS bd yv dv9 fo hT hr_bd m5 m6 m7 hr_fo hyv hdv (by omega) (by omega)) (cwV 0 hts (goodIn_app (goodIn_r _ [23, 24, 25, 26] rfl (by decide +kernel)) (goodIn_ca (goodIn_r _ [9, 10, 11, 12, 13, 14, 15, 16, 17, 18, 19, 20, 21, 22] rfl (by decide +kernel)) (bs2_in _ _))) rfl rfl rfl (by decide +kernel) ⟨(Nat.le_of_ble_eq_true rfl), (Nat.le_of_ble_eq_true rfl)⟩) ⟨fun a U g mk q => by obtain ⟨q0, q1, qK, qE⟩ := q; exact ⟨q0, q1, va_K.moved (u := U) (U := U.calling g mk a) (Vm.Alike.refl U.vm) qK, EVC.blind g mk a qE⟩, gH_rc hK hT hr_bd shc_166 rfl, fun U hU hW => ⟨rfl, hU, va_K.moved hW.alike hK, hE.call hS hFc hU hW⟩⟩ rfl rfl hl.1 rfl (lv_room (Nat.le_of_ble_eq_true rfl)) dX11_close_8 ⟨(Nat.le_of_ble_eq_true rfl), (Nat.le_of_ble_eq_true rfl)⟩) hS (fun q _ h => hFc q h) hFc (fun r9 u t H locs ht hvm hw10 hB _ _ hS => ?_)
    obtain ⟨u11, rfl⟩ : ∃ z, z = u := ⟨_, rfl⟩
    obtain ⟨hT, hF1, m12⟩ := hB
    rw [ht] at hT hF1 m12
    have hF := hF.more hF1 (by decide)
    try dsimp only at hw10
    obtain ⟨h18, hf19⟩ := hw10
    exact vx_ret (W.zret (v := r9) hx hb hr (nar_b (by have q8 := ti_all r9; omega)) (fun t ht hW => ⟨⟨r9, u11, rfl, (by exact ⟨(by have q8 := ti_all r9; omega), (by omega)⟩), by (try dsimp only); rw [ht]; exact ⟨hT, hF, m12⟩⟩, hS.F ht⟩) hS.2.2 dX11_close_11)
def w_c_closeZG : List Cond := .code yX11_close cX11_close 1 (some .boolean) :: (HAppend.hAppend (α := List Cond) (β := List Cond) (γ := List Cond) [.code yX11_needVote cX11_needVote 1 none, .fieldLink RX11 30 "SeaLand" "board" "LSeaLand$Board;", .classLink RX11 69 "java/lang/IllegalStateException", .initialized "java/lang/IllegalStateException", .methodLink RX11 296 yX11_needVote, .instanceMethod yX11_needVote, .selects RX11 yX11_needVote yX11_needVote, .initialized RX11, .code yX0_closeVote cX0_closeVote 3 (some .boolean), .fieldLink RX0 68 "SeaLand$Board" "yesVotes" "J", .constantLong RX0 92 100, .fieldLink RX0 72 "SeaLand$Board" "allVotes" "J", .fieldLink RX0 41 "SeaLand$Board" "force" "LSeaLand$Law;", .code yX4_lastOf cX4_lastOf 5 (some .int), .fieldLink RX4 60 "SeaLand$Law" "lines" "I", .fieldLink RX4 18 "SeaLand$Law" "kinds" "[I", .fieldLink RX4 21 "SeaLand$Law" "firsts" "[I", .methodLink RX0 94 yX4_lastOf, .instanceMethod yX4_lastOf, .selects RX4 yX4_lastOf yX4_lastOf, .initialized RX4, .fieldLink RX0 64 "SeaLand$Board" "voting" "Z", .fieldLink RX0 45 "SeaLand$Board" "proposed" "LSeaLand$Law;", .methodLink RX11 303 yX0_closeVote, .instanceMethod yX0_closeVote, .selects RX0 yX0_closeVote yX0_closeVote, .initialized RX0] bs2)
set_option maxHeartbeats 4000000 in
set_option maxRecDepth 100000 in
theorem c_closeZG (l : Launch) (hlt : l.stackTraces = false) (dC : Nat → ClassId) (dI : Nat → Nat → Nat) (kA : Nat → ClassId) (adK adV : Nat → Nat) (G : gT) (H0 : Heap) (nC nS : Int) (o0 : Nat) (bd : Nat) (vo : Int32) (fo : Nat) (po : Nat)  (hT : gH (dC, dI) kA (SHc nC nS) G H0) (hr_o0 : G o0 = some 167) (hm_bd : el H0 o0 (dI 14 3) = some (.ref bd)) (hr_bd : G bd = some 166) (hm_vo : el H0 bd (dI 3 11) = some (.int vo)) (hm_fo : el H0 bd (dI 3 7) = some (.ref fo)) (hr_fo : G fo = some 7) (hm_po : el H0 bd (dI 3 8) = some (.ref po)) (hr_po : G po = some 140) (hq0 : 0 ≤ vo.toInt ∧ vo.toInt ≤ 1) (hgC : 0 ≤ nC ∧ nC ≤ 40) (hgS : 0 ≤ nS ∧ nS ≤ 60) : vx_Met l yX11_close w_c_closeZG ({ frames := 7, cells := 1, slots := 6, locals := 120 }) (va_Pc [.ref o0] (fun U => U.heap = H0 ∧ va_K (dC, dI) vwCl (tyl kA) U ∧ EVC adK adV (gA G H0.size) U U.heap)) (va_Qi (fun (r : Int32) (u : Int32 × Nat × Nat) => match u with | (v1, fo1, po1) => (0 ≤ r.toInt ∧ r.toInt ≤ 1) ∧ (vo.toInt = 1 ∧ v1.toInt = 0) ∧ ((fo1 = fo ∧ po1 = po) ∨ (fo1 = po ∧ po1 = fo))) (fun (u : Int32 × Nat × Nat) (t : State) => match u with | (v1, fo1, po1) => gH (dC, dI) kA (SHc nC nS) G t.heap ∧ gF (dC, dI) SKc G ([(166, 7), (166, 8), (166, 11)] : List (Nat × Nat)) H0 t.heap ∧ el t.heap bd (dI 3 11) = some (.int v1) ∧ el t.heap bd (dI 3 7) = some (.ref fo1) ∧ el t.heap bd (dI 3 8) = some (.ref po1)) (gA G H0.size)) (vx_X (fun _ : Unit => True) (fun E _ t => (E = "java/lang/IllegalStateException") ∧ ((E = "java/lang/IllegalStateException" ∧ vo.toInt = 0)) ∧ gH (dC, dI) kA (SHc nC nS) G t.heap ∧ gF (dC, dI) SKc G ([(166, 7), (166, 8), (166, 11)] : List (Nat × Nat)) H0 t.heap ∧ (gF (dC, dI) SKc G ([] : List (Nat × Nat)) H0 t.heap)) (gA G H0.size)) 1 6 (gA G H0.size) := by
  refine vx_ofW (cc := cX11_close) (maxL := 1) (ret := (some .boolean)) (by decide) rfl ?_
  intro p e s m args below meth c s₁ B hml hnt hv
  obtain ⟨rfl, hH0, hK, hE⟩ := hv
  have hx := B.exec
  have hb := B.bytes
  have hr := B.returns
  have hts := atoms_spec (ws := w_c_closeZG) B.pre
  have hown : s.vm.findClass RX11 = some m.cls := findClass_of_methodNamed B.named
  have hlocks := B.notSynchronized
  subst hH0
  generalize hAe : gA G s.heap.size = A at hE ⊢
  have hA : ∀ q : Nat, s.heap.size ≤ q → A q := fun q h => by rw [← hAe]; exact Or.inr h
  have hG := gA_of hAe
  have hS : va_S A s.heap s.heap [] := va_S.rf
  have hF : gF (dC, dI) SKc G ([(166, 7), (166, 8), (166, 11)] : List (Nat × Nat)) s.heap s.heap := gF.rf
  have hl := lv_entry ([.ref o0]) (n := 1) (Nat.le_of_ble_eq_true rfl)
  rw [lg_entry_eq]
  generalize (lg_sl ([.ref o0]) ++ List.replicate (1 - (lg_sl ([.ref o0])).length) Slot.unset).toArray = ls at hl ⊢
  have hl : lv_has ls 1 [(0, .ref o0)] := hl
  have hF2 : gF (dC, dI) SKc G ([] : List (Nat × Nat)) s.heap s.heap := gF.rf
  refine lv_aload_n hx hb dX11_close_0 rfl (lv_at hl 0 rfl) ?_
  have hFc := gA_free hG hA hS
  refine vx_callv (vx_runV (As := []) (rest := []) ⟨hx, hb, hml, hown, hts⟩ (c_needVoteZ l hlt dC dI kA adK adV G s.heap nC nS o0 bd vo hT hr_o0 hm_bd hr_bd hm_vo (by have q8 := ti_all vo; omega) (by omega) (by omega)) (cwV 0 hts (goodIn_app (goodIn_r _ [5, 6, 7, 8] rfl (by decide +kernel)) (goodIn_ca (goodIn_r _ [1, 2, 3, 4] rfl (by decide +kernel)) (bs2_in _ _))) rfl rfl rfl (by decide +kernel) ⟨(Nat.le_of_ble_eq_true rfl), (Nat.le_of_ble_eq_true rfl)⟩) ⟨fun a U g mk q => by obtain ⟨q0, q1, qK, qE⟩ := q; exact ⟨q0, q1, va_K.moved (u := U) (U := U.calling g mk a) (Vm.Alike.refl U.vm) qK, EVC.blind g mk a qE⟩, gH_rc hK hT hr_o0 shc_167 rfl, fun U hU hW => ⟨rfl, hU, va_K.moved hW.alike hK, hE.call hS hFc hU hW⟩⟩ rfl rfl hl.1 rfl (lv_room (Nat.le_of_ble_eq_true rfl)) dX11_close_1 ⟨(Nat.le_of_ble_eq_true rfl), (Nat.le_of_ble_eq_true rfl)⟩) hS (fun q _ h => hFc q h) hFc (fun q _ h => hFc q h) (fun E ce q9 u t H locs ht hvm _ hw2 _ _ hS hce hcv hcl => ?_) (fun u t H locs ht hvm hw2 hB _ _ hS => ?_)
  · obtain ⟨hw2, hxf, hTx, hFx⟩ := hw2; rw [ht] at hTx hFx
    exact vx_out (fun x h => (hnt x h).elim) hlocks hce hcv hcl (fun t2 h2 hW => ⟨(), trivial, ⟨((fun h9 => h9) hw2), (⟨hw2, (by first | omega | exact hxf.elim)⟩), by rw [h2]; exact hTx, by rw [h2]; exact hF.more hFx (by decide), by rw [h2]; exact hF2.more hFx (by decide)⟩, hS.F h2⟩) hS.2.2 (by decide) (by decide)
  · obtain ⟨hT, hF1⟩ := hB
    rw [ht] at hT hF1
    have m3 := (hF1.fld hr_o0 skc_167 (k := 3) (by decide) (by decide)).trans hm_bd
    have m5 := (hF1.fld hr_bd skc_166 (k := 7) (by decide) (by decide)).trans hm_fo
    have m6 := (hF1.fld hr_bd skc_166 (k := 8) (by decide) (by decide)).trans hm_po
    have hF := hF.more hF1 (by decide)
    have hF2 := hF2.more hF1 (by decide)
    try dsimp only at hw2
    have hf7 := hw2
    refine lv_aload_n hx hb dX11_close_4 rfl (lv_at hl 0 rfl) ?_
    refine tw_getM (v := .ref bd) hx hb hts bF2_X11 hown hK hT hr_o0 shc_167 rfl 3 (by decide) (ht_at2 hts 1 rfl) (fun _ h9 => h9) m3 dX11_close_5 ?_
    have hFc := gA_free hG hA hS
    refine va_calli (va_runV (As := []) (rest := []) ⟨hx, hb, hml, hown, hts⟩ (c_closeVoteG l dC dI kA adK adV G H nC nS bd fo po hT hr_bd m5 hr_fo m6 hr_po (by omega) (by omega)) (cwV 0 hts (goodIn_app (goodIn_r _ [24, 25, 26, 27] rfl (by decide +kernel)) (goodIn_ca (goodIn_r _ [9, 10, 11, 12, 13, 14, 15, 16, 17, 18, 19, 20, 21, 22, 23] rfl (by decide +kernel)) (bs2_in _ _))) rfl rfl rfl (by decide +kernel) ⟨(Nat.le_of_ble_eq_true rfl), (Nat.le_of_ble_eq_true rfl)⟩) ⟨fun a U g mk q => by obtain ⟨q0, q1, qK, qE⟩ := q; exact ⟨q0, q1, va_K.moved (u := U) (U := U.calling g mk a) (Vm.Alike.refl U.vm) qK, EVC.blind g mk a qE⟩, gH_rc hK hT hr_bd shc_166 rfl, fun U hU hW => ⟨rfl, hU, va_K.moved hW.alike hK, hE.call hS hFc hU hW⟩⟩ rfl rfl hl.1 rfl (lv_room (Nat.le_of_ble_eq_true rfl)) dX11_close_8 ⟨(Nat.le_of_ble_eq_true rfl), (Nat.le_of_ble_eq_true rfl)⟩) hS (fun q _ h => hFc q h) hFc (fun r8 u t H locs ht hvm hw9 hB _ _ hS => ?_)
    obtain ⟨u10, u11, u12⟩ := u
    obtain ⟨hT, hF1, m13, m14, m15⟩ := hB
    rw [ht] at hT hF1 m13 m14 m15
    have hF := hF.more hF1 (by decide)
    try dsimp only at hw9
    obtain ⟨h20, hf21, hf22⟩ := hw9
    exact vx_ret (W.zret (v := r8) hx hb hr (nar_b (by have q8 := ti_all r8; omega)) (fun t ht hW => ⟨⟨r8, (u10, u11, u12), rfl, (by exact ⟨(by have q8 := ti_all r8; omega), (by omega), hf22⟩), by (try dsimp only); rw [ht]; exact ⟨hT, hF, m13, m14, m15⟩⟩, hS.F ht⟩) hS.2.2 dX11_close_11)

