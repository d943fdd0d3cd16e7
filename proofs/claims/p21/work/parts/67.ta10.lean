set_option maxHeartbeats 4000000 in
set_option maxRecDepth 100000 in
theorem c_chooseH (l : Launch) (hlt : l.stackTraces = false) (dC : Nat → ClassId) (dI : Nat → Nat → Nat) (kA : Nat → ClassId) (adK adV : Nat → Nat) (G : gT) (H0 : Heap) (nC nS : Int) (o0 : Nat) (p0 : Int32) (bd : Nat) (hd9 : Nat) (hv0 : Int32) (vh : Nat → Int32)  (hT : gH (dC, dI) kA (SHc nC nS) G H0) (hr_o0 : G o0 = some 14) (hm_bd : el H0 o0 (dI 14 3) = some (.ref bd)) (hr_bd : G bd = some 3) (hm_hd9 : el H0 bd (dI 3 3) = some (.ref hd9)) (hr_hd9 : G hd9 = some 54) (hm_hv0 : el H0 bd (dI 3 15) = some (.int hv0)) (hq0 : 0 ≤ hv0.toInt ∧ hv0.toInt ≤ 30) (hct : zct vh 30 = hv0.toInt) (hc_vh : ct H0 hd9 30 vh) (hgC : 0 ≤ nC ∧ nC ≤ 40) (hgS : 0 ≤ nS ∧ nS ≤ 60) : vx_Met l yX11_choose w_c_chooseH ({ frames := 7, cells := 1, slots := 6, locals := 161 }) (va_Pc [.ref o0, .int p0] (fun U => U.heap = H0 ∧ va_K (dC, dI) vwCl (tyl kA) U ∧ EVC adK adV (gA G H0.size) U U.heap)) (va_Qi (fun (r : Int32) (u : Int32 × (Nat → Int32)) => match u with | (hl1, vh1) => (0 ≤ r.toInt ∧ r.toInt ≤ 60) ∧ (zct vh1 30 = hl1.toInt ∧ hv0.toInt ≤ hl1.toInt)) (fun (u : Int32 × (Nat → Int32)) (t : State) => match u with | (hl1, vh1) => gH (dC, dI) kA (SHc nC nS) G t.heap ∧ gF (dC, dI) SKc G ([(3, 15), (10, 7), (50, 0), (54, 0), (56, 0), (57, 0)] : List (Nat × Nat)) H0 t.heap ∧ el t.heap bd (dI 3 15) = some (.int hl1) ∧ ct t.heap hd9 30 vh1) (gA G H0.size)) (vx_X (fun _ : Unit => True) (fun E _ t => (E = "java/lang/IllegalArgumentException") ∧ ((E = "java/lang/IllegalArgumentException" ∧ ¬ (0 ≤ p0.toInt ∧ p0.toInt ≤ 60))) ∧ gH (dC, dI) kA (SHc nC nS) G t.heap ∧ gF (dC, dI) SKc G ([(3, 15), (10, 7), (50, 0), (54, 0), (56, 0), (57, 0)] : List (Nat × Nat)) H0 t.heap ∧ (gF (dC, dI) SKc G ([] : List (Nat × Nat)) H0 t.heap)) (gA G H0.size)) 1 6 (gA G H0.size) := by
  refine vx_ofW (cc := cX11_choose) (maxL := 2) (ret := (some .int)) (by decide) rfl ?_
  intro p e s m args below meth c s₁ B hml hnt hv
  obtain ⟨rfl, hH0, hK, hE⟩ := hv
  have hx := B.exec
  have hb := B.bytes
  have hr := B.returns
  have hts := atoms_spec (ws := w_c_chooseH) B.pre
  have hown : s.vm.findClass RX11 = some m.cls := findClass_of_methodNamed B.named
  have hlocks := B.notSynchronized
  subst hH0
  generalize hAe : gA G s.heap.size = A at hE ⊢
  have hA : ∀ q : Nat, s.heap.size ≤ q → A q := fun q h => by rw [← hAe]; exact Or.inr h
  have hG := gA_of hAe
  have hS : va_S A s.heap s.heap [] := va_S.rf
  have hF : gF (dC, dI) SKc G ([(3, 15), (10, 7), (50, 0), (54, 0), (56, 0), (57, 0)] : List (Nat × Nat)) s.heap s.heap := gF.rf
  have hl := lv_entry ([.ref o0, .int p0]) (n := 2) (Nat.le_of_ble_eq_true rfl)
  rw [lg_entry_eq]
  generalize (lg_sl ([.ref o0, .int p0]) ++ List.replicate (2 - (lg_sl ([.ref o0, .int p0])).length) Slot.unset).toArray = ls at hl ⊢
  have hl : lv_has ls 2 [(0, .ref o0), (1, .int p0)] := hl
  have hF2 : gF (dC, dI) SKc G ([] : List (Nat × Nat)) s.heap s.heap := gF.rf
  refine lv_iload_n hx hb dX11_choose_0 rfl (lv_at hl 1 rfl) ?_
  refine lv_iconst (v := 0) hx hb dX11_choose_1 (by decide) ?_
  refine lv_bipush (v := 60) hx hb dX11_choose_2 (by decide) ?_
  have hFc := gA_free hG hA hS
  refine va_calli (va_runS (As := [.int p0, .int 0, .int 60]) (rest := []) ⟨hx, hb, hml, hown, hts⟩ (c_within l dC dI kA adK adV G s.heap nC nS p0 0 60 hT (by omega) (by omega)) (va_cwS 3 hts (goodIn_app (goodIn_r _ [2, 3, 4] rfl (by decide +kernel)) (goodIn_ca (goodIn_r _ [1] rfl (by decide +kernel)) (bs2_in _ _))) rfl rfl rfl (by decide +kernel) ⟨(Nat.le_of_ble_eq_true rfl), (Nat.le_of_ble_eq_true rfl)⟩) ⟨fun a U g mk q => by obtain ⟨q0, q1, qK, qE⟩ := q; exact ⟨q0, q1, va_K.moved (u := U) (U := U.calling g mk a) (Vm.Alike.refl U.vm) qK, EVC.blind g mk a qE⟩, fun U hU hW => ⟨rfl, hU, va_K.moved hW.alike hK, hE.call hS hFc hU hW⟩⟩ rfl rfl hl.1 rfl (lv_room (Nat.le_of_ble_eq_true rfl)) dX11_choose_4 ⟨(Nat.le_of_ble_eq_true rfl), (Nat.le_of_ble_eq_true rfl)⟩) hS (fun q _ h => hFc q h) hFc (fun r1 u t H locs ht hvm hw2 hB _ _ hS => ?_)
  obtain ⟨hT, hF1⟩ := hB
  rw [ht] at hT hF1
  have m3 := (hF1.fld hr_o0 skc_14 (k := 3) (by decide) (by decide)).trans hm_bd
  have m4 := (hF1.fld hr_bd skc_3 (k := 3) (by decide) (by decide)).trans hm_hd9
  have m5 := (hF1.fld hr_bd skc_3 (k := 15) (by decide) (by decide)).trans hm_hv0
  have m6 := hc_vh.kept (hF1.arr hr_hd9 skc_54 (by decide))
  have hF := hF.more hF1 (by decide)
  have hF2 := hF2.more hF1 (by decide)
  try dsimp only at hw2
  obtain ⟨h7, hi8, hi9⟩ := hw2
  have hb10 : r1 = 0 ∨ r1 = 1 := bit_of ⟨by omega, by omega⟩
  rcases hb10 with rfl | rfl
  · have t11 : (0 : Int32).toInt = 0 := by decide
    have t12 : (60 : Int32).toInt = 60 := by decide
    have t13 : p0.toInt < (0 : Int32).toInt ∨ (60 : Int32).toInt < p0.toInt := hi9 rfl
    have hFc := gA_free hG hA hS
    refine vx_callN (vx_runS (As := [.int 0]) (rest := []) ⟨hx, hb, hml, hown, hts⟩ (c_needNumbers0 l hlt dC dI kA adK adV G H nC nS hT (by omega) (by omega)) (va_cwS 1 hts (goodIn_app (goodIn_r _ [8, 9, 4] rfl (by decide +kernel)) (goodIn_ca (goodIn_r _ [5, 6, 7] rfl (by decide +kernel)) (bs2_in _ _))) rfl rfl rfl (by decide +kernel) ⟨(Nat.le_of_ble_eq_true rfl), (Nat.le_of_ble_eq_true rfl)⟩) ⟨fun a U g mk q => by obtain ⟨q0, q1, qK, qE⟩ := q; exact ⟨q0, q1, va_K.moved (u := U) (U := U.calling g mk a) (Vm.Alike.refl U.vm) qK, EVC.blind g mk a qE⟩, fun U hU hW => ⟨rfl, hU, va_K.moved hW.alike hK, hE.call hS hFc hU hW⟩⟩ rfl rfl hl.1 rfl (lv_room (Nat.le_of_ble_eq_true rfl)) dX11_choose_7 ⟨(Nat.le_of_ble_eq_true rfl), (Nat.le_of_ble_eq_true rfl)⟩) hS hFc (fun q _ h => hFc q h) (fun E ce q9 u t H locs ht hvm _ hw15 _ _ hS hce hcv hcl => ?_)
    obtain ⟨hw15, hTx, hFx⟩ := hw15; rw [ht] at hTx hFx
    exact vx_out (fun x h => (hnt x h).elim) hlocks hce hcv hcl (fun t2 h2 hW => ⟨(), trivial, ⟨((fun h9 => h9) hw15), (⟨hw15, (by first | omega | exact hxf.elim)⟩), by rw [h2]; exact hTx, by rw [h2]; exact hF.more hFx (by decide), by rw [h2]; exact hF2.more hFx (by decide)⟩, hS.F h2⟩) hS.2.2 (by decide) (by decide)
  · have t16 : (0 : Int32).toInt = 0 := by decide
    have t17 : (60 : Int32).toInt = 60 := by decide
    have t18 : (0 : Int32).toInt ≤ p0.toInt ∧ p0.toInt ≤ (60 : Int32).toInt := hi8 rfl
    have hFc := gA_free hG hA hS
    refine vx_callv (vx_runS (As := [.int 1]) (rest := []) ⟨hx, hb, hml, hown, hts⟩ (c_needNumbers1X l hlt dC dI kA adK adV G H nC nS hT (by omega) (by omega)) (va_cwS 1 hts (goodIn_app (goodIn_r _ [8, 9, 4] rfl (by decide +kernel)) (goodIn_ca (goodIn_r _ [5] rfl (by decide +kernel)) (bs2_in _ _))) rfl rfl rfl (by decide +kernel) ⟨(Nat.le_of_ble_eq_true rfl), (Nat.le_of_ble_eq_true rfl)⟩) ⟨fun a U g mk q => by obtain ⟨q0, q1, qK, qE⟩ := q; exact ⟨q0, q1, va_K.moved (u := U) (U := U.calling g mk a) (Vm.Alike.refl U.vm) qK, EVC.blind g mk a qE⟩, fun U hU hW => ⟨rfl, hU, va_K.moved hW.alike hK, hE.call hS hFc hU hW⟩⟩ rfl rfl hl.1 rfl (lv_room (Nat.le_of_ble_eq_true rfl)) dX11_choose_7 ⟨(Nat.le_of_ble_eq_true rfl), (Nat.le_of_ble_eq_true rfl)⟩) hS (fun q _ h => hFc q h) hFc (fun q _ h => hFc q h) (fun E ce q9 u t H locs ht hvm _ hw20 _ _ hS hce hcv hcl => ?_) (fun u t H locs ht hvm hw20 hB _ _ hS => ?_)
    · obtain ⟨hw20, hxf, hTx, hFx⟩ := hw20; rw [ht] at hTx hFx
      exact vx_out (fun x h => (hnt x h).elim) hlocks hce hcv hcl (fun t2 h2 hW => ⟨(), trivial, ⟨((fun h9 => h9) hw20), (⟨hw20, (by first | omega | exact hxf.elim)⟩), by rw [h2]; exact hTx, by rw [h2]; exact hF.more hFx (by decide), by rw [h2]; exact hF2.more hFx (by decide)⟩, hS.F h2⟩) hS.2.2 (by decide) (by decide)
    · obtain ⟨hT, hF1⟩ := hB
      rw [ht] at hT hF1
      have m21 := (hF1.fld hr_o0 skc_14 (k := 3) (by decide) (by decide)).trans m3
      have m22 := (hF1.fld hr_bd skc_3 (k := 3) (by decide) (by decide)).trans m4
      have m23 := (hF1.fld hr_bd skc_3 (k := 15) (by decide) (by decide)).trans m5
      have m24 := m6.kept (hF1.arr hr_hd9 skc_54 (by decide))
      have hF := hF.more hF1 (by decide)
      have hF2 := hF2.more hF1 (by decide)
      try dsimp only at hw20
      refine lv_aload_n hx hb dX11_choose_10 rfl (lv_at hl 0 rfl) ?_
      refine tw_getM (v := .ref bd) hx hb hts bF2_X11 hown hK hT hr_o0 shc_14 rfl 3 (by decide) (ht_at2 hts 9 rfl) (fun _ h9 => h9) m21 dX11_choose_11 ?_
      refine lv_iload_n hx hb dX11_choose_14 rfl (lv_at hl 1 rfl) ?_
      refine lv_aload_n hx hb dX11_choose_15 rfl (lv_at hl 0 rfl) ?_
      refine tw_get hx hb hts bF2_X11 hown hK hT hr_o0 shc_14 rfl 1 (by decide) (ht_at2 hts 10 rfl) (fun _ h9 => h9) dX11_choose_16 (fun v9 m25 h9 => ?_)
      obtain ⟨b26, rfl, hg27⟩ := h9 _ rfl
      have hFc := gA_free hG hA hS
      refine va_calli (va_runV (As := [.int p0, .ref b26]) (rest := []) ⟨hx, hb, hml, hown, hts⟩ (c_giveFarmsH l dC dI kA adK adV G H nC nS bd p0 b26 hd9 hv0 vh hT hg27 hr_bd m22 hr_hd9 m23 (by have q8 := ti_all p0; omega) (by have q8 := ti_all hv0; omega) hct m24 (by omega) (by omega)) (cwV 2 hts (goodIn_app (goodIn_r _ [107, 108, 109, 21] rfl (by decide +kernel)) (goodIn_ca (goodIn_r _ [12, 13, 14, 15, 16, 17, 18, 19, 20, 21, 22, 23, 24, 25, 26, 27, 28, 29, 30, 31, 32, 33, 34, 35, 36, 37, 38, 39, 40, 41, 42, 43, 44, 45, 46, 47, 48, 49, 50, 51, 52, 53, 54, 55, 56, 4, 57, 58, 59, 60, 61, 62, 63, 64, 65, 66, 67, 68, 69, 70, 71, 72, 73, 74, 75, 76, 77, 78, 79, 80, 81, 82, 83, 84, 85, 86, 87, 88, 89, 90, 91, 92, 93, 94, 95, 96, 97, 98, 99, 100, 101, 102, 103, 104, 105, 106] rfl (by decide +kernel)) (bs2_in _ _))) rfl rfl rfl (by decide +kernel) ⟨(Nat.le_of_ble_eq_true rfl), (Nat.le_of_ble_eq_true rfl)⟩) ⟨fun a U g mk q => by obtain ⟨q0, q1, qK, qE⟩ := q; exact ⟨q0, q1, va_K.moved (u := U) (U := U.calling g mk a) (Vm.Alike.refl U.vm) qK, EVC.blind g mk a qE⟩, gH_rc hK hT hr_bd shc_3 rfl, fun U hU hW => ⟨rfl, hU, va_K.moved hW.alike hK, hE.call hS hFc hU hW⟩⟩ rfl rfl hl.1 rfl (lv_room (Nat.le_of_ble_eq_true rfl)) dX11_choose_19 ⟨(Nat.le_of_ble_eq_true rfl), (Nat.le_of_ble_eq_true rfl)⟩) hS (fun q _ h => hFc q h) hFc (fun r28 u t H locs ht hvm hw29 hB _ _ hS => ?_)
      obtain ⟨u30, u31⟩ := u
      obtain ⟨hT, hF1, m32, m33⟩ := hB
      rw [ht] at hT hF1 m32 m33
      have hF := hF.more hF1 (by decide)
      try dsimp only at hw29
      obtain ⟨h39, hf40⟩ := hw29
      refine W.widen (k := 1) (n := 6) (by decide) (by decide) ?_
      exact vx_ret (W.iret (v := r28) hx hb hr (fun t ht hW => ⟨⟨r28, (u30, u31), rfl, (by exact ⟨(by have q8 := ti_all r28; omega), hf40⟩), by (try dsimp only); rw [ht]; exact ⟨hT, hF, m32, m33⟩⟩, hS.F ht⟩) hS.2.2 dX11_choose_22)
def w_c_foundSpareZ : List Cond := .code yX0_foundSpare cX0_foundSpare 2 (some .int) :: (HAppend.hAppend (α := List Cond) (β := List Cond) (γ := List Cond) [.fieldLink RX0 41 "SeaLand$Board" "force" "LSeaLand$Law;", .fieldLink RX0 48 "SeaLand$Board" "spare" "LSeaLand$Law;"] bs2)
set_option maxHeartbeats 4000000 in
set_option maxRecDepth 100000 in
theorem c_foundSpareZ (l : Launch) (dC : Nat → ClassId) (dI : Nat → Nat → Nat) (kA : Nat → ClassId) (adK adV : Nat → Nat) (G : gT) (H0 : Heap) (nC nS : Int) (o0 : Nat) (fo : Nat) (sp : Nat) (l9 : Int32)  (hT : gH (dC, dI) kA (SHc nC nS) G H0) (hr_o0 : G o0 = some 166) (hm_fo : el H0 o0 (dI 3 7) = some (.ref fo)) (hr_fo : G fo = some 7) (hm_sp : el H0 o0 (dI 3 9) = some (.ref sp)) (hr_sp : G sp = some 152) (hm_l9 : el H0 sp (dI 7 11) = some (.int l9)) (hgC : 0 ≤ nC ∧ nC ≤ 40) (hgS : 0 ≤ nS ∧ nS ≤ 60) : Met l yX0_foundSpare w_c_foundSpareZ ({ frames := 0, cells := 0, slots := 0, locals := 0 }) (va_Pc [.ref o0] (fun U => U.heap = H0 ∧ va_K (dC, dI) vwCl (tyl kA) U ∧ EVC adK adV (gA G H0.size) U U.heap)) (va_Qi (fun (r : Int32) (u : Unit) => (r = l9)) (fun (_ : Unit) (t : State) => gH (dC, dI) kA (SHc nC nS) G t.heap ∧ gF (dC, dI) SKc G ([(166, 7), (166, 9)] : List (Nat × Nat)) H0 t.heap ∧ el t.heap o0 (dI 3 7) = some (.ref sp) ∧ el t.heap o0 (dI 3 9) = some (.ref fo)) (gA G H0.size)) 0 0 (gA G H0.size) := by
  refine Met.ofW (cc := cX0_foundSpare) (maxL := 2) (ret := (some .int)) (by decide) rfl ?_
  intro p e s m args below meth c s₁ B hml hv
  obtain ⟨rfl, hH0, hK, hE⟩ := hv
  have hx := B.exec
  have hb := B.bytes
  have hr := B.returns
  have hts := atoms_spec (ws := w_c_foundSpareZ) B.pre
  have hown : s.vm.findClass RX0 = some m.cls := findClass_of_methodNamed B.named
  have hlocks := B.notSynchronized
  subst hH0
  generalize hAe : gA G s.heap.size = A at hE ⊢
  have hA : ∀ q : Nat, s.heap.size ≤ q → A q := fun q h => by rw [← hAe]; exact Or.inr h
  have hG := gA_of hAe
  have hS : va_S A s.heap s.heap [] := va_S.rf
  have hF : gF (dC, dI) SKc G ([(166, 7), (166, 9)] : List (Nat × Nat)) s.heap s.heap := gF.rf
  have hl := lv_entry ([.ref o0]) (n := 2) (Nat.le_of_ble_eq_true rfl)
  rw [lg_entry_eq]
  generalize (lg_sl ([.ref o0]) ++ List.replicate (2 - (lg_sl ([.ref o0])).length) Slot.unset).toArray = ls at hl ⊢
  have hl : lv_has ls 2 [(0, .ref o0)] := hl
  refine lv_aload_n hx hb dX0_foundSpare_0 rfl (lv_at hl 0 rfl) ?_
  refine tw_getM (v := .ref fo) hx hb hts bF2_X0 hown hK hT hr_o0 shc_166 rfl 7 (by decide) (ht_at2 hts 0 rfl) (fun _ h9 => h9) hm_fo dX0_foundSpare_1 ?_
  refine lv_astore_n (lv' := [(1, .ref fo), (0, .ref o0)]) hx hb dX0_foundSpare_4 rfl hl (by decide) rfl (fun ls hl => ?_)
  refine lv_aload_n hx hb dX0_foundSpare_5 rfl (lv_at hl 1 rfl) ?_
  refine lv_aload_n hx hb dX0_foundSpare_6 rfl (lv_at hl 1 rfl) ?_
  refine tw_getM (v := .ref sp) hx hb hts bF2_X0 hown hK hT hr_o0 shc_166 rfl 9 (by decide) (ht_at2 hts 1 rfl) (fun _ h9 => h9) hm_sp dX0_foundSpare_7 ?_
  refine tw_put (v := .ref sp) (ty := (.object "SeaLand$Law")) hx hb hts bF2_X0 tyX0 tyX0_ok nmX0 hown hK hT hG hS hr_o0 shc_166 rfl 7 (by decide) (ht_at2 hts 0 rfl) (fun _ h9 => h9) rfl (by decide +kernel) rfl rfl (gl_at rfl ⟨_, rfl, Or.inr (Or.inr hr_sp)⟩) dX0_foundSpare_10 (fun H locs hT oq m1 oj hS => ?_)
  have hF := hF.put hr_o0 skc_166 oq oj (by decide)
  have m3 := (el_kept (oq _ (gne hr_sp hr_o0 (by decide)))).trans hm_l9
  refine lv_aload_n hx hb dX0_foundSpare_13 rfl (lv_at hl 1 rfl) ?_
  refine lv_aload_n hx hb dX0_foundSpare_14 rfl (lv_at hl 0 rfl) ?_
  refine tw_put (v := .ref fo) (ty := (.object "SeaLand$Law")) hx hb hts bF2_X0 tyX0 tyX0_ok nmX0 hown hK hT hG hS hr_o0 shc_166 rfl 9 (by decide) (ht_at2 hts 1 rfl) (fun _ h9 => h9) rfl (by decide +kernel) rfl rfl (gl_at rfl ⟨_, rfl, Or.inl hr_fo⟩) dX0_foundSpare_15 (fun H locs hT oq m4 oj hS => ?_)
  have hF := hF.put hr_o0 skc_166 oq oj (by decide)
  have m5 := (el_kept (oq _ (gne hr_sp hr_o0 (by decide)))).trans m3
  have m6 := (oj 7 (by decide) (by decide)).trans m1
  refine lv_aload_n hx hb dX0_foundSpare_18 rfl (lv_at hl 1 rfl) ?_
  refine tw_getM (v := .ref sp) hx hb hts bF2_X0 hown hK hT hr_o0 shc_166 rfl 7 (by decide) (ht_at2 hts 0 rfl) (fun _ h9 => h9) m6 dX0_foundSpare_19 ?_
  refine tw_getNM (v := .int l9) hx hb hts bF2_X4 hown hK hT hr_sp shc_152 rfl 11 (by decide) (hE.nw 59 rfl) (fun _ h9 => h9) m5 dX0_foundSpare_22 ?_
  exact W.iret (v := l9) hx hb hr (fun t ht hW => ⟨⟨l9, (), rfl, (by exact rfl), by (try dsimp only); rw [ht]; exact ⟨hT, hF, m6, m4⟩⟩, hS.F ht⟩) hS.2.2 dX0_foundSpare_25
def w_c_proposeSpareZ : List Cond := .code yX0_proposeSpare cX0_proposeSpare 3 (some .int) :: (HAppend.hAppend (α := List Cond) (β := List Cond) (γ := List Cond) [.fieldLink RX0 45 "SeaLand$Board" "proposed" "LSeaLand$Law;", .fieldLink RX0 48 "SeaLand$Board" "spare" "LSeaLand$Law;", .fieldLink RX0 64 "SeaLand$Board" "voting" "Z", .fieldLink RX0 68 "SeaLand$Board" "yesVotes" "J", .fieldLink RX0 72 "SeaLand$Board" "allVotes" "J", .fieldLink RX0 75 "SeaLand$Board" "settled" "I", .fieldLink RX0 11 "SeaLand$Board" "settlers" "[LSeaLand$Settler;"] bs2)
set_option maxHeartbeats 4000000 in
set_option maxRecDepth 100000 in
theorem c_proposeSpareZ (l : Launch) (dC : Nat → ClassId) (dI : Nat → Nat → Nat) (kA : Nat → ClassId) (adK adV : Nat → Nat) (G : gT) (H0 : Heap) (nC nS : Int) (o0 : Nat) (po : Nat) (sp : Nat) (l9 : Int32) (sd9 : Int32)  (hT : gH (dC, dI) kA (SHc nC nS) G H0) (hr_o0 : G o0 = some 166) (hm_po : el H0 o0 (dI 3 8) = some (.ref po)) (hr_po : G po = some 140) (hm_sp : el H0 o0 (dI 3 9) = some (.ref sp)) (hr_sp : G sp = some 152) (hm_l9 : el H0 sp (dI 7 11) = some (.int l9)) (hm_sd9 : el H0 o0 (dI 3 14) = some (.int sd9)) (hq0 : 0 ≤ sd9.toInt ∧ sd9.toInt ≤ 60) (hsd : sd9.toInt = nS) (hgC : 0 ≤ nC ∧ nC ≤ 40) (hgS : 0 ≤ nS ∧ nS ≤ 60) : Met l yX0_proposeSpare w_c_proposeSpareZ ({ frames := 0, cells := 0, slots := 0, locals := 0 }) (va_Pc [.ref o0] (fun U => U.heap = H0 ∧ va_K (dC, dI) vwCl (tyl kA) U ∧ EVC adK adV (gA G H0.size) U U.heap)) (va_Qi (fun (r : Int32) (u : Int32) => (u.toInt = 1) ∧ (r = l9)) (fun (v1 : Int32) (t : State) => gH (dC, dI) kA (SHc nC nS) G t.heap ∧ gF (dC, dI) SKc G ([(10, 11), (166, 8), (166, 9), (166, 11), (166, 12), (166, 13)] : List (Nat × Nat)) H0 t.heap ∧ el t.heap o0 (dI 3 11) = some (.int v1) ∧ el t.heap o0 (dI 3 8) = some (.ref sp) ∧ el t.heap o0 (dI 3 9) = some (.ref po) ∧ el t.heap o0 (dI 3 12) = some (.long 0) ∧ el t.heap o0 (dI 3 13) = some (.long 0)) (gA G H0.size)) 0 0 (gA G H0.size) := by
  refine Met.ofW (cc := cX0_proposeSpare) (maxL := 3) (ret := (some .int)) (by decide) rfl ?_
  intro p e s m args below meth c s₁ B hml hv
  obtain ⟨rfl, hH0, hK, hE⟩ := hv
  have hx := B.exec
  have hb := B.bytes
  have hr := B.returns
  have hts := atoms_spec (ws := w_c_proposeSpareZ) B.pre
  have hown : s.vm.findClass RX0 = some m.cls := findClass_of_methodNamed B.named
  have hlocks := B.notSynchronized
  subst hH0
  generalize hAe : gA G s.heap.size = A at hE ⊢
  have hA : ∀ q : Nat, s.heap.size ≤ q → A q := fun q h => by rw [← hAe]; exact Or.inr h
  have hG := gA_of hAe
  have hS : va_S A s.heap s.heap [] := va_S.rf
  have hF : gF (dC, dI) SKc G ([(10, 11), (166, 8), (166, 9), (166, 11), (166, 12), (166, 13)] : List (Nat × Nat)) s.heap s.heap := gF.rf
  have hl := lv_entry ([.ref o0]) (n := 3) (Nat.le_of_ble_eq_true rfl)
  rw [lg_entry_eq]
  generalize (lg_sl ([.ref o0]) ++ List.replicate (3 - (lg_sl ([.ref o0])).length) Slot.unset).toArray = ls at hl ⊢
  have hl : lv_has ls 3 [(0, .ref o0)] := hl
  refine lv_aload_n hx hb dX0_proposeSpare_0 rfl (lv_at hl 0 rfl) ?_
  refine tw_getM (v := .ref po) hx hb hts bF2_X0 hown hK hT hr_o0 shc_166 rfl 8 (by decide) (ht_at2 hts 0 rfl) (fun _ h9 => h9) hm_po dX0_proposeSpare_1 ?_
  refine lv_astore_n (lv' := [(1, .ref po), (0, .ref o0)]) hx hb dX0_proposeSpare_4 rfl hl (by decide) rfl (fun ls hl => ?_)
  refine lv_aload_n hx hb dX0_proposeSpare_5 rfl (lv_at hl 1 rfl) ?_
  refine lv_aload_n hx hb dX0_proposeSpare_6 rfl (lv_at hl 1 rfl) ?_
  refine tw_getM (v := .ref sp) hx hb hts bF2_X0 hown hK hT hr_o0 shc_166 rfl 9 (by decide) (ht_at2 hts 1 rfl) (fun _ h9 => h9) hm_sp dX0_proposeSpare_7 ?_
  refine tw_put (v := .ref sp) (ty := (.object "SeaLand$Law")) hx hb hts bF2_X0 tyX0 tyX0_ok nmX0 hown hK hT hG hS hr_o0 shc_166 rfl 8 (by decide) (ht_at2 hts 0 rfl) (fun _ h9 => h9) rfl (by decide +kernel) rfl rfl (gl_at rfl ⟨_, rfl, Or.inr (Or.inr hr_sp)⟩) dX0_proposeSpare_10 (fun H locs hT oq m1 oj hS => ?_)
  have hF := hF.put hr_o0 skc_166 oq oj (by decide)
  have m3 := (el_kept (oq _ (gne hr_sp hr_o0 (by decide)))).trans hm_l9
  have m4 := (oj 14 (by decide) (by decide)).trans hm_sd9
  refine lv_aload_n hx hb dX0_proposeSpare_13 rfl (lv_at hl 1 rfl) ?_
  refine lv_aload_n hx hb dX0_proposeSpare_14 rfl (lv_at hl 0 rfl) ?_
  refine tw_put (v := .ref po) (ty := (.object "SeaLand$Law")) hx hb hts bF2_X0 tyX0 tyX0_ok nmX0 hown hK hT hG hS hr_o0 shc_166 rfl 9 (by decide) (ht_at2 hts 1 rfl) (fun _ h9 => h9) rfl (by decide +kernel) rfl rfl (gl_at rfl ⟨_, rfl, Or.inr (Or.inl hr_po)⟩) dX0_proposeSpare_15 (fun H locs hT oq m5 oj hS => ?_)
  have hF := hF.put hr_o0 skc_166 oq oj (by decide)
  have m6 := (el_kept (oq _ (gne hr_sp hr_o0 (by decide)))).trans m3
  have m7 := (oj 14 (by decide) (by decide)).trans m4
  have m8 := (oj 8 (by decide) (by decide)).trans m1
  refine lv_aload_n hx hb dX0_proposeSpare_18 rfl (lv_at hl 1 rfl) ?_
  refine lv_iconst (v := 1) hx hb dX0_proposeSpare_19 (by decide) ?_
  refine tw_put (v := .int 1) (ty := .boolean) hx hb hts bF2_X0 tyX0 tyX0_ok nmX0 hown hK hT hG hS hr_o0 shc_166 rfl 11 (by decide) (ht_at2 hts 2 rfl) (fun _ h9 => h9) rfl (by decide +kernel) rfl rfl (gl_at rfl (gi_of (show (1 : Int32).toInt = 1 from (by decide)) (by first | decide | omega) (by first | decide | omega))) dX0_proposeSpare_20 (fun H locs hT oq m9 oj hS => ?_)
  have hF := hF.put hr_o0 skc_166 oq oj (by decide)
  have m10 := (el_kept (oq _ (gne hr_sp hr_o0 (by decide)))).trans m6
  have m11 := (oj 14 (by decide) (by decide)).trans m7
  have m12 := (oj 8 (by decide) (by decide)).trans m8
  have m13 := (oj 9 (by decide) (by decide)).trans m5
  refine lv_aload_n hx hb dX0_proposeSpare_23 rfl (lv_at hl 1 rfl) ?_
  refine lv_lconst (v := 0) hx hb dX0_proposeSpare_24 (by decide) ?_
  refine tw_put (v := .long 0) (ty := .long) hx hb hts bF2_X0 tyX0 tyX0_ok nmX0 hown hK hT hG hS hr_o0 shc_166 rfl 12 (by decide) (ht_at2 hts 3 rfl) (fun _ h9 => h9) rfl (by decide +kernel) rfl rfl (gl_at rfl ⟨_, rfl⟩) dX0_proposeSpare_25 (fun H locs hT oq m14 oj hS => ?_)
  have hF := hF.put hr_o0 skc_166 oq oj (by decide)
  have m15 := (el_kept (oq _ (gne hr_sp hr_o0 (by decide)))).trans m10
  have m16 := (oj 14 (by decide) (by decide)).trans m11
  have m17 := (oj 8 (by decide) (by decide)).trans m12
  have m18 := (oj 9 (by decide) (by decide)).trans m13
  have m19 := (oj 11 (by decide) (by decide)).trans m9
  refine lv_aload_n hx hb dX0_proposeSpare_28 rfl (lv_at hl 1 rfl) ?_
  refine lv_lconst (v := 0) hx hb dX0_proposeSpare_29 (by decide) ?_
  refine tw_put (v := .long 0) (ty := .long) hx hb hts bF2_X0 tyX0 tyX0_ok nmX0 hown hK hT hG hS hr_o0 shc_166 rfl 13 (by decide) (ht_at2 hts 4 rfl) (fun _ h9 => h9) rfl (by decide +kernel) rfl rfl (gl_at rfl ⟨_, rfl⟩) dX0_proposeSpare_30 (fun H locs hT oq m20 oj hS => ?_)
  have hF := hF.put hr_o0 skc_166 oq oj (by decide)
  have m21 := (el_kept (oq _ (gne hr_sp hr_o0 (by decide)))).trans m15
  have m22 := (oj 14 (by decide) (by decide)).trans m16
  have m23 := (oj 8 (by decide) (by decide)).trans m17
  have m24 := (oj 9 (by decide) (by decide)).trans m18
  have m25 := (oj 11 (by decide) (by decide)).trans m19
  have m26 := (oj 12 (by decide) (by decide)).trans m14
  refine lv_iconst (v := 0) hx hb dX0_proposeSpare_33 (by decide) ?_
  refine lv_istore_n (lv' := [(2, .int 0), (1, .ref po), (0, .ref o0)]) hx hb dX0_proposeSpare_34 rfl hl (by decide) rfl (fun ls hl => ?_)
  have key54 : ∀ (n54 i27 : Nat), i27 + n54 = 60 → 0 ≤ i27 → ∀ (H : Heap) (locs : List Loc), gH (dC, dI) kA (SHc nC nS) G H → gF (dC, dI) SKc G ([(10, 11), (166, 8), (166, 9), (166, 11), (166, 12), (166, 13)] : List (Nat × Nat)) s.heap H → va_S A s.heap H locs → el H sp (dI 7 11) = some (.int l9) → el H o0 (dI 3 14) = some (.int sd9) → el H o0 (dI 3 8) = some (.ref sp) → el H o0 (dI 3 9) = some (.ref po) → el H o0 (dI 3 11) = some (.int 1) → el H o0 (dI 3 12) = some (.long 0) → el H o0 (dI 3 13) = some (.long 0) → ∀ ls : Array Slot, lv_has ls 3 [(2, .int (nI i27)), (1, .ref po), (0, .ref o0)] → W p l e (headSpec w_c_proposeSpareZ ({ frames := 0, cells := 0, slots := 0, locals := 0 })).room s m #[.ref o0] below meth c H locs 0 0 (MQ below (va_Qi (fun (r : Int32) (u : Int32) => (u.toInt = 1) ∧ (r = l9)) (fun (v1 : Int32) (t : State) => gH (dC, dI) kA (SHc nC nS) G t.heap ∧ gF (dC, dI) SKc G ([(10, 11), (166, 8), (166, 9), (166, 11), (166, 12), (166, 13)] : List (Nat × Nat)) s.heap t.heap ∧ el t.heap o0 (dI 3 11) = some (.int v1) ∧ el t.heap o0 (dI 3 8) = some (.ref sp) ∧ el t.heap o0 (dI 3 9) = some (.ref po) ∧ el t.heap o0 (dI 3 12) = some (.long 0) ∧ el t.heap o0 (dI 3 13) = some (.long 0)) A) #[.ref o0] s 0 0 A) (F0 m 35 ls []) := by
    intro n54
    induction n54 with
    | zero =>
      intro i27 hn54 hlo55  H locs hT hF hS m28 m29 m30 m31 m32 m33 m34 ls hl
      obtain rfl : 60 = i27 := by omega
      refine lv_iload_n hx hb dX0_proposeSpare_35 rfl (lv_at hl 0 rfl) ?_
      refine lv_aload_n hx hb dX0_proposeSpare_36 rfl (lv_at hl 2 rfl) ?_
      refine tw_getM (v := .int sd9) hx hb hts bF2_X0 hown hK hT hr_o0 shc_166 rfl 14 (by decide) (ht_at2 hts 5 rfl) (fun _ h9 => h9) m29 dX0_proposeSpare_37 ?_
      refine lv_icmp_ge (tgt := 59) hx hb dX0_proposeSpare_40 (by decide) (fun c56 => ?_) (fun c56 => (by exfalso; have q9 : ((60 : Nat) : Int) < sd9.toInt := ti_nle c56 rfl (nI_toInt (by omega)); omega))
      have t57 : sd9.toInt ≤ ((60 : Nat) : Int) := ti_le c56 rfl (nI_toInt (by omega))
      refine lv_aload_n hx hb dX0_proposeSpare_59 rfl (lv_at hl 2 rfl) ?_
      refine tw_getM (v := .ref sp) hx hb hts bF2_X0 hown hK hT hr_o0 shc_166 rfl 8 (by decide) (ht_at2 hts 0 rfl) (fun _ h9 => h9) m30 dX0_proposeSpare_60 ?_
      refine tw_getNM (v := .int l9) hx hb hts bF2_X4 hown hK hT hr_sp shc_152 rfl 11 (by decide) (hE.nw 59 rfl) (fun _ h9 => h9) m28 dX0_proposeSpare_63 ?_
      exact W.iret (v := l9) hx hb hr (fun t ht hW => ⟨⟨l9, (1 : Int32), rfl, (by exact ⟨(by have : (1 : Int32).toInt = 1 := (by decide); omega), rfl⟩), by (try dsimp only); rw [ht]; exact ⟨hT, hF, m32, m30, m31, m33, m34⟩⟩, hS.F ht⟩) hS.2.2 dX0_proposeSpare_66
    | succ n54 ih54 =>
      intro i27 hn54 hlo55  H locs hT hF hS m28 m29 m30 m31 m32 m33 m34 ls hl
      have hlt57 : i27 < 60 := by omega
      refine lv_iload_n hx hb dX0_proposeSpare_35 rfl (lv_at hl 0 rfl) ?_
      refine lv_aload_n hx hb dX0_proposeSpare_36 rfl (lv_at hl 2 rfl) ?_
      refine tw_getM (v := .int sd9) hx hb hts bF2_X0 hown hK hT hr_o0 shc_166 rfl 14 (by decide) (ht_at2 hts 5 rfl) (fun _ h9 => h9) m29 dX0_proposeSpare_37 ?_
      refine lv_icmp_ge (tgt := 59) hx hb dX0_proposeSpare_40 (by decide) (fun c58 => ?_) (fun c58 => ?_)
      · have t59 : sd9.toInt ≤ ((i27 : Nat) : Int) := ti_le c58 rfl (nI_toInt (by omega))
        refine lv_aload_n hx hb dX0_proposeSpare_59 rfl (lv_at hl 2 rfl) ?_
        refine tw_getM (v := .ref sp) hx hb hts bF2_X0 hown hK hT hr_o0 shc_166 rfl 8 (by decide) (ht_at2 hts 0 rfl) (fun _ h9 => h9) m30 dX0_proposeSpare_60 ?_
        refine tw_getNM (v := .int l9) hx hb hts bF2_X4 hown hK hT hr_sp shc_152 rfl 11 (by decide) (hE.nw 59 rfl) (fun _ h9 => h9) m28 dX0_proposeSpare_63 ?_
        exact W.iret (v := l9) hx hb hr (fun t ht hW => ⟨⟨l9, (1 : Int32), rfl, (by exact ⟨(by have : (1 : Int32).toInt = 1 := (by decide); omega), rfl⟩), by (try dsimp only); rw [ht]; exact ⟨hT, hF, m32, m30, m31, m33, m34⟩⟩, hS.F ht⟩) hS.2.2 dX0_proposeSpare_66
      · have t60 : ((i27 : Nat) : Int) < sd9.toInt := ti_nle c58 rfl (nI_toInt (by omega))
        refine lv_aload_n hx hb dX0_proposeSpare_43 rfl (lv_at hl 2 rfl) ?_
        refine tw_get hx hb hts bF2_X0 hown hK hT hr_o0 shc_166 rfl 0 (by decide) (ht_at2 hts 6 rfl) (fun _ h9 => h9) dX0_proposeSpare_44 (fun v9 m61 h9 => ?_)
        obtain ⟨b62, rfl, hg63⟩ := h9 _ rfl
        refine lv_iload_n hx hb dX0_proposeSpare_47 rfl (lv_at hl 0 rfl) ?_
        refine tw_aald (i := (nI i27)) hx hb hK hT hg63 shc_51 rfl (vp_in_nI (by omega) (by decide)) dX0_proposeSpare_48 (fun v9 m64 h9 => ?_)
        obtain ⟨b65, rfl, hg66⟩ := (h9.1 (by have q9 := tn_of (show (nI i27).toInt = ((i27 : Nat) : Int) from (nI_toInt (by omega))) (by omega); omega))
        refine lv_iconst (v := 0) hx hb dX0_proposeSpare_49 (by decide) ?_
        refine tw_putN (v := .int 0) (ty := .boolean) hx hb hts bF2_X7 tyX7 tyX7_ok nmX7 hown hK hT hG hS hg66 shc_10 rfl 11 (by decide) (hE.nw 60 rfl) (fun _ h9 => h9) rfl (by decide +kernel) rfl rfl (gl_at rfl (gi_of (show (0 : Int32).toInt = 0 from (by decide)) (by first | decide | omega) (by first | decide | omega))) dX0_proposeSpare_50 (fun H locs hT oq m67 oj hS => ?_)
        have hF := hF.put hg66 skc_10 oq oj (by decide)
        have m68 := (el_kept (oq _ (gne hr_sp hg66 (by decide)))).trans m28
        have m69 := (el_kept (oq _ (gne hr_o0 hg66 (by decide)))).trans m29
        have m70 := (el_kept (oq _ (gne hr_o0 hg66 (by decide)))).trans m30
        have m71 := (el_kept (oq _ (gne hr_o0 hg66 (by decide)))).trans m31
        have m72 := (el_kept (oq _ (gne hr_o0 hg66 (by decide)))).trans m32
        have m73 := (el_kept (oq _ (gne hr_o0 hg66 (by decide)))).trans m33
        have m74 := (el_kept (oq _ (gne hr_o0 hg66 (by decide)))).trans m34
        refine lv_iinc (v := nI (i27 + 1)) (lv' := [(2, .int (nI (i27 + 1))), (1, .ref po), (0, .ref o0)]) hx hb dX0_proposeSpare_53 hl (k := 0) rfl (nI_add i27 1) (by decide) rfl (fun ls hl => ?_)
        refine lv_goto (tgt := 35) hx hb dX0_proposeSpare_56 (by decide) ?_
        exact ih54 (i27 + 1) (by omega) (by omega) _ _ hT hF hS m68 m69 m70 m71 m72 m73 m74 ls (lv_sub hl [0, 1, 2] rfl)
  exact key54 (60 - 0) 0 (by omega) (Nat.le_refl _) _ _ hT hF hS m21 m22 m23 m24 m25 m26 m20 ls (lv_sub hl [0, 1, 2] rfl)
def w_c_foundZ : List Cond := .code yX11_found cX11_found 1 (some .int) :: (HAppend.hAppend (α := List Cond) (β := List Cond) (γ := List Cond) [.fieldLink RX11 30 "SeaLand" "board" "LSeaLand$Board;", .fieldLink RX11 9 "SeaLand" "tape" "[I", .fieldLink RX11 47 "SeaLand" "taped" "I", .code yX4_read cX4_read 4 (some .int), .methodLink RX4 46 Lib.Math.min.name, .static Lib.Math.min.name, .initialized "java/lang/Math", .code Lib.Math.min.name Lib.Math.min.code 2 (some .int), .code yX4_scan cX4_scan 6 none, .fieldLink RX4 11 "SeaLand$Law" "things" "[I", .fieldLink RX4 15 "SeaLand$Law" "begins" "[I", .code yX4_thingEnd cX4_thingEnd 6 (some .int), .code yX4_isLetter cX4_isLetter 1 (some .boolean), .methodLink RX4 81 yX4_isLetter, .static yX4_isLetter, .initialized RX4, .code yX4_isDigit cX4_isDigit 1 (some .boolean), .methodLink RX4 84 yX4_isDigit, .static yX4_isDigit, .methodLink RX4 74 yX4_thingEnd, .static yX4_thingEnd, .code yX4_thingAt cX4_thingAt 3 (some .int), .code yX4_signThing cX4_signThing 1 (some .int), .methodLink RX4 93 yX4_signThing, .static yX4_signThing, .code yX4_numberThing cX4_numberThing 5 (some .int), .methodLink RX4 90 yX4_numberThing, .static yX4_numberThing, .code yX4_wordThing cX4_wordThing 4 (some .int), .code yX4_factThing cX4_factThing 3 (some .int), .code yX4_wordIs cX4_wordIs 5 (some .boolean), .code yJ0_length_8abf5 cJ0_length_8abf5 1 (some .int), .fieldLink RJ0 9 "java/lang/String" "value" "[B", .code yJ0_coder_7d493 cJ0_coder_7d493 1 (some .byte), .fieldLink RJ0 38 "java/lang/String" "COMPACT_STRINGS" "Z", .fieldLink RJ0 15 "java/lang/String" "coder" "B", .methodLink RJ0 335 yJ0_coder_7d493, .instanceMethod yJ0_coder_7d493, .selects RJ0 yJ0_coder_7d493 yJ0_coder_7d493, .initialized RJ0, .methodLink RX4 155 yJ0_length_8abf5, .instanceMethod yJ0_length_8abf5, .selects RJ0 yJ0_length_8abf5 yJ0_length_8abf5, .code yJ0_charAt_5068e cJ0_charAt_5068e 2 (some .char), .code yJ0_isLatin1_aae02 cJ0_isLatin1_aae02 1 (some .boolean), .methodLink RJ0 492 yJ0_isLatin1_aae02, .instanceMethod yJ0_isLatin1_aae02, .selects RJ0 yJ0_isLatin1_aae02 yJ0_isLatin1_aae02, .code yJ1_charAt_3b067 cJ1_charAt_3b067 2 (some .char), .code yJ0_checkIndex_df160 cJ0_checkIndex_df160 2 none, .fieldLink RJ0 1053 "jdk/internal/util/Preconditions" "SIOOBE_FORMATTER" "Ljava/util/function/BiFunction;", .code yJ3_checkIndex_8e157 cJ3_checkIndex_8e157 3 (some .int), .methodLink RJ0 1059 yJ3_checkIndex_8e157, .static yJ3_checkIndex_8e157, .initialized RJ3, .methodLink RJ1 9 yJ0_checkIndex_df160, .static yJ0_checkIndex_df160, .methodLink RJ0 495 yJ1_charAt_3b067, .static yJ1_charAt_3b067, .initialized RJ1, .methodLink RX4 161 yJ0_charAt_5068e, .instanceMethod yJ0_charAt_5068e, .selects RJ0 yJ0_charAt_5068e yJ0_charAt_5068e, .methodLink RX4 105 yX4_wordIs, .static yX4_wordIs, .methodLink RX4 97 yX4_factThing, .static yX4_factThing, .code yX4_lineThing cX4_lineThing 4 (some .int), .methodLink RX4 100 yX4_lineThing, .static yX4_lineThing, .methodLink RX4 87 yX4_wordThing, .static yX4_wordThing, .methodLink RX4 78 yX4_thingAt, .static yX4_thingAt, .methodLink RX4 52 yX4_scan, .instanceMethod yX4_scan, .selects RX4 yX4_scan yX4_scan, .fieldLink RX4 56 "SeaLand$Law" "at" "I", .fieldLink RX4 60 "SeaLand$Law" "lines" "I", .fieldLink RX4 63 "SeaLand$Law" "stepped" "I", .code yX4_readLine cX4_readLine 3 (some .boolean), .code yX4_lineKind cX4_lineKind 1 (some .int), .methodLink RX4 165 yX4_lineKind, .static yX4_lineKind, .fieldLink RX4 18 "SeaLand$Law" "kinds" "[I", .fieldLink RX4 33 "SeaLand$Law" "stepFrom" "[I", .code yX4_take cX4_take 2 (some .boolean), .methodLink RX4 70 yX4_take, .instanceMethod yX4_take, .selects RX4 yX4_take yX4_take, .fieldLink RX4 36 "SeaLand$Law" "stepTo" "[I", .code yX4_readAny cX4_readAny 4 (some .boolean), .code yX4_readAll cX4_readAll 4 (some .boolean), .code yX4_readAtom cX4_readAtom 4 (some .boolean), .code yX4_readComparison cX4_readComparison 3 (some .boolean), .code yX4_readSum cX4_readSum 3 (some .boolean), .code yX4_readPart cX4_readPart 2 (some .boolean), .code yX4_addStep cX4_addStep 2 none, .fieldLink RX4 39 "SeaLand$Law" "steps" "[I", .methodLink RX4 179 yX4_addStep, .instanceMethod yX4_addStep, .selects RX4 yX4_addStep yX4_addStep, .methodLink RX4 192 yX4_readPart, .instanceMethod yX4_readPart, .selects RX4 yX4_readPart yX4_readPart, .methodLink RX4 189 yX4_readSum, .instanceMethod yX4_readSum, .selects RX4 yX4_readSum yX4_readSum, .methodLink RX4 186 yX4_readComparison, .instanceMethod yX4_readComparison, .selects RX4 yX4_readComparison yX4_readComparison, .methodLink RX4 183 yX4_readAtom, .instanceMethod yX4_readAtom, .selects RX4 yX4_readAtom yX4_readAtom, .methodLink RX4 176 yX4_readAll, .instanceMethod yX4_readAll, .selects RX4 yX4_readAll yX4_readAll, .methodLink RX4 173 yX4_readAny, .instanceMethod yX4_readAny, .selects RX4 yX4_readAny yX4_readAny, .fieldLink RX4 21 "SeaLand$Law" "firsts" "[I", .code yX4_takeNumber cX4_takeNumber 4 (some .boolean), .methodLink RX4 168 yX4_takeNumber, .instanceMethod yX4_takeNumber, .selects RX4 yX4_takeNumber yX4_takeNumber, .fieldLink RX4 24 "SeaLand$Law" "seconds" "[I", .fieldLink RX4 27 "SeaLand$Law" "froms" "[I", .fieldLink RX4 30 "SeaLand$Law" "tos" "[I", .constant RX4 172 99999, .methodLink RX4 66 yX4_readLine, .instanceMethod yX4_readLine, .selects RX4 yX4_readLine yX4_readLine, .methodLink RX11 266 yX4_read, .instanceMethod yX4_read, .selects RX4 yX4_read yX4_read, .code yX11_needNumbers cX11_needNumbers 1 none, .classLink RX11 547 "java/lang/IllegalArgumentException", .initialized "java/lang/IllegalArgumentException", .methodLink RX11 62 yX11_needNumbers, .static yX11_needNumbers, .initialized RX11, .code yX0_foundSpare cX0_foundSpare 2 (some .int), .fieldLink RX0 41 "SeaLand$Board" "force" "LSeaLand$Law;", .fieldLink RX0 48 "SeaLand$Board" "spare" "LSeaLand$Law;", .methodLink RX11 280 yX0_foundSpare, .instanceMethod yX0_foundSpare, .selects RX0 yX0_foundSpare yX0_foundSpare, .initialized RX0, .classLink RX11 69 "java/lang/IllegalStateException", .initialized "java/lang/IllegalStateException"] bs2)
set_option maxHeartbeats 4000000 in
set_option maxRecDepth 100000 in
theorem c_foundZ (l : Launch) (hlt : l.stackTraces = false) (dC : Nat → ClassId) (dI : Nat → Nat → Nat) (kA : Nat → ClassId) (adK adV : Nat → Nat) (G : gT) (H0 : Heap) (nC nS : Int) (o0 : Nat) (bd : Nat) (tn : Int32) (ta : Nat) (sp : Nat) (fo : Nat) (hv0 : Int32) (kn9 : Nat) (sf9 : Nat) (st9 : Nat) (sp9 : Nat) (vc : Nat → Int32) (vK : Nat → Int32) (vF : Nat → Int32) (vE : Nat → Int32) (vS : Nat → Int32) (N : Nat) (fv : Int32) (hT : gH (dC, dI) kA (SHc nC nS) G H0) (hr_o0 : G o0 = some 167) (hm_bd : el H0 o0 (dI 14 3) = some (.ref bd)) (hr_bd : G bd = some 166) (hm_tn : el H0 o0 (dI 14 7) = some (.int tn)) (hm_ta : el H0 o0 (dI 14 0) = some (.ref ta)) (hr_ta : G ta = some 16) (hm_sp : el H0 bd (dI 3 9) = some (.ref sp)) (hr_sp : G sp = some 152) (hm_fo : el H0 bd (dI 3 7) = some (.ref fo)) (hr_fo : G fo = some 7) (hm_hv0 : el H0 bd (dI 3 15) = some (.int hv0)) (hm_kn9 : el H0 sp (dI 7 2) = some (.ref kn9)) (hr_kn9 : G kn9 = some 155) (hm_sf9 : el H0 sp (dI 7 7) = some (.ref sf9)) (hr_sf9 : G sf9 = some 160) (hm_st9 : el H0 sp (dI 7 8) = some (.ref st9)) (hr_st9 : G st9 = some 161) (hm_sp9 : el H0 sp (dI 7 9) = some (.ref sp9)) (hr_sp9 : G sp9 = some 162) (hq0 : 0 ≤ tn.toInt ∧ tn.toInt ≤ 400) (hN : tn.toInt = ((N : Nat) : Int)) (hfv : fv = Int32.ofInt (laE (tc vc) N).2) (hc_vc : ct H0 ta 400 vc) (hc_vK : ct H0 kn9 20 vK) (hc_vF : ct H0 sf9 20 vF) (hc_vE : ct H0 st9 20 vE) (hc_vS : ct H0 sp9 400 vS) (hgC : 0 ≤ nC ∧ nC ≤ 40) (hgS : 0 ≤ nS ∧ nS ≤ 60) : vx_Met l yX11_found w_c_foundZ ({ frames := 27, cells := 1, slots := 6, locals := 614 }) (va_Pc [.ref o0] (fun U => U.heap = H0 ∧ va_K (dC, dI) vwCl (tyl kA) U ∧ EVC adK adV (gA G H0.size) U U.heap)) (va_Qi (fun (r : Int32) (u : Int32 × Int32 × Int32 × (Nat → Int32) × (Nat → Int32) × (Nat → Int32) × (Nat → Int32)) => match u with | (f1, t1, l1, vK1, vF1, vE1, vS1) => (0 ≤ r.toInt ∧ r.toInt ≤ 20) ∧ ((laE (tc vc) N).2 = -1 ∧ f1.toInt = fv.toInt ∧ t1.toInt = 0 ∧ hv0.toInt ≤ 0 ∧ r.toInt = (laE (tc vc) N).1 ∧ l1.toInt = (laE (tc vc) N).1) ∧ (zRe (tc vc) N l1.toNatClampNeg vK1 vF1 vE1 (tz vS1))) (fun (u : Int32 × Int32 × Int32 × (Nat → Int32) × (Nat → Int32) × (Nat → Int32) × (Nat → Int32)) (t : State) => match u with | (f1, t1, l1, vK1, vF1, vE1, vS1) => gH (dC, dI) kA (SHc nC nS) G t.heap ∧ gF (dC, dI) SKc G ([(152, 11), (152, 12), (152, 13), (153, 0), (154, 0), (155, 0), (156, 0), (157, 0), (158, 0), (159, 0), (160, 0), (161, 0), (162, 0), (166, 7), (166, 9), (166, 10), (167, 7)] : List (Nat × Nat)) H0 t.heap ∧ el t.heap bd (dI 3 10) = some (.int f1) ∧ el t.heap o0 (dI 14 7) = some (.int t1) ∧ el t.heap sp (dI 7 11) = some (.int l1) ∧ el t.heap bd (dI 3 7) = some (.ref sp) ∧ el t.heap bd (dI 3 9) = some (.ref fo) ∧ ct t.heap kn9 20 vK1 ∧ ct t.heap sf9 20 vF1 ∧ ct t.heap st9 20 vE1 ∧ ct t.heap sp9 400 vS1) (gA G H0.size)) (vx_X (fun _ : Unit => True) (fun E _ t => (E = "java/lang/IllegalArgumentException" ∨ E = "java/lang/IllegalStateException") ∧ ((E = "java/lang/IllegalArgumentException" ∧ (laE (tc vc) N).2 ≠ -1) ∨ (E = "java/lang/IllegalStateException" ∧ ((laE (tc vc) N).2 = -1 ∧ 0 < hv0.toInt))) ∧ gH (dC, dI) kA (SHc nC nS) G t.heap ∧ gF (dC, dI) SKc G ([(152, 11), (152, 12), (152, 13), (153, 0), (154, 0), (155, 0), (156, 0), (157, 0), (158, 0), (159, 0), (160, 0), (161, 0), (162, 0), (166, 7), (166, 9), (166, 10), (167, 7)] : List (Nat × Nat)) H0 t.heap ∧ el t.heap bd (dI 3 10) = some (.int fv) ∧ el t.heap o0 (dI 14 7) = some (.int 0) ∧ el t.heap bd (dI 3 7) = some (.ref fo) ∧ el t.heap bd (dI 3 9) = some (.ref sp)) (gA G H0.size)) 1 6 (gA G H0.size) := by
  refine vx_ofW (cc := cX11_found) (maxL := 1) (ret := (some .int)) (by decide) rfl ?_
  intro p e s m args below meth c s₁ B hml hnt hv
  obtain ⟨rfl, hH0, hK, hE⟩ := hv
  have hx := B.exec
  have hb := B.bytes
  have hr := B.returns
  have hts := atoms_spec (ws := w_c_foundZ) B.pre
  have hown : s.vm.findClass RX11 = some m.cls := findClass_of_methodNamed B.named
  have hlocks := B.notSynchronized
  subst hH0
  generalize hAe : gA G s.heap.size = A at hE ⊢
  have hA : ∀ q : Nat, s.heap.size ≤ q → A q := fun q h => by rw [← hAe]; exact Or.inr h
  have hG := gA_of hAe
  have hS : va_S A s.heap s.heap [] := va_S.rf
  have hF : gF (dC, dI) SKc G ([(152, 11), (152, 12), (152, 13), (153, 0), (154, 0), (155, 0), (156, 0), (157, 0), (158, 0), (159, 0), (160, 0), (161, 0), (162, 0), (166, 7), (166, 9), (166, 10), (167, 7)] : List (Nat × Nat)) s.heap s.heap := gF.rf
  have hl := lv_entry ([.ref o0]) (n := 1) (Nat.le_of_ble_eq_true rfl)
  rw [lg_entry_eq]
  generalize (lg_sl ([.ref o0]) ++ List.replicate (1 - (lg_sl ([.ref o0])).length) Slot.unset).toArray = ls at hl ⊢
  have hl : lv_has ls 1 [(0, .ref o0)] := hl
  refine lv_aload_n hx hb dX11_found_0 rfl (lv_at hl 0 rfl) ?_
  refine tw_getM (v := .ref bd) hx hb hts bF2_X11 hown hK hT hr_o0 shc_167 rfl 3 (by decide) (ht_at2 hts 0 rfl) (fun _ h9 => h9) hm_bd dX11_found_1 ?_
  refine lv_aload_n hx hb dX11_found_4 rfl (lv_at hl 0 rfl) ?_
  refine tw_getM (v := .ref bd) hx hb hts bF2_X11 hown hK hT hr_o0 shc_167 rfl 3 (by decide) (ht_at2 hts 0 rfl) (fun _ h9 => h9) hm_bd dX11_found_5 ?_
  refine tw_getNM (v := .ref sp) hx hb hts bF2_X0 hown hK hT hr_bd shc_166 rfl 9 (by decide) (hE.nw 24 rfl) (fun _ h9 => h9) hm_sp dX11_found_8 ?_
  refine lv_aload_n hx hb dX11_found_11 rfl (lv_at hl 0 rfl) ?_
  refine tw_getM (v := .ref ta) hx hb hts bF2_X11 hown hK hT hr_o0 shc_167 rfl 0 (by decide) (ht_at2 hts 1 rfl) (fun _ h9 => h9) hm_ta dX11_found_12 ?_
  refine lv_aload_n hx hb dX11_found_15 rfl (lv_at hl 0 rfl) ?_
  refine tw_getM (v := .int tn) hx hb hts bF2_X11 hown hK hT hr_o0 shc_167 rfl 7 (by decide) (ht_at2 hts 2 rfl) (fun _ h9 => h9) hm_tn dX11_found_16 ?_
  have hFc := gA_free hG hA hS
  refine va_calli (va_runV (As := [.ref ta, .int tn]) (rest := [.ref bd]) ⟨hx, hb, hml, hown, hts⟩ (c_read l dC dI kA adK adV G s.heap nC nS sp ta tn kn9 sf9 st9 sp9 vc vK vF vE vS N hT hr_ta hr_sp hm_kn9 hr_kn9 hm_sf9 hr_sf9 hm_st9 hr_st9 hm_sp9 hr_sp9 (by have q8 := ti_all tn; omega) hN hc_vc hc_vK hc_vF hc_vE hc_vS (by omega) (by omega)) (cwV 2 hts (goodIn_app (goodIn_r _ [133, 134, 135, 16] rfl (by decide +kernel)) (goodIn_ca (goodIn_r _ [4, 5, 6, 7, 8, 9, 10, 11, 12, 13, 14, 15, 16, 17, 18, 19, 20, 21, 22, 23, 24, 25, 26, 27, 28, 29, 30, 31, 32, 33, 34, 35, 36, 37, 38, 39, 40, 41, 42, 43, 44, 45, 46, 47, 48, 49, 50, 51, 52, 53, 54, 55, 56, 57, 58, 59, 60, 61, 62, 63, 64, 65, 66, 67, 68, 69, 70, 71, 72, 73, 74, 75, 76, 77, 78, 79, 80, 81, 82, 83, 84, 85, 86, 87, 88, 89, 90, 91, 92, 93, 94, 95, 96, 97, 98, 99, 100, 101, 102, 103, 104, 105, 106, 107, 108, 109, 110, 111, 112, 113, 114, 115, 116, 117, 118, 119, 120, 121, 122, 123, 124, 125, 126, 127, 128, 129, 130, 131, 132] rfl (by decide +kernel)) (bs2_in _ _))) rfl rfl rfl (by decide +kernel) ⟨(Nat.le_of_ble_eq_true rfl), (Nat.le_of_ble_eq_true rfl)⟩) ⟨fun a U g mk q => by obtain ⟨q0, q1, qK, qE⟩ := q; exact ⟨q0, q1, va_K.moved (u := U) (U := U.calling g mk a) (Vm.Alike.refl U.vm) qK, EVC.blind g mk a qE⟩, gH_rc hK hT hr_sp shc_152 rfl, fun U hU hW => ⟨rfl, hU, va_K.moved hW.alike hK, hE.call hS hFc hU hW⟩⟩ rfl rfl hl.1 rfl (lv_room (Nat.le_of_ble_eq_true rfl)) dX11_found_19 ⟨(Nat.le_of_ble_eq_true rfl), (Nat.le_of_ble_eq_true rfl)⟩) hS (fun q _ h => hFc q h) hFc (fun r1 u t H locs ht hvm hw2 hB _ _ hS => ?_)
  obtain ⟨u3, u4, u5, u6, u7⟩ := u
  obtain ⟨hT, hF1, m8, m9, m10, m11, m12⟩ := hB
  rw [ht] at hT hF1 m8 m9 m10 m11 m12
  have m13 := (hF1.fld hr_o0 skc_167 (k := 3) (by decide) (by decide)).trans hm_bd
  have m16 := (hF1.fld hr_bd skc_166 (k := 9) (by decide) (by decide)).trans hm_sp
  have m17 := (hF1.fld hr_bd skc_166 (k := 7) (by decide) (by decide)).trans hm_fo
  have m18 := (hF1.fld hr_bd skc_166 (k := 15) (by decide) (by decide)).trans hm_hv0
  have hF := hF.more hF1 (by decide)
  try dsimp only at hw2
  obtain ⟨h28, hf29, hf30⟩ := hw2
  have la9 : r1.toInt = (laE (tc vc) N).2 ∧ (((laE (tc vc) N).2 = -1 ∧ u3.toInt = (laE (tc vc) N).1) ∨ (0 ≤ (laE (tc vc) N).2 ∧ (laE (tc vc) N).1 = -1)) := by rcases hf29 with ⟨a1, a2⟩ | ⟨a1, a2⟩ <;> obtain ⟨e1, e2⟩ := laE_s a2 <;> exact ⟨by omega, by omega⟩
  obtain rfl : fv = r1 := by rw [hfv, ← la9.1]; exact Int32.ofInt_toInt _
  refine tw_putN (v := .int fv) (ty := .int) hx hb hts bF2_X0 tyX0 tyX0_ok nmX0 hown hK hT hG hS hr_bd shc_166 rfl 10 (by decide) (hE.nw 25 rfl) (fun _ h9 => h9) rfl (by decide +kernel) rfl rfl (gl_at rfl (gi_all _)) dX11_found_22 (fun H locs hT oq m31 oj hS => ?_)
  have hF := hF.put hr_bd skc_166 oq oj (by decide)
  have m32 := (el_kept (oq _ (gne hr_o0 hr_bd (by decide)))).trans m13
  have m35 := (oj 9 (by decide) (by decide)).trans m16
  have m36 := (oj 7 (by decide) (by decide)).trans m17
  have m37 := (oj 15 (by decide) (by decide)).trans m18
  have m43 := (el_kept (oq _ (gne hr_sp hr_bd (by decide)))).trans m8
  have m44 := m9.kept (oq _ (gne hr_kn9 hr_bd (by decide)))
  have m45 := m10.kept (oq _ (gne hr_sf9 hr_bd (by decide)))
  have m46 := m11.kept (oq _ (gne hr_st9 hr_bd (by decide)))
  have m47 := m12.kept (oq _ (gne hr_sp9 hr_bd (by decide)))
  refine lv_aload_n hx hb dX11_found_25 rfl (lv_at hl 0 rfl) ?_
  refine lv_iconst (v := 0) hx hb dX11_found_26 (by decide) ?_
  refine tw_put (v := .int 0) (ty := .int) hx hb hts bF2_X11 tyX11 tyX11_ok nmX11 hown hK hT hG hS hr_o0 shc_167 rfl 7 (by decide) (ht_at2 hts 2 rfl) (fun _ h9 => h9) rfl (by decide +kernel) rfl rfl (gl_at rfl (gi_of (show (0 : Int32).toInt = 0 from (by decide)) (by first | decide | omega) (by first | decide | omega))) dX11_found_27 (fun H locs hT oq m48 oj hS => ?_)
  have hF := hF.put hr_o0 skc_167 oq oj (by decide)
  have m49 := (oj 3 (by decide) (by decide)).trans m32
  have m51 := (el_kept (oq _ (gne hr_bd hr_o0 (by decide)))).trans m35
  have m52 := (el_kept (oq _ (gne hr_bd hr_o0 (by decide)))).trans m36
  have m53 := (el_kept (oq _ (gne hr_bd hr_o0 (by decide)))).trans m37
  have m59 := (el_kept (oq _ (gne hr_sp hr_o0 (by decide)))).trans m43
  have m60 := m44.kept (oq _ (gne hr_kn9 hr_o0 (by decide)))
  have m61 := m45.kept (oq _ (gne hr_sf9 hr_o0 (by decide)))
  have m62 := m46.kept (oq _ (gne hr_st9 hr_o0 (by decide)))
  have m63 := m47.kept (oq _ (gne hr_sp9 hr_o0 (by decide)))
  have m64 := (el_kept (oq _ (gne hr_bd hr_o0 (by decide)))).trans m31
  refine lv_aload_n hx hb dX11_found_30 rfl (lv_at hl 0 rfl) ?_
  refine tw_getM (v := .ref bd) hx hb hts bF2_X11 hown hK hT hr_o0 shc_167 rfl 3 (by decide) (ht_at2 hts 0 rfl) (fun _ h9 => h9) m49 dX11_found_31 ?_
  refine tw_getNM (v := .int fv) hx hb hts bF2_X0 hown hK hT hr_bd shc_166 rfl 10 (by decide) (hE.nw 25 rfl) (fun _ h9 => h9) m64 dX11_found_34 ?_
  refine lv_iconst (v := (-1)) hx hb dX11_found_37 (by decide) ?_
  have t65 : -2147483648 ≤ fv.toInt ∧ fv.toInt ≤ 2147483647 := ti_all fv
  refine lv_icmp_ne (tgt := 45) hx hb dX11_found_38 (by decide) (fun c66 => ?_) (fun c66 => ?_)
  · have t67 : fv.toInt ≠ (-1) := ti_ne c66 rfl (by decide)
    refine lv_iconst (v := 0) hx hb dX11_found_45 (by decide) ?_
    have hFc := gA_free hG hA hS
    refine vx_callN (vx_runS (As := [.int 0]) (rest := []) ⟨hx, hb, hml, hown, hts⟩ (c_needNumbers0 l hlt dC dI kA adK adV G H nC nS hT (by omega) (by omega)) (va_cwS 1 hts (goodIn_app (goodIn_r _ [139, 140, 141] rfl (by decide +kernel)) (goodIn_ca (goodIn_r _ [136, 137, 138] rfl (by decide +kernel)) (bs2_in _ _))) rfl rfl rfl (by decide +kernel) ⟨(Nat.le_of_ble_eq_true rfl), (Nat.le_of_ble_eq_true rfl)⟩) ⟨fun a U g mk q => by obtain ⟨q0, q1, qK, qE⟩ := q; exact ⟨q0, q1, va_K.moved (u := U) (U := U.calling g mk a) (Vm.Alike.refl U.vm) qK, EVC.blind g mk a qE⟩, fun U hU hW => ⟨rfl, hU, va_K.moved hW.alike hK, hE.call hS hFc hU hW⟩⟩ rfl rfl hl.1 rfl (lv_room (Nat.le_of_ble_eq_true rfl)) dX11_found_46 ⟨(Nat.le_of_ble_eq_true rfl), (Nat.le_of_ble_eq_true rfl)⟩) hS hFc (fun q _ h => hFc q h) (fun E ce q9 u t H locs ht hvm _ hw69 _ _ hS hce hcv hcl => ?_)
    obtain ⟨hw69, hTx, hFx⟩ := hw69; rw [ht] at hTx hFx
    exact vx_out (fun x h => (hnt x h).elim) hlocks hce hcv hcl (fun t2 h2 hW => ⟨(), trivial, ⟨((fun h9 => (Or.inl h9)) hw69), (Or.inl ⟨hw69, (by first | omega | exact hxf.elim)⟩), by rw [h2]; exact hTx, by rw [h2]; exact hF.more hFx (by decide), by rw [h2]; exact (hFx.fld hr_bd skc_166 (k := 10) (by decide) (by decide)).trans m64, by rw [h2]; exact (hFx.fld hr_o0 skc_167 (k := 7) (by decide) (by decide)).trans m48, by rw [h2]; exact (hFx.fld hr_bd skc_166 (k := 7) (by decide) (by decide)).trans m52, by rw [h2]; exact (hFx.fld hr_bd skc_166 (k := 9) (by decide) (by decide)).trans m51⟩, hS.F h2⟩) hS.2.2 (by decide) (by decide)
  · have t70 : fv.toInt = (-1) := ti_eq c66 rfl (by decide)
    refine lv_iconst (v := 1) hx hb dX11_found_41 (by decide) ?_
    refine lv_goto (tgt := 46) hx hb dX11_found_42 (by decide) ?_
    have hFc := gA_free hG hA hS
    refine vx_callv (vx_runS (As := [.int 1]) (rest := []) ⟨hx, hb, hml, hown, hts⟩ (c_needNumbers1X l hlt dC dI kA adK adV G H nC nS hT (by omega) (by omega)) (va_cwS 1 hts (goodIn_app (goodIn_r _ [139, 140, 141] rfl (by decide +kernel)) (goodIn_ca (goodIn_r _ [136] rfl (by decide +kernel)) (bs2_in _ _))) rfl rfl rfl (by decide +kernel) ⟨(Nat.le_of_ble_eq_true rfl), (Nat.le_of_ble_eq_true rfl)⟩) ⟨fun a U g mk q => by obtain ⟨q0, q1, qK, qE⟩ := q; exact ⟨q0, q1, va_K.moved (u := U) (U := U.calling g mk a) (Vm.Alike.refl U.vm) qK, EVC.blind g mk a qE⟩, fun U hU hW => ⟨rfl, hU, va_K.moved hW.alike hK, hE.call hS hFc hU hW⟩⟩ rfl rfl hl.1 rfl (lv_room (Nat.le_of_ble_eq_true rfl)) dX11_found_46 ⟨(Nat.le_of_ble_eq_true rfl), (Nat.le_of_ble_eq_true rfl)⟩) hS (fun q _ h => hFc q h) hFc (fun q _ h => hFc q h) (fun E ce q9 u t H locs ht hvm _ hw72 _ _ hS hce hcv hcl => ?_) (fun u t H locs ht hvm hw72 hB _ _ hS => ?_)
    · obtain ⟨hw72, hxf, hTx, hFx⟩ := hw72; rw [ht] at hTx hFx
      exact vx_out (fun x h => (hnt x h).elim) hlocks hce hcv hcl (fun t2 h2 hW => ⟨(), trivial, ⟨((fun h9 => (Or.inl h9)) hw72), (Or.inl ⟨hw72, (by first | omega | exact hxf.elim)⟩), by rw [h2]; exact hTx, by rw [h2]; exact hF.more hFx (by decide), by rw [h2]; exact (hFx.fld hr_bd skc_166 (k := 10) (by decide) (by decide)).trans m64, by rw [h2]; exact (hFx.fld hr_o0 skc_167 (k := 7) (by decide) (by decide)).trans m48, by rw [h2]; exact (hFx.fld hr_bd skc_166 (k := 7) (by decide) (by decide)).trans m52, by rw [h2]; exact (hFx.fld hr_bd skc_166 (k := 9) (by decide) (by decide)).trans m51⟩, hS.F h2⟩) hS.2.2 (by decide) (by decide)
    · obtain ⟨hT, hF1⟩ := hB
      rw [ht] at hT hF1
      have m73 := (hF1.fld hr_o0 skc_167 (k := 3) (by decide) (by decide)).trans m49
      have m75 := (hF1.fld hr_bd skc_166 (k := 9) (by decide) (by decide)).trans m51
      have m76 := (hF1.fld hr_bd skc_166 (k := 7) (by decide) (by decide)).trans m52
      have m77 := (hF1.fld hr_bd skc_166 (k := 15) (by decide) (by decide)).trans m53
      have m83 := (hF1.fld hr_sp skc_152 (k := 11) (by decide) (by decide)).trans m59
      have m84 := m60.kept (hF1.arr hr_kn9 skc_155 (by decide))
      have m85 := m61.kept (hF1.arr hr_sf9 skc_160 (by decide))
      have m86 := m62.kept (hF1.arr hr_st9 skc_161 (by decide))
      have m87 := m63.kept (hF1.arr hr_sp9 skc_162 (by decide))
      have m88 := (hF1.fld hr_bd skc_166 (k := 10) (by decide) (by decide)).trans m64
      have m89 := (hF1.fld hr_o0 skc_167 (k := 7) (by decide) (by decide)).trans m48
      have hF := hF.more hF1 (by decide)
      try dsimp only at hw72
      refine lv_aload_n hx hb dX11_found_49 rfl (lv_at hl 0 rfl) ?_
      refine tw_getM (v := .ref bd) hx hb hts bF2_X11 hown hK hT hr_o0 shc_167 rfl 3 (by decide) (ht_at2 hts 0 rfl) (fun _ h9 => h9) m73 dX11_found_50 ?_
      refine tw_getNM (v := .int hv0) hx hb hts bF2_X0 hown hK hT hr_bd shc_166 rfl 15 (by decide) (hE.nw 26 rfl) (fun _ h9 => h9) m77 dX11_found_53 ?_
      have t90 : -2147483648 ≤ hv0.toInt ∧ hv0.toInt ≤ 2147483647 := ti_all hv0
      refine lv_if_le (tgt := 70) hx hb dX11_found_56 (by decide) (fun c91 => ?_) (fun c91 => ?_)
      · have t92 : hv0.toInt ≤ 0 := ti_le c91 rfl (by decide)
        refine lv_aload_n hx hb dX11_found_70 rfl (lv_at hl 0 rfl) ?_
        refine tw_getM (v := .ref bd) hx hb hts bF2_X11 hown hK hT hr_o0 shc_167 rfl 3 (by decide) (ht_at2 hts 0 rfl) (fun _ h9 => h9) m73 dX11_found_71 ?_
        have hFc := gA_free hG hA hS
        refine va_calli (va_runV (As := []) (rest := []) ⟨hx, hb, hml, hown, hts⟩ (c_foundSpareZ l dC dI kA adK adV G H nC nS bd fo sp u3 hT hr_bd m76 hr_fo m75 hr_sp m83 (by omega) (by omega)) (cwV 0 hts (goodIn_app (goodIn_r _ [145, 146, 147, 148] rfl (by decide +kernel)) (goodIn_ca (goodIn_r _ [142, 143, 144] rfl (by decide +kernel)) (bs2_in _ _))) rfl rfl rfl (by decide +kernel) ⟨(Nat.le_of_ble_eq_true rfl), (Nat.le_of_ble_eq_true rfl)⟩) ⟨fun a U g mk q => by obtain ⟨q0, q1, qK, qE⟩ := q; exact ⟨q0, q1, va_K.moved (u := U) (U := U.calling g mk a) (Vm.Alike.refl U.vm) qK, EVC.blind g mk a qE⟩, gH_rc hK hT hr_bd shc_166 rfl, fun U hU hW => ⟨rfl, hU, va_K.moved hW.alike hK, hE.call hS hFc hU hW⟩⟩ rfl rfl hl.1 rfl (lv_room (Nat.le_of_ble_eq_true rfl)) dX11_found_74 ⟨(Nat.le_of_ble_eq_true rfl), (Nat.le_of_ble_eq_true rfl)⟩) hS (fun q _ h => hFc q h) hFc (fun r93 u t H locs ht hvm hw94 hB _ _ hS => ?_)
        obtain ⟨hT, hF1, m95, m96⟩ := hB
        rw [ht] at hT hF1 m95 m96
        have m107 := (hF1.fld hr_sp skc_152 (k := 11) (by decide) (by decide)).trans m83
        have m108 := m84.kept (hF1.arr hr_kn9 skc_155 (by decide))
        have m109 := m85.kept (hF1.arr hr_sf9 skc_160 (by decide))
        have m110 := m86.kept (hF1.arr hr_st9 skc_161 (by decide))
        have m111 := m87.kept (hF1.arr hr_sp9 skc_162 (by decide))
        have m112 := (hF1.fld hr_bd skc_166 (k := 10) (by decide) (by decide)).trans m88
        have m113 := (hF1.fld hr_o0 skc_167 (k := 7) (by decide) (by decide)).trans m89
        have hF := hF.more hF1 (by decide)
        try dsimp only at hw94
        have hd114 := hw94
        obtain rfl : u3 = r93 := hd114.symm
        refine W.widen (k := 1) (n := 6) (by decide) (by decide) ?_
        exact vx_ret (W.iret (v := u3) hx hb hr (fun t ht hW => ⟨⟨u3, (fv, (0 : Int32), u3, u4, u5, u6, u7), rfl, (by exact ⟨(by have q8 := ti_all u3; omega), (by have : (0 : Int32).toInt = 0 := (by decide); omega), (hf30 (by omega))⟩), by (try dsimp only); rw [ht]; exact ⟨hT, hF, m112, m113, m107, m95, m96, m108, m109, m110, m111⟩⟩, hS.F ht⟩) hS.2.2 dX11_found_77)
      · have t115 : 0 < hv0.toInt := ti_nle c91 rfl (by decide)
        obtain ⟨sa116, hsa116⟩ := hE.str 4 rfl
        exact vx_throwSW (names := ["java/lang/RuntimeException", "java/lang/Exception"]) hx hb hlt hown (by decide +kernel) (by decide +kernel) (ht_at2 hts 148 rfl) (ht_at2 hts 149 rfl) hsa116 (bX2_at3 hts hE) bX_ok3_69 hE.1.1.2.2.1 hE.1.1.2.2.2 hS (by rw [hml]; exact hl.1) dX11_found_59 dX11_found_62 dX11_found_63 dX11_found_66 dX11_found_69 (fun x h => (hnt x h).elim) (by decide) (Nat.le_of_ble_eq_true rfl) (Nat.le_of_ble_eq_true rfl) (Nat.le_of_ble_eq_true rfl) hlocks (fun t hW hz hq => ⟨(), trivial, ⟨(Or.inr rfl), (Or.inr (⟨rfl, (by first | omega | exact hxf.elim)⟩)), hT.ext hq, hF.ext hT hq, (el_kept (hq _ (hT.lt hr_bd))).trans m88, (el_kept (hq _ (hT.lt hr_o0))).trans m89, (el_kept (hq _ (hT.lt hr_bd))).trans m76, (el_kept (hq _ (hT.lt hr_bd))).trans m75⟩, Nat.le_trans hS.1 hz, fun q h1 h2 => (hq q (Nat.lt_of_lt_of_le h1 hS.1)).trans (hS.2.1 q h1 h2)⟩) hS.2.2 (by decide) (by decide)
def w_c_proposeZ : List Cond := .code yX11_propose cX11_propose 1 (some .int) :: (HAppend.hAppend (α := List Cond) (β := List Cond) (γ := List Cond) [.fieldLink RX11 30 "SeaLand" "board" "LSeaLand$Board;", .fieldLink RX11 9 "SeaLand" "tape" "[I", .fieldLink RX11 47 "SeaLand" "taped" "I", .code yX4_read cX4_read 4 (some .int), .methodLink RX4 46 Lib.Math.min.name, .static Lib.Math.min.name, .initialized "java/lang/Math", .code Lib.Math.min.name Lib.Math.min.code 2 (some .int), .code yX4_scan cX4_scan 6 none, .fieldLink RX4 11 "SeaLand$Law" "things" "[I", .fieldLink RX4 15 "SeaLand$Law" "begins" "[I", .code yX4_thingEnd cX4_thingEnd 6 (some .int), .code yX4_isLetter cX4_isLetter 1 (some .boolean), .methodLink RX4 81 yX4_isLetter, .static yX4_isLetter, .initialized RX4, .code yX4_isDigit cX4_isDigit 1 (some .boolean), .methodLink RX4 84 yX4_isDigit, .static yX4_isDigit, .methodLink RX4 74 yX4_thingEnd, .static yX4_thingEnd, .code yX4_thingAt cX4_thingAt 3 (some .int), .code yX4_signThing cX4_signThing 1 (some .int), .methodLink RX4 93 yX4_signThing, .static yX4_signThing, .code yX4_numberThing cX4_numberThing 5 (some .int), .methodLink RX4 90 yX4_numberThing, .static yX4_numberThing, .code yX4_wordThing cX4_wordThing 4 (some .int), .code yX4_factThing cX4_factThing 3 (some .int), .code yX4_wordIs cX4_wordIs 5 (some .boolean), .code yJ0_length_8abf5 cJ0_length_8abf5 1 (some .int), .fieldLink RJ0 9 "java/lang/String" "value" "[B", .code yJ0_coder_7d493 cJ0_coder_7d493 1 (some .byte), .fieldLink RJ0 38 "java/lang/String" "COMPACT_STRINGS" "Z", .fieldLink RJ0 15 "java/lang/String" "coder" "B", .methodLink RJ0 335 yJ0_coder_7d493, .instanceMethod yJ0_coder_7d493, .selects RJ0 yJ0_coder_7d493 yJ0_coder_7d493, .initialized RJ0, .methodLink RX4 155 yJ0_length_8abf5, .instanceMethod yJ0_length_8abf5, .selects RJ0 yJ0_length_8abf5 yJ0_length_8abf5, .code yJ0_charAt_5068e cJ0_charAt_5068e 2 (some .char), .code yJ0_isLatin1_aae02 cJ0_isLatin1_aae02 1 (some .boolean), .methodLink RJ0 492 yJ0_isLatin1_aae02, .instanceMethod yJ0_isLatin1_aae02, .selects RJ0 yJ0_isLatin1_aae02 yJ0_isLatin1_aae02, .code yJ1_charAt_3b067 cJ1_charAt_3b067 2 (some .char), .code yJ0_checkIndex_df160 cJ0_checkIndex_df160 2 none, .fieldLink RJ0 1053 "jdk/internal/util/Preconditions" "SIOOBE_FORMATTER" "Ljava/util/function/BiFunction;", .code yJ3_checkIndex_8e157 cJ3_checkIndex_8e157 3 (some .int), .methodLink RJ0 1059 yJ3_checkIndex_8e157, .static yJ3_checkIndex_8e157, .initialized RJ3, .methodLink RJ1 9 yJ0_checkIndex_df160, .static yJ0_checkIndex_df160, .methodLink RJ0 495 yJ1_charAt_3b067, .static yJ1_charAt_3b067, .initialized RJ1, .methodLink RX4 161 yJ0_charAt_5068e, .instanceMethod yJ0_charAt_5068e, .selects RJ0 yJ0_charAt_5068e yJ0_charAt_5068e, .methodLink RX4 105 yX4_wordIs, .static yX4_wordIs, .methodLink RX4 97 yX4_factThing, .static yX4_factThing, .code yX4_lineThing cX4_lineThing 4 (some .int), .methodLink RX4 100 yX4_lineThing, .static yX4_lineThing, .methodLink RX4 87 yX4_wordThing, .static yX4_wordThing, .methodLink RX4 78 yX4_thingAt, .static yX4_thingAt, .methodLink RX4 52 yX4_scan, .instanceMethod yX4_scan, .selects RX4 yX4_scan yX4_scan, .fieldLink RX4 56 "SeaLand$Law" "at" "I", .fieldLink RX4 60 "SeaLand$Law" "lines" "I", .fieldLink RX4 63 "SeaLand$Law" "stepped" "I", .code yX4_readLine cX4_readLine 3 (some .boolean), .code yX4_lineKind cX4_lineKind 1 (some .int), .methodLink RX4 165 yX4_lineKind, .static yX4_lineKind, .fieldLink RX4 18 "SeaLand$Law" "kinds" "[I", .fieldLink RX4 33 "SeaLand$Law" "stepFrom" "[I", .code yX4_take cX4_take 2 (some .boolean), .methodLink RX4 70 yX4_take, .instanceMethod yX4_take, .selects RX4 yX4_take yX4_take, .fieldLink RX4 36 "SeaLand$Law" "stepTo" "[I", .code yX4_readAny cX4_readAny 4 (some .boolean), .code yX4_readAll cX4_readAll 4 (some .boolean), .code yX4_readAtom cX4_readAtom 4 (some .boolean), .code yX4_readComparison cX4_readComparison 3 (some .boolean), .code yX4_readSum cX4_readSum 3 (some .boolean), .code yX4_readPart cX4_readPart 2 (some .boolean), .code yX4_addStep cX4_addStep 2 none, .fieldLink RX4 39 "SeaLand$Law" "steps" "[I", .methodLink RX4 179 yX4_addStep, .instanceMethod yX4_addStep, .selects RX4 yX4_addStep yX4_addStep, .methodLink RX4 192 yX4_readPart, .instanceMethod yX4_readPart, .selects RX4 yX4_readPart yX4_readPart, .methodLink RX4 189 yX4_readSum, .instanceMethod yX4_readSum, .selects RX4 yX4_readSum yX4_readSum, .methodLink RX4 186 yX4_readComparison, .instanceMethod yX4_readComparison, .selects RX4 yX4_readComparison yX4_readComparison, .methodLink RX4 183 yX4_readAtom, .instanceMethod yX4_readAtom, .selects RX4 yX4_readAtom yX4_readAtom, .methodLink RX4 176 yX4_readAll, .instanceMethod yX4_readAll, .selects RX4 yX4_readAll yX4_readAll, .methodLink RX4 173 yX4_readAny, .instanceMethod yX4_readAny, .selects RX4 yX4_readAny yX4_readAny, .fieldLink RX4 21 "SeaLand$Law" "firsts" "[I", .code yX4_takeNumber cX4_takeNumber 4 (some .boolean), .methodLink RX4 168 yX4_takeNumber, .instanceMethod yX4_takeNumber, .selects RX4 yX4_takeNumber yX4_takeNumber, .fieldLink RX4 24 "SeaLand$Law" "seconds" "[I", .fieldLink RX4 27 "SeaLand$Law" "froms" "[I", .fieldLink RX4 30 "SeaLand$Law" "tos" "[I", .constant RX4 172 99999, .methodLink RX4 66 yX4_readLine, .instanceMethod yX4_readLine, .selects RX4 yX4_readLine yX4_readLine, .methodLink RX11 266 yX4_read, .instanceMethod yX4_read, .selects RX4 yX4_read yX4_read, .code yX11_needNumbers cX11_needNumbers 1 none, .classLink RX11 547 "java/lang/IllegalArgumentException", .initialized "java/lang/IllegalArgumentException", .methodLink RX11 62 yX11_needNumbers, .static yX11_needNumbers, .initialized RX11, .code yX0_proposeSpare cX0_proposeSpare 3 (some .int), .fieldLink RX0 45 "SeaLand$Board" "proposed" "LSeaLand$Law;", .fieldLink RX0 48 "SeaLand$Board" "spare" "LSeaLand$Law;", .fieldLink RX0 64 "SeaLand$Board" "voting" "Z", .fieldLink RX0 68 "SeaLand$Board" "yesVotes" "J", .fieldLink RX0 72 "SeaLand$Board" "allVotes" "J", .fieldLink RX0 75 "SeaLand$Board" "settled" "I", .fieldLink RX0 11 "SeaLand$Board" "settlers" "[LSeaLand$Settler;", .methodLink RX11 289 yX0_proposeSpare, .instanceMethod yX0_proposeSpare, .selects RX0 yX0_proposeSpare yX0_proposeSpare, .initialized RX0, .classLink RX11 69 "java/lang/IllegalStateException", .initialized "java/lang/IllegalStateException"] bs2)
