set_option maxHeartbeats 4000000 in
set_option maxRecDepth 100000 in
theorem s_chooseZ (l : Launch) (dC : Nat → ClassId) (dI : Nat → Nat → Nat) (kA : Nat → ClassId) (adK adV : Nat → Nat) (G : gT) (H0 : Heap) (q : Nat → Nat) (wZ wN : Nat → Int) (wH wB wC : Int) (wL wK : Nat → Prop) (wU wV : Nat → Nat) (PI : Nat → Int → Prop) (im : Int) (PM PT : Nat → Int → Prop) (lS lB lE : Nat → Nat → Int → Prop) (lN : Nat → Int) (o0 : Nat) (p0 : Int32) (sn : Int32) (fm : Int32) (vH : Nat → Int32) (vR : Nat → Int32) (vG : Nat → Int32) (vA : Nat → Int32) (vD : Nat → Int32) (vC : Nat → Int32) (vU : Nat → Int32) (vI : Nat → Int32) (vM : Nat → Int32) (vW : Nat → Int32) (fL : Nat → Int64) (vQ : Nat → Int64) (vO : Nat → Int32) (vB : Nat → Int32) (vX : Nat → Int32) (vS : Nat → Int32) (vN : Nat → Int32) (vL : Nat → Int32) (vP : Nat → Int32) (A9 : zAl) (hT : gH (dC, dI) kA (SHm q (wP wZ wN wH wB wC wL wK wU wV) PI im PM PT lS lB lE lN) G H0) (hr_o0 : G o0 = some 0) (hm_sn : el H0 o0 (dI 15 42) = some (.int sn)) (hm_fm : el H0 o0 (dI 15 47) = some (.int fm)) (hq0 : 0 ≤ sn.toInt ∧ sn.toInt ≤ 60) (hq1 : 0 ≤ fm.toInt ∧ fm.toInt ≤ 30) (hnh : ∀ f : Nat, ((f : Nat) : Int) < fm.toInt → (vR f).toInt < 0) (hall : ∀ p : Nat, ((p : Nat) : Int) < sn.toInt → (vH p).toInt < 0) (hfo : zFo A9 vL vO vB vX vS vN) (hzk : ∀ e ∈ A9, zok e.2) (hlaw : lawsOK lS lB lE lN) (hc_vH : ct H0 (q 38) 60 vH) (hc_vR : ct H0 (q 46) 30 vR) (hc_vG : ct H0 (q 39) 60 vG) (hc_vA : ct H0 (q 31) 60 vA) (hc_vD : ct H0 (q 32) 60 vD) (hc_vC : ct H0 (q 33) 60 vC) (hc_vU : ct H0 (q 34) 60 vU) (hc_vI : ct H0 (q 35) 60 vI) (hc_vM : ct H0 (q 36) 60 vM) (hc_vW : ct H0 (q 40) 60 vW) (hc_fL : ctl H0 (q 30) 10 fL) (hc_vQ : ctl H0 (q 29) 400 vQ) (hc_vO : ct H0 (q 19) 60 vO) (hc_vB : ct H0 (q 24) 60 vB) (hc_vX : ct H0 (q 25) 60 vX) (hc_vS : ct H0 (q 26) 1200 vS) (hc_vN : ct H0 (q 27) 1200 vN) (hc_vL : ct H0 (q 18) 3 vL) (hc_vP : ct H0 (q 51) 60 vP) (hgz : ∀ i, 0 ≤ wZ i) (hgn : ∀ i, 6500000 ≤ wN i ∧ wN i ≤ 20200000) (hgh : 0 ≤ wH ∧ wH ≤ 40000) (hgb : 0 ≤ wB ∧ wB ≤ 3850000) (hgc : 0 ≤ wC ∧ wC ≤ 30) (hgi : 0 ≤ im ∧ im ≤ 1) (hgu : ∀ a t, G a = some (t + 1) → a = q t) : Met l yX12_choose w_s_chooseZ ({ frames := 6, cells := 0, slots := 0, locals := 134 }) (va_Pc [.ref o0, .int p0] (fun U => U.heap = H0 ∧ va_K (dC, dI) vwCl (tyl kA) U ∧ EVS adK adV (gA G H0.size) U U.heap)) (va_Qi (fun (r : Int32) (u : (Nat → Int32) × (Nat → Int32)) => match u with | (vH1, vR1) => ((zHb vH1 sn.toInt ∧ ((1 ≤ p0.toInt ∧ p0.toInt ≤ 60) ∧ 0 < fm.toInt ∧ zNO (zLs vG vA vD vC vU vI vM vW) A9 sn.toInt)) ∨ ((vH = vH1 ∧ vR = vR1) ∧ ¬ ((1 ≤ p0.toInt ∧ p0.toInt ≤ 60) ∧ 0 < fm.toInt ∧ zNO (zLs vG vA vD vC vU vI vM vW) A9 sn.toInt)))) (fun (u : (Nat → Int32) × (Nat → Int32)) (t : State) => match u with | (vH1, vR1) => gH (dC, dI) kA (SHm q (wP wZ wN wH wB wC wL wK wU wV) PI im PM PT lS lB lE lN) G t.heap ∧ gF (dC, dI) SKm G ([(0, 0), (30, 0), (31, 0), (39, 0), (47, 0), (51, 0), (52, 0)] : List (Nat × Nat)) H0 t.heap ∧ ct t.heap (q 38) 60 vH1 ∧ ct t.heap (q 46) 30 vR1) (gA G H0.size)) 0 0 (gA G H0.size) := by
  refine Met.ofW (cc := cX12_choose) (maxL := 6) (ret := (some .int)) (by decide) rfl ?_
  intro p e s m args below meth c s₁ B hml hv
  obtain ⟨rfl, hH0, hK, hE⟩ := hv
  have hx := B.exec
  have hb := B.bytes
  have hr := B.returns
  have hts := atoms_spec (ws := w_s_chooseZ) B.pre
  have hown : s.vm.findClass RX12 = some m.cls := findClass_of_methodNamed B.named
  have hlocks := B.notSynchronized
  subst hH0
  generalize hAe : gA G s.heap.size = A at hE ⊢
  have hA : ∀ q : Nat, s.heap.size ≤ q → A q := fun q h => by rw [← hAe]; exact Or.inr h
  have hG := gA_of hAe
  have hS : va_S A s.heap s.heap [] := va_S.rf
  have hF : gF (dC, dI) SKm G ([(0, 0), (30, 0), (31, 0), (39, 0), (47, 0), (51, 0), (52, 0)] : List (Nat × Nat)) s.heap s.heap := gF.rf
  have hl := lv_entry ([.ref o0, .int p0]) (n := 6) (Nat.le_of_ble_eq_true rfl)
  rw [lg_entry_eq]
  generalize (lg_sl ([.ref o0, .int p0]) ++ List.replicate (6 - (lg_sl ([.ref o0, .int p0])).length) Slot.unset).toArray = ls at hl ⊢
  have hl : lv_has ls 6 [(0, .ref o0), (1, .int p0)] := hl
  have hg1 : G (q 38) = some 39 := gx_of hT hr_o0 shm_0 (k := 38) (by decide) rfl
  have hg2 : G (q 46) = some 47 := gx_of hT hr_o0 shm_0 (k := 46) (by decide) rfl
  have hg3 : G (q 39) = some 40 := gx_of hT hr_o0 shm_0 (k := 39) (by decide) rfl
  have hg4 : G (q 31) = some 32 := gx_of hT hr_o0 shm_0 (k := 31) (by decide) rfl
  have hg5 : G (q 32) = some 33 := gx_of hT hr_o0 shm_0 (k := 32) (by decide) rfl
  have hg6 : G (q 33) = some 34 := gx_of hT hr_o0 shm_0 (k := 33) (by decide) rfl
  have hg7 : G (q 34) = some 35 := gx_of hT hr_o0 shm_0 (k := 34) (by decide) rfl
  have hg8 : G (q 35) = some 36 := gx_of hT hr_o0 shm_0 (k := 35) (by decide) rfl
  have hg9 : G (q 36) = some 37 := gx_of hT hr_o0 shm_0 (k := 36) (by decide) rfl
  have hg10 : G (q 40) = some 41 := gx_of hT hr_o0 shm_0 (k := 40) (by decide) rfl
  have hg11 : G (q 30) = some 31 := gx_of hT hr_o0 shm_0 (k := 30) (by decide) rfl
  have hg12 : G (q 29) = some 30 := gx_of hT hr_o0 shm_0 (k := 29) (by decide) rfl
  have hg13 : G (q 19) = some 20 := gx_of hT hr_o0 shm_0 (k := 19) (by decide) rfl
  have hg14 : G (q 24) = some 25 := gx_of hT hr_o0 shm_0 (k := 24) (by decide) rfl
  have hg15 : G (q 25) = some 26 := gx_of hT hr_o0 shm_0 (k := 25) (by decide) rfl
  have hg16 : G (q 26) = some 27 := gx_of hT hr_o0 shm_0 (k := 26) (by decide) rfl
  have hg17 : G (q 27) = some 28 := gx_of hT hr_o0 shm_0 (k := 27) (by decide) rfl
  have hg18 : G (q 18) = some 19 := gx_of hT hr_o0 shm_0 (k := 18) (by decide) rfl
  have hg19 : G (q 51) = some 52 := gx_of hT hr_o0 shm_0 (k := 51) (by decide) rfl
  refine lv_aload_n hx hb dX12_choose_0 rfl (lv_at hl 0 rfl) ?_
  refine lv_iconst (v := 0) hx hb dX12_choose_1 (by decide) ?_
  refine tw_put (v := .int 0) (ty := .int) hx hb hts bF_X12 tyX12 tyX12_ok nmX12 hown hK hT hG hS hr_o0 shm_0 rfl 0 (by decide) (ht_at hts 0 rfl) (fun _ h9 => h9) rfl (by decide +kernel) rfl rfl (gl_at rfl (gi_all _)) dX12_choose_2 (fun H locs hT oq m20 oj hS => ?_)
  have hF := hF.put hr_o0 skm_0 oq oj (by decide)
  have m21 := (oj 42 (by decide) (by decide)).trans hm_sn
  have m22 := (oj 47 (by decide) (by decide)).trans hm_fm
  have m23 := hc_vH.kept (oq _ (gne hg1 hr_o0 (by decide)))
  have m24 := hc_vR.kept (oq _ (gne hg2 hr_o0 (by decide)))
  have m25 := hc_vG.kept (oq _ (gne hg3 hr_o0 (by decide)))
  have m26 := hc_vA.kept (oq _ (gne hg4 hr_o0 (by decide)))
  have m27 := hc_vD.kept (oq _ (gne hg5 hr_o0 (by decide)))
  have m28 := hc_vC.kept (oq _ (gne hg6 hr_o0 (by decide)))
  have m29 := hc_vU.kept (oq _ (gne hg7 hr_o0 (by decide)))
  have m30 := hc_vI.kept (oq _ (gne hg8 hr_o0 (by decide)))
  have m31 := hc_vM.kept (oq _ (gne hg9 hr_o0 (by decide)))
  have m32 := hc_vW.kept (oq _ (gne hg10 hr_o0 (by decide)))
  have m33 := hc_fL.kept (oq _ (gne hg11 hr_o0 (by decide)))
  have m34 := hc_vQ.kept (oq _ (gne hg12 hr_o0 (by decide)))
  have m35 := hc_vO.kept (oq _ (gne hg13 hr_o0 (by decide)))
  have m36 := hc_vB.kept (oq _ (gne hg14 hr_o0 (by decide)))
  have m37 := hc_vX.kept (oq _ (gne hg15 hr_o0 (by decide)))
  have m38 := hc_vS.kept (oq _ (gne hg16 hr_o0 (by decide)))
  have m39 := hc_vN.kept (oq _ (gne hg17 hr_o0 (by decide)))
  have m40 := hc_vL.kept (oq _ (gne hg18 hr_o0 (by decide)))
  have m41 := hc_vP.kept (oq _ (gne hg19 hr_o0 (by decide)))
  refine lv_aload_n hx hb dX12_choose_5 rfl (lv_at hl 0 rfl) ?_
  refine lv_iload_n hx hb dX12_choose_6 rfl (lv_at hl 1 rfl) ?_
  refine lv_iconst (v := 0) hx hb dX12_choose_7 (by decide) ?_
  refine lv_bipush (v := 60) hx hb dX12_choose_8 (by decide) ?_
  have hFc := gA_free hG hA hS
  refine va_calli (va_runS (As := [.int p0, .int 0, .int 60]) (rest := [.ref o0]) ⟨hx, hb, hml, hown, hts⟩ (s_in l dC dI kA adK adV G H q wZ wN wH wB wC wL wK wU wV PI im PM PT lS lB lE lN p0 0 60 hT hgz hgn hgh hgb hgc hgi hgu) (va_cwS 3 hts (goodIn_app (goodIn_r _ [3, 4, 5] rfl (by decide +kernel)) (goodIn_ca (goodIn_r _ [2] rfl (by decide +kernel)) (bs_in _ _))) rfl rfl rfl (by decide +kernel) ⟨(Nat.le_of_ble_eq_true rfl), (Nat.le_of_ble_eq_true rfl)⟩) ⟨fun a U g mk q => by obtain ⟨q0, q1, qK, qE⟩ := q; exact ⟨q0, q1, va_K.moved (u := U) (U := U.calling g mk a) (Vm.Alike.refl U.vm) qK, EVS.blind g mk a qE⟩, fun U hU hW => ⟨rfl, hU, va_K.moved hW.alike hK, hE.call hS hFc hU hW⟩⟩ rfl rfl hl.1 rfl (lv_room (Nat.le_of_ble_eq_true rfl)) dX12_choose_10 ⟨(Nat.le_of_ble_eq_true rfl), (Nat.le_of_ble_eq_true rfl)⟩) hS (fun q _ h => hFc q h) hFc (fun r42 u t H locs ht hvm hw43 hB _ _ hS => ?_)
  obtain ⟨hT, hF1⟩ := hB
  rw [ht] at hT hF1
  have m44 := (hF1.fld hr_o0 skm_0 (k := 42) (by decide) (by decide)).trans m21
  have m45 := (hF1.fld hr_o0 skm_0 (k := 47) (by decide) (by decide)).trans m22
  have m46 := m23.kept (hF1.arr hg1 skm_39 (by decide))
  have m47 := m24.kept (hF1.arr hg2 skm_47 (by decide))
  have m48 := m25.kept (hF1.arr hg3 skm_40 (by decide))
  have m49 := m26.kept (hF1.arr hg4 skm_32 (by decide))
  have m50 := m27.kept (hF1.arr hg5 skm_33 (by decide))
  have m51 := m28.kept (hF1.arr hg6 skm_34 (by decide))
  have m52 := m29.kept (hF1.arr hg7 skm_35 (by decide))
  have m53 := m30.kept (hF1.arr hg8 skm_36 (by decide))
  have m54 := m31.kept (hF1.arr hg9 skm_37 (by decide))
  have m55 := m32.kept (hF1.arr hg10 skm_41 (by decide))
  have m56 := m33.kept (hF1.arr hg11 skm_31 (by decide))
  have m57 := m34.kept (hF1.arr hg12 skm_30 (by decide))
  have m58 := m35.kept (hF1.arr hg13 skm_20 (by decide))
  have m59 := m36.kept (hF1.arr hg14 skm_25 (by decide))
  have m60 := m37.kept (hF1.arr hg15 skm_26 (by decide))
  have m61 := m38.kept (hF1.arr hg16 skm_27 (by decide))
  have m62 := m39.kept (hF1.arr hg17 skm_28 (by decide))
  have m63 := m40.kept (hF1.arr hg18 skm_19 (by decide))
  have m64 := m41.kept (hF1.arr hg19 skm_52 (by decide))
  have m65 := (hF1.fld hr_o0 skm_0 (k := 0) (by decide) (by decide)).trans m20
  have hF := hF.more hF1 (by decide)
  try dsimp only at hw43
  obtain ⟨h66, hi67, hi68⟩ := hw43
  refine lv_if_ne (tgt := 20) hx hb dX12_choose_13 (by decide) (fun c69 => ?_) (fun c69 => ?_)
  · have t70 : r42.toInt ≠ 0 := ti_ne c69 rfl (by decide)
    have t71 : (0 : Int32).toInt = 0 := by decide
    have t72 : (60 : Int32).toInt = 60 := by decide
    have t73 : (0 : Int32).toInt ≤ p0.toInt ∧ p0.toInt ≤ (60 : Int32).toInt := hi67 ((bit_of ⟨by omega, by omega⟩).resolve_left c69)
    refine lv_iconst (v := 0) hx hb dX12_choose_20 (by decide) ?_
    refine lv_iconst (v := 1) hx hb dX12_choose_21 (by decide) ?_
    have hFc := gA_free hG hA hS
    refine va_calli (va_runV (As := [.int 0, .int 1]) (rest := []) ⟨hx, hb, hml, hown, hts⟩ (s_throwsIf l dC dI kA adK adV G H q wZ wN wH wB wC wL wK wU wV PI im PM PT lS lB lE lN o0 0 1 hT hr_o0 (rg_t (a := 0) (by decide) (by first | decide | omega) (by first | decide | omega)) hgz hgn hgh hgb hgc hgi hgu) (cwV 2 hts (goodIn_app (goodIn_r _ [7, 8, 9, 5] rfl (by decide +kernel)) (goodIn_ca (goodIn_r _ [6, 1] rfl (by decide +kernel)) (bs_in _ _))) rfl rfl rfl (by decide +kernel) ⟨(Nat.le_of_ble_eq_true rfl), (Nat.le_of_ble_eq_true rfl)⟩) ⟨fun a U g mk q => by obtain ⟨q0, q1, qK, qE⟩ := q; exact ⟨q0, q1, va_K.moved (u := U) (U := U.calling g mk a) (Vm.Alike.refl U.vm) qK, EVS.blind g mk a qE⟩, gH_rc hK hT hr_o0 shm_0 rfl, fun U hU hW => ⟨rfl, hU, va_K.moved hW.alike hK, hE.call hS hFc hU hW⟩⟩ rfl rfl hl.1 rfl (lv_room (Nat.le_of_ble_eq_true rfl)) dX12_choose_22 ⟨(Nat.le_of_ble_eq_true rfl), (Nat.le_of_ble_eq_true rfl)⟩) hS (fun q _ h => hFc q h) hFc (fun r74 u t H locs ht hvm hw75 hB _ _ hS => ?_)
    obtain ⟨hT, hF1⟩ := hB
    rw [ht] at hT hF1
    have m76 := (hF1.fld hr_o0 skm_0 (k := 42) (by decide) (by decide)).trans m44
    have m77 := (hF1.fld hr_o0 skm_0 (k := 47) (by decide) (by decide)).trans m45
    have m78 := m46.kept (hF1.arr hg1 skm_39 (by decide))
    have m79 := m47.kept (hF1.arr hg2 skm_47 (by decide))
    have m80 := m48.kept (hF1.arr hg3 skm_40 (by decide))
    have m81 := m49.kept (hF1.arr hg4 skm_32 (by decide))
    have m82 := m50.kept (hF1.arr hg5 skm_33 (by decide))
    have m83 := m51.kept (hF1.arr hg6 skm_34 (by decide))
    have m84 := m52.kept (hF1.arr hg7 skm_35 (by decide))
    have m85 := m53.kept (hF1.arr hg8 skm_36 (by decide))
    have m86 := m54.kept (hF1.arr hg9 skm_37 (by decide))
    have m87 := m55.kept (hF1.arr hg10 skm_41 (by decide))
    have m88 := m56.kept (hF1.arr hg11 skm_31 (by decide))
    have m89 := m57.kept (hF1.arr hg12 skm_30 (by decide))
    have m90 := m58.kept (hF1.arr hg13 skm_20 (by decide))
    have m91 := m59.kept (hF1.arr hg14 skm_25 (by decide))
    have m92 := m60.kept (hF1.arr hg15 skm_26 (by decide))
    have m93 := m61.kept (hF1.arr hg16 skm_27 (by decide))
    have m94 := m62.kept (hF1.arr hg17 skm_28 (by decide))
    have m95 := m63.kept (hF1.arr hg18 skm_19 (by decide))
    have m96 := m64.kept (hF1.arr hg19 skm_52 (by decide))
    have hF := hF.more hF1 (by decide)
    try dsimp only at hw75
    obtain ⟨h98, hd99⟩ := hw75
    obtain rfl : (0 : Int32) = r74 := hd99.symm
    refine lv_if_eq (tgt := 30) hx hb dX12_choose_25 (by decide) (fun c100 => ?_) (fun c100 => absurd c100 (by decide))
    refine lv_iconst (v := 0) hx hb dX12_choose_30 (by decide) ?_
    refine lv_istore_n (lv' := [(2, .int 0), (0, .ref o0), (1, .int p0)]) hx hb dX12_choose_31 rfl hl (by decide) rfl (fun ls hl => ?_)
    have key832 : ∀ (n832 i101 : Nat), i101 + n832 = 60 → 0 ≤ i101 → ∀ (V118 : Nat → Int32), ((zPo (zLs vG vA vD vC vU vI vM vW) A9 V118 i101) ∧ (((i101 : Nat) : Int) ≤ sn.toInt)) → ∀ (H : Heap) (locs : List Loc), gH (dC, dI) kA (SHm q (wP wZ wN wH wB wC wL wK wU wV) PI im PM PT lS lB lE lN) G H → gF (dC, dI) SKm G ([(0, 0), (30, 0), (31, 0), (39, 0), (47, 0), (51, 0), (52, 0)] : List (Nat × Nat)) s.heap H → va_S A s.heap H locs → ct H (q 38) 60 vH → ct H (q 46) 30 vR → ct H (q 39) 60 vG → ct H (q 31) 60 vA → ct H (q 32) 60 vD → ct H (q 33) 60 vC → ct H (q 34) 60 vU → ct H (q 35) 60 vI → ct H (q 36) 60 vM → ct H (q 40) 60 vW → ct H (q 19) 60 vO → ct H (q 24) 60 vB → ct H (q 25) 60 vX → ct H (q 26) 1200 vS → ct H (q 27) 1200 vN → ct H (q 18) 3 vL → ct H (q 51) 60 V118 → el H o0 (dI 15 42) = some (.int sn) → el H o0 (dI 15 47) = some (.int fm) → ∀ ls : Array Slot, lv_has ls 6 [(2, .int (nI i101)), (0, .ref o0), (1, .int p0)] → W p l e (headSpec w_s_chooseZ ({ frames := 6, cells := 0, slots := 0, locals := 134 })).room s m #[.ref o0, .int p0] below meth c H locs 0 0 (MQ below (va_Qi (fun (r : Int32) (u : (Nat → Int32) × (Nat → Int32)) => match u with | (vH1, vR1) => ((zHb vH1 sn.toInt ∧ ((1 ≤ p0.toInt ∧ p0.toInt ≤ 60) ∧ 0 < fm.toInt ∧ zNO (zLs vG vA vD vC vU vI vM vW) A9 sn.toInt)) ∨ ((vH = vH1 ∧ vR = vR1) ∧ ¬ ((1 ≤ p0.toInt ∧ p0.toInt ≤ 60) ∧ 0 < fm.toInt ∧ zNO (zLs vG vA vD vC vU vI vM vW) A9 sn.toInt)))) (fun (u : (Nat → Int32) × (Nat → Int32)) (t : State) => match u with | (vH1, vR1) => gH (dC, dI) kA (SHm q (wP wZ wN wH wB wC wL wK wU wV) PI im PM PT lS lB lE lN) G t.heap ∧ gF (dC, dI) SKm G ([(0, 0), (30, 0), (31, 0), (39, 0), (47, 0), (51, 0), (52, 0)] : List (Nat × Nat)) s.heap t.heap ∧ ct t.heap (q 38) 60 vH1 ∧ ct t.heap (q 46) 30 vR1) A) #[.ref o0, .int p0] s 0 0 A) (F0 m 32 ls []) := by
      intro n832
      induction n832 with
      | zero =>
        intro i101 hn832 hlo833 V118 ⟨hj122, hj123⟩ H locs hT hF hS m102 m103 m104 m105 m106 m107 m108 m109 m110 m111 m112 m113 m114 m115 m116 m117 m119 m120 m121 ls hl
        obtain rfl : 60 = i101 := by omega
        refine lv_iload_n hx hb dX12_choose_32 rfl (lv_at hl 0 rfl) ?_
        refine lv_aload_n hx hb dX12_choose_33 rfl (lv_at hl 1 rfl) ?_
        refine tw_getM (v := .int sn) hx hb hts bF_X12 hown hK hT hr_o0 shm_0 rfl 42 (by decide) (ht_at hts 9 rfl) (fun _ h9 => h9) m120 dX12_choose_34 ?_
        refine lv_icmp_ge (tgt := 90) hx hb dX12_choose_37 (by decide) (fun c834 => ?_) (fun c834 => (by exfalso; have q9 : ((60 : Nat) : Int) < sn.toInt := ti_nle c834 rfl (nI_toInt (by omega)); omega))
        have t835 : sn.toInt ≤ ((60 : Nat) : Int) := ti_le c834 rfl (nI_toInt (by omega))
        refine lv_iconst (v := 0) hx hb dX12_choose_90 (by decide) ?_
        refine lv_istore_n (lv' := [(2, .int 0), (0, .ref o0), (1, .int p0)]) hx hb dX12_choose_91 rfl hl (by decide) rfl (fun ls hl => ?_)
        refine lv_iconst (v := 0) hx hb dX12_choose_92 (by decide) ?_
        refine lv_istore_n (lv' := [(3, .int 0), (2, .int 0), (0, .ref o0), (1, .int p0)]) hx hb dX12_choose_93 rfl hl (by decide) rfl (fun ls hl => ?_)
        have key1112 : ∀ (n1112 i836 : Nat), i836 + n1112 = 60 → 0 ≤ i836 → ∀ (z837 : Int32), ∀ (V838 : Nat → Int32), ∀ (V840 : Nat → Int32), ∀ (V856 : Nat → Int32), (((((i836 : Nat) : Int) = 0 ∧ vH = V838 ∧ vR = V840 ∧ zPo (zLs vG vA vD vC vU vI vM vW) A9 V856 sn.toNatClampNeg) ∨ (1 ≤ ((i836 : Nat) : Int) ∧ zHb V838 sn.toInt ∧ 0 < fm.toInt ∧ zNO (zLs vG vA vD vC vU vI vM vW) A9 sn.toInt)) ∧ (((i836 : Nat) : Int) = 0 ∨ ((i836 : Nat) : Int) ≤ p0.toInt)) → ∀ (H : Heap) (locs : List Loc), gH (dC, dI) kA (SHm q (wP wZ wN wH wB wC wL wK wU wV) PI im PM PT lS lB lE lN) G H → gF (dC, dI) SKm G ([(0, 0), (30, 0), (31, 0), (39, 0), (47, 0), (51, 0), (52, 0)] : List (Nat × Nat)) s.heap H → va_S A s.heap H locs → ct H (q 38) 60 V838 → ct H (q 46) 30 V840 → ct H (q 39) 60 vG → ct H (q 31) 60 vA → ct H (q 32) 60 vD → ct H (q 33) 60 vC → ct H (q 34) 60 vU → ct H (q 35) 60 vI → ct H (q 36) 60 vM → ct H (q 40) 60 vW → ct H (q 19) 60 vO → ct H (q 24) 60 vB → ct H (q 25) 60 vX → ct H (q 26) 1200 vS → ct H (q 27) 1200 vN → ct H (q 18) 3 vL → ct H (q 51) 60 V856 → el H o0 (dI 15 42) = some (.int sn) → el H o0 (dI 15 47) = some (.int fm) → ∀ ls : Array Slot, lv_has ls 6 [(3, .int (nI i836)), (2, .int z837), (0, .ref o0), (1, .int p0)] → W p l e (headSpec w_s_chooseZ ({ frames := 6, cells := 0, slots := 0, locals := 134 })).room s m #[.ref o0, .int p0] below meth c H locs 0 0 (MQ below (va_Qi (fun (r : Int32) (u : (Nat → Int32) × (Nat → Int32)) => match u with | (vH1, vR1) => ((zHb vH1 sn.toInt ∧ ((1 ≤ p0.toInt ∧ p0.toInt ≤ 60) ∧ 0 < fm.toInt ∧ zNO (zLs vG vA vD vC vU vI vM vW) A9 sn.toInt)) ∨ ((vH = vH1 ∧ vR = vR1) ∧ ¬ ((1 ≤ p0.toInt ∧ p0.toInt ≤ 60) ∧ 0 < fm.toInt ∧ zNO (zLs vG vA vD vC vU vI vM vW) A9 sn.toInt)))) (fun (u : (Nat → Int32) × (Nat → Int32)) (t : State) => match u with | (vH1, vR1) => gH (dC, dI) kA (SHm q (wP wZ wN wH wB wC wL wK wU wV) PI im PM PT lS lB lE lN) G t.heap ∧ gF (dC, dI) SKm G ([(0, 0), (30, 0), (31, 0), (39, 0), (47, 0), (51, 0), (52, 0)] : List (Nat × Nat)) s.heap t.heap ∧ ct t.heap (q 38) 60 vH1 ∧ ct t.heap (q 46) 30 vR1) A) #[.ref o0, .int p0] s 0 0 A) (F0 m 94 ls []) := by
          intro n1112
          induction n1112 with
          | zero =>
            intro i836 hn1112 hlo1113 z837 V838 V840 V856 ⟨hj860, hj861⟩ H locs hT hF hS m839 m841 m842 m843 m844 m845 m846 m847 m848 m849 m850 m851 m852 m853 m854 m855 m857 m858 m859 ls hl
            obtain rfl : 60 = i836 := by omega
            refine lv_iload_n hx hb dX12_choose_94 rfl (lv_at hl 0 rfl) ?_
            refine lv_iload_n hx hb dX12_choose_95 rfl (lv_at hl 3 rfl) ?_
            refine lv_icmp_ge (tgt := 158) hx hb dX12_choose_96 (by decide) (fun c1114 => ?_) (fun c1114 => (by exfalso; have q9 : ((60 : Nat) : Int) < p0.toInt := ti_nle c1114 rfl (nI_toInt (by omega)); omega))
            have t1115 : p0.toInt ≤ ((60 : Nat) : Int) := ti_le c1114 rfl (nI_toInt (by omega))
            refine lv_iload_n hx hb dX12_choose_158 rfl (lv_at hl 1 rfl) ?_
            exact W.iret (v := z837) hx hb hr (fun t ht hW => ⟨⟨z837, (V838, V840), rfl, (by exact (by rcases hj860 with ⟨h8, h7, h6, h5⟩ | ⟨h8, h7, h6, h5⟩; (exact Or.inr ⟨⟨h7, h6⟩, fun h4 => by have := h4.1; omega⟩); exact Or.inl ⟨h7, ⟨by omega, by omega⟩, h6, h5⟩)), by (try dsimp only); rw [ht]; exact ⟨hT, hF, m839, m841⟩⟩, hS.F ht⟩) hS.2.2 dX12_choose_159
          | succ n1112 ih1112 =>
            intro i836 hn1112 hlo1113 z837 V838 V840 V856 ⟨hj860, hj861⟩ H locs hT hF hS m839 m841 m842 m843 m844 m845 m846 m847 m848 m849 m850 m851 m852 m853 m854 m855 m857 m858 m859 ls hl
            have hlt1115 : i836 < 60 := by omega
            refine lv_iload_n hx hb dX12_choose_94 rfl (lv_at hl 0 rfl) ?_
            refine lv_iload_n hx hb dX12_choose_95 rfl (lv_at hl 3 rfl) ?_
            refine lv_icmp_ge (tgt := 158) hx hb dX12_choose_96 (by decide) (fun c1116 => ?_) (fun c1116 => ?_)
            · have t1117 : p0.toInt ≤ ((i836 : Nat) : Int) := ti_le c1116 rfl (nI_toInt (by omega))
              refine lv_iload_n hx hb dX12_choose_158 rfl (lv_at hl 1 rfl) ?_
              exact W.iret (v := z837) hx hb hr (fun t ht hW => ⟨⟨z837, (V838, V840), rfl, (by exact (by rcases hj860 with ⟨h8, h7, h6, h5⟩ | ⟨h8, h7, h6, h5⟩; (exact Or.inr ⟨⟨h7, h6⟩, fun h4 => by have := h4.1; omega⟩); exact Or.inl ⟨h7, ⟨by omega, by omega⟩, h6, h5⟩)), by (try dsimp only); rw [ht]; exact ⟨hT, hF, m839, m841⟩⟩, hS.F ht⟩) hS.2.2 dX12_choose_159
            · have t1118 : ((i836 : Nat) : Int) < p0.toInt := ti_nle c1116 rfl (nI_toInt (by omega))
              rcases hj860 with ⟨ha1120, rfl, rfl, hpo1121⟩ | ⟨hb1124, hzb1125, hfm1126, hno1127⟩
              · refine lv_aload_n hx hb dX12_choose_99 rfl (lv_at hl 2 rfl) ?_
                have hFc := gA_free hG hA hS
                refine va_calli (va_runV (As := []) (rest := []) ⟨hx, hb, hml, hown, hts⟩ (s_nextOneZ l dC dI kA adK adV G H q wZ wN wH wB wC wL wK wU wV PI im PM PT lS lB lE lN o0 sn V856 hT hr_o0 m858 (by have q8 := ti_all sn; omega) m857 hgz hgn hgh hgb hgc hgi hgu) (cwV 0 hts (goodIn_app (goodIn_r _ [15, 16, 17, 5] rfl (by decide +kernel)) (goodIn_ca (goodIn_r _ [11, 10, 12, 13, 14] rfl (by decide +kernel)) (bs_in _ _))) rfl rfl rfl (by decide +kernel) ⟨(Nat.le_of_ble_eq_true rfl), (Nat.le_of_ble_eq_true rfl)⟩) ⟨fun a U g mk q => by obtain ⟨q0, q1, qK, qE⟩ := q; exact ⟨q0, q1, va_K.moved (u := U) (U := U.calling g mk a) (Vm.Alike.refl U.vm) qK, EVS.blind g mk a qE⟩, gH_rc hK hT hr_o0 shm_0 rfl, fun U hU hW => ⟨rfl, hU, va_K.moved hW.alike hK, hE.call hS hFc hU hW⟩⟩ rfl rfl hl.1 rfl (lv_room (Nat.le_of_ble_eq_true rfl)) dX12_choose_100 ⟨(Nat.le_of_ble_eq_true rfl), (Nat.le_of_ble_eq_true rfl)⟩) hS (fun q _ h => hFc q h) hFc (fun r1128 u t H locs ht hvm hw1129 hB _ _ hS => ?_)
                obtain ⟨hT, hF1⟩ := hB
                rw [ht] at hT hF1
                have m1130 := m839.kept (hF1.arr hg1 skm_39 (by decide))
                have m1131 := m841.kept (hF1.arr hg2 skm_47 (by decide))
                have m1132 := m842.kept (hF1.arr hg3 skm_40 (by decide))
                have m1133 := m843.kept (hF1.arr hg4 skm_32 (by decide))
                have m1134 := m844.kept (hF1.arr hg5 skm_33 (by decide))
                have m1135 := m845.kept (hF1.arr hg6 skm_34 (by decide))
                have m1136 := m846.kept (hF1.arr hg7 skm_35 (by decide))
                have m1137 := m847.kept (hF1.arr hg8 skm_36 (by decide))
                have m1138 := m848.kept (hF1.arr hg9 skm_37 (by decide))
                have m1139 := m849.kept (hF1.arr hg10 skm_41 (by decide))
                have m1140 := m850.kept (hF1.arr hg13 skm_20 (by decide))
                have m1141 := m851.kept (hF1.arr hg14 skm_25 (by decide))
                have m1142 := m852.kept (hF1.arr hg15 skm_26 (by decide))
                have m1143 := m853.kept (hF1.arr hg16 skm_27 (by decide))
                have m1144 := m854.kept (hF1.arr hg17 skm_28 (by decide))
                have m1145 := m855.kept (hF1.arr hg18 skm_19 (by decide))
                have m1146 := m857.kept (hF1.arr hg19 skm_52 (by decide))
                have m1147 := (hF1.fld hr_o0 skm_0 (k := 42) (by decide) (by decide)).trans m858
                have m1148 := (hF1.fld hr_o0 skm_0 (k := 47) (by decide) (by decide)).trans m859
                have hF := hF.more hF1 (by decide)
                try dsimp only at hw1129
                obtain ⟨h1149, hf1150⟩ := hw1129
                refine lv_istore (lv' := [(4, .int r1128), (3, .int (nI i836)), (2, .int z837), (0, .ref o0), (1, .int p0)]) hx hb dX12_choose_103 hl (by decide) rfl (fun ls hl => ?_)
                refine lv_aload_n hx hb dX12_choose_105 rfl (lv_at hl 3 rfl) ?_
                have hFc := gA_free hG hA hS
                refine va_calli (va_runV (As := []) (rest := []) ⟨hx, hb, hml, hown, hts⟩ (s_bestFarmZ l dC dI kA adK adV G H q wZ wN wH wB wC wL wK wU wV PI im PM PT lS lB lE lN o0 fm vR hT hr_o0 m1148 (by have q8 := ti_all fm; omega) hnh m1131 hgz hgn hgh hgb hgc hgi hgu) (cwV 0 hts (goodIn_app (goodIn_r _ [38, 39, 40, 5] rfl (by decide +kernel)) (goodIn_ca (goodIn_r _ [18, 19, 20, 21, 22, 23, 24, 25, 26, 27, 28, 29, 30, 31, 2, 3, 4, 5, 32, 33, 34, 35, 36, 37] rfl (by decide +kernel)) (bs_in _ _))) rfl rfl rfl (by decide +kernel) ⟨(Nat.le_of_ble_eq_true rfl), (Nat.le_of_ble_eq_true rfl)⟩) ⟨fun a U g mk q => by obtain ⟨q0, q1, qK, qE⟩ := q; exact ⟨q0, q1, va_K.moved (u := U) (U := U.calling g mk a) (Vm.Alike.refl U.vm) qK, EVS.blind g mk a qE⟩, gH_rc hK hT hr_o0 shm_0 rfl, fun U hU hW => ⟨rfl, hU, va_K.moved hW.alike hK, hE.call hS hFc hU hW⟩⟩ rfl rfl hl.1 rfl (lv_room (Nat.le_of_ble_eq_true rfl)) dX12_choose_106 ⟨(Nat.le_of_ble_eq_true rfl), (Nat.le_of_ble_eq_true rfl)⟩) hS (fun q _ h => hFc q h) hFc (fun r1151 u t H locs ht hvm hw1152 hB _ _ hS => ?_)
                obtain ⟨hT, hF1⟩ := hB
                rw [ht] at hT hF1
                have m1153 := m1130.kept (hF1.arr hg1 skm_39 (by decide))
                have m1154 := m1131.kept (hF1.arr hg2 skm_47 (by decide))
                have m1155 := m1132.kept (hF1.arr hg3 skm_40 (by decide))
                have m1156 := m1133.kept (hF1.arr hg4 skm_32 (by decide))
                have m1157 := m1134.kept (hF1.arr hg5 skm_33 (by decide))
                have m1158 := m1135.kept (hF1.arr hg6 skm_34 (by decide))
                have m1159 := m1136.kept (hF1.arr hg7 skm_35 (by decide))
                have m1160 := m1137.kept (hF1.arr hg8 skm_36 (by decide))
                have m1161 := m1138.kept (hF1.arr hg9 skm_37 (by decide))
                have m1162 := m1139.kept (hF1.arr hg10 skm_41 (by decide))
                have m1163 := m1140.kept (hF1.arr hg13 skm_20 (by decide))
                have m1164 := m1141.kept (hF1.arr hg14 skm_25 (by decide))
                have m1165 := m1142.kept (hF1.arr hg15 skm_26 (by decide))
                have m1166 := m1143.kept (hF1.arr hg16 skm_27 (by decide))
                have m1167 := m1144.kept (hF1.arr hg17 skm_28 (by decide))
                have m1168 := m1145.kept (hF1.arr hg18 skm_19 (by decide))
                have m1169 := m1146.kept (hF1.arr hg19 skm_52 (by decide))
                have m1170 := (hF1.fld hr_o0 skm_0 (k := 42) (by decide) (by decide)).trans m1147
                have m1171 := (hF1.fld hr_o0 skm_0 (k := 47) (by decide) (by decide)).trans m1148
                have hF := hF.more hF1 (by decide)
                try dsimp only at hw1152
                obtain ⟨h1172, hf1173⟩ := hw1152
                refine lv_istore (lv' := [(5, .int r1151), (4, .int r1128), (3, .int (nI i836)), (2, .int z837), (0, .ref o0), (1, .int p0)]) hx hb dX12_choose_109 hl (by decide) rfl (fun ls hl => ?_)
                refine lv_iload hx hb dX12_choose_111 (lv_at hl 1 rfl) ?_
                refine lv_if_lt (tgt := 121) hx hb dX12_choose_113 (by decide) (fun c1174 => ?_) (fun c1174 => ?_)
                · have t1175 : r1128.toInt < 0 := ti_lt c1174 rfl (by decide)
                  refine lv_iload_n hx hb dX12_choose_121 rfl (lv_at hl 3 rfl) ?_
                  exact W.iret (v := z837) hx hb hr (fun t ht hW => ⟨⟨z837, (vH, vR), rfl, (by exact (Or.inr ⟨⟨rfl, rfl⟩, fun h8 => by have := h8.2.1; have n9 := h8.2.2; rcases hf1150 with ⟨h7, h6⟩ | ⟨h7, h6, h5⟩; (exact (hpo1121.no (by have := tn_of (show sn.toInt = sn.toInt from rfl) (by omega); omega) h6) n9); omega⟩)), by (try dsimp only); rw [ht]; exact ⟨hT, hF, m1153, m1154⟩⟩, hS.F ht⟩) hS.2.2 dX12_choose_122
                · have t1176 : 0 ≤ r1128.toInt := ti_nlt c1174 rfl (by decide)
                  refine lv_iload hx hb dX12_choose_116 (lv_at hl 0 rfl) ?_
                  refine lv_if_ge (tgt := 123) hx hb dX12_choose_118 (by decide) (fun c1177 => ?_) (fun c1177 => ?_)
                  · have t1178 : 0 ≤ r1151.toInt := ti_le c1177 (by decide) rfl
                    refine lv_aload_n hx hb dX12_choose_123 rfl (lv_at hl 4 rfl) ?_
                    refine tw_get hx hb hts bF_X12 hown hK hT hr_o0 shm_0 rfl 51 (by decide) (ht_at hts 11 rfl) (fun _ h9 => h9) dX12_choose_124 (fun v9 m1179 h9 => ?_)
                    obtain ⟨rfl, hg1180⟩ := h9 _ rfl
                    refine lv_iload hx hb dX12_choose_127 (lv_at hl 1 rfl) ?_
                    refine lv_iconst (v := 0) hx hb dX12_choose_129 (by decide) ?_
                    refine tw_zast (i := r1128) (x := 0) hx hb hK hT hG hS hg19 shm_52 rfl (vin_t (a := r1128.toInt) rfl (by omega) (by omega)) (gi_z (rg_t (a := 0) (by decide) (by first | decide | omega) (by first | decide | omega)) (by decide) (by decide)) dX12_choose_130 (fun H locs hT oq m1181 oi hS => ?_)
                    have hF := hF.ast hg19 skm_52 oq (by decide)
                    have m1182 := m1153.kept (oq _ (gne hg1 hg19 (by decide)))
                    have m1183 := m1154.kept (oq _ (gne hg2 hg19 (by decide)))
                    have m1184 := m1155.kept (oq _ (gne hg3 hg19 (by decide)))
                    have m1185 := m1156.kept (oq _ (gne hg4 hg19 (by decide)))
                    have m1186 := m1157.kept (oq _ (gne hg5 hg19 (by decide)))
                    have m1187 := m1158.kept (oq _ (gne hg6 hg19 (by decide)))
                    have m1188 := m1159.kept (oq _ (gne hg7 hg19 (by decide)))
                    have m1189 := m1160.kept (oq _ (gne hg8 hg19 (by decide)))
                    have m1190 := m1161.kept (oq _ (gne hg9 hg19 (by decide)))
                    have m1191 := m1162.kept (oq _ (gne hg10 hg19 (by decide)))
                    have m1192 := m1163.kept (oq _ (gne hg13 hg19 (by decide)))
                    have m1193 := m1164.kept (oq _ (gne hg14 hg19 (by decide)))
                    have m1194 := m1165.kept (oq _ (gne hg15 hg19 (by decide)))
                    have m1195 := m1166.kept (oq _ (gne hg16 hg19 (by decide)))
                    have m1196 := m1167.kept (oq _ (gne hg17 hg19 (by decide)))
                    have m1197 := m1168.kept (oq _ (gne hg18 hg19 (by decide)))
                    have m1198 := m1169.put (show el H (q 51) _ = some (.int 0) from m1181) oi
                    have m1199 := (el_kept (oq _ (gne hr_o0 hg19 (by decide)))).trans m1170
                    have m1200 := (el_kept (oq _ (gne hr_o0 hg19 (by decide)))).trans m1171
                    refine lv_aload_n hx hb dX12_choose_131 rfl (lv_at hl 4 rfl) ?_
                    refine tw_get hx hb hts bF_X12 hown hK hT hr_o0 shm_0 rfl 38 (by decide) (ht_at hts 40 rfl) (fun _ h9 => h9) dX12_choose_132 (fun v9 m1201 h9 => ?_)
                    obtain ⟨rfl, hg1202⟩ := h9 _ rfl
                    refine lv_iload hx hb dX12_choose_135 (lv_at hl 1 rfl) ?_
                    refine lv_iload hx hb dX12_choose_137 (lv_at hl 0 rfl) ?_
                    refine tw_iast (i := r1128) (x := r1151) hx hb hK hT hG hS hg1 shm_39 rfl (vin_t (a := r1128.toInt) rfl (by omega) (by omega)) (gi_of (show r1151.toInt = r1151.toInt from rfl) (by omega) (by omega)) dX12_choose_139 (fun H locs hT oq m1203 oi hS => ?_)
                    have hF := hF.ast hg1 skm_39 oq (by decide)
                    have m1204 := m1182.put m1203 oi
                    have m1205 := m1183.kept (oq _ (gne hg2 hg1 (by decide)))
                    have m1206 := m1184.kept (oq _ (gne hg3 hg1 (by decide)))
                    have m1207 := m1185.kept (oq _ (gne hg4 hg1 (by decide)))
                    have m1208 := m1186.kept (oq _ (gne hg5 hg1 (by decide)))
                    have m1209 := m1187.kept (oq _ (gne hg6 hg1 (by decide)))
                    have m1210 := m1188.kept (oq _ (gne hg7 hg1 (by decide)))
                    have m1211 := m1189.kept (oq _ (gne hg8 hg1 (by decide)))
                    have m1212 := m1190.kept (oq _ (gne hg9 hg1 (by decide)))
                    have m1213 := m1191.kept (oq _ (gne hg10 hg1 (by decide)))
                    have m1214 := m1192.kept (oq _ (gne hg13 hg1 (by decide)))
                    have m1215 := m1193.kept (oq _ (gne hg14 hg1 (by decide)))
                    have m1216 := m1194.kept (oq _ (gne hg15 hg1 (by decide)))
                    have m1217 := m1195.kept (oq _ (gne hg16 hg1 (by decide)))
                    have m1218 := m1196.kept (oq _ (gne hg17 hg1 (by decide)))
                    have m1219 := m1197.kept (oq _ (gne hg18 hg1 (by decide)))
                    have m1220 := m1198.kept (oq _ (gne hg19 hg1 (by decide)))
                    have m1221 := (el_kept (oq _ (gne hr_o0 hg1 (by decide)))).trans m1199
                    have m1222 := (el_kept (oq _ (gne hr_o0 hg1 (by decide)))).trans m1200
                    refine lv_aload_n hx hb dX12_choose_140 rfl (lv_at hl 4 rfl) ?_
                    refine tw_get hx hb hts bF_X12 hown hK hT hr_o0 shm_0 rfl 46 (by decide) (ht_at hts 19 rfl) (fun _ h9 => h9) dX12_choose_141 (fun v9 m1223 h9 => ?_)
                    obtain ⟨rfl, hg1224⟩ := h9 _ rfl
                    refine lv_iload hx hb dX12_choose_144 (lv_at hl 0 rfl) ?_
                    refine lv_iload hx hb dX12_choose_146 (lv_at hl 1 rfl) ?_
                    refine tw_iast (i := r1151) (x := r1128) hx hb hK hT hG hS hg2 shm_47 rfl (vin_t (a := r1151.toInt) rfl (by omega) (by omega)) (gi_of (show r1128.toInt = r1128.toInt from rfl) (by omega) (by omega)) dX12_choose_148 (fun H locs hT oq m1225 oi hS => ?_)
                    have hF := hF.ast hg2 skm_47 oq (by decide)
                    have m1226 := m1204.kept (oq _ (gne hg1 hg2 (by decide)))
                    have m1227 := m1205.put m1225 oi
                    have m1228 := m1206.kept (oq _ (gne hg3 hg2 (by decide)))
                    have m1229 := m1207.kept (oq _ (gne hg4 hg2 (by decide)))
                    have m1230 := m1208.kept (oq _ (gne hg5 hg2 (by decide)))
                    have m1231 := m1209.kept (oq _ (gne hg6 hg2 (by decide)))
                    have m1232 := m1210.kept (oq _ (gne hg7 hg2 (by decide)))
                    have m1233 := m1211.kept (oq _ (gne hg8 hg2 (by decide)))
                    have m1234 := m1212.kept (oq _ (gne hg9 hg2 (by decide)))
                    have m1235 := m1213.kept (oq _ (gne hg10 hg2 (by decide)))
                    have m1236 := m1214.kept (oq _ (gne hg13 hg2 (by decide)))
                    have m1237 := m1215.kept (oq _ (gne hg14 hg2 (by decide)))
                    have m1238 := m1216.kept (oq _ (gne hg15 hg2 (by decide)))
                    have m1239 := m1217.kept (oq _ (gne hg16 hg2 (by decide)))
                    have m1240 := m1218.kept (oq _ (gne hg17 hg2 (by decide)))
                    have m1241 := m1219.kept (oq _ (gne hg18 hg2 (by decide)))
                    have m1242 := m1220.kept (oq _ (gne hg19 hg2 (by decide)))
                    have m1243 := (el_kept (oq _ (gne hr_o0 hg2 (by decide)))).trans m1221
                    have m1244 := (el_kept (oq _ (gne hr_o0 hg2 (by decide)))).trans m1222
                    have m1245 := (el_kept (oq _ (gne hg1 hg2 (by decide)))).trans m1203
                    obtain ⟨x1246, ex1246⟩ : ∃ y : Int32, y = z837 + 1 := ⟨_, rfl⟩
                    refine lv_iinc (v := x1246) (lv' := [(2, .int x1246), (5, .int r1151), (4, .int r1128), (3, .int (nI i836)), (0, .ref o0), (1, .int p0)]) hx hb dX12_choose_149 hl (k := 3) rfl (by first | (rw [ex1246]; done) | (rw [ex1246]; rfl)) (by decide) rfl (fun ls hl => ?_)
                    refine lv_iinc (v := nI (i836 + 1)) (lv' := [(3, .int (nI (i836 + 1))), (2, .int x1246), (5, .int r1151), (4, .int r1128), (0, .ref o0), (1, .int p0)]) hx hb dX12_choose_152 hl (k := 3) rfl (nI_add i836 1) (by decide) rfl (fun ls hl => ?_)
                    refine lv_goto (tgt := 94) hx hb dX12_choose_155 (by decide) ?_
                    exact ih1112 (i836 + 1) (by omega) (by omega) x1246 (cu vH r1128.toNatClampNeg r1151) (cu vR r1151.toNatClampNeg r1128) (cu V856 r1128.toNatClampNeg (0 : Int32)) ⟨(Or.inr ⟨by omega, zHb_at (by have := tn_of (show r1128.toInt = r1128.toInt from rfl) (by omega); omega) (by have := (show r1151.toInt = r1151.toInt from rfl); omega), by omega, hpo1121.yes (by have := tn_of (show sn.toInt = sn.toInt from rfl) (by omega); omega) ((hf1150.resolve_left (fun h8 => by have := h8.1; omega)).2.2)⟩), (by omega)⟩ _ _ hT hF hS m1226 m1227 m1228 m1229 m1230 m1231 m1232 m1233 m1234 m1235 m1236 m1237 m1238 m1239 m1240 m1241 m1242 m1243 m1244 ls (lv_sub hl [0, 1, 4, 5] rfl)
                  · have t1247 : r1151.toInt < 0 := ti_nle c1177 (by decide) rfl
                    refine lv_iload_n hx hb dX12_choose_121 rfl (lv_at hl 3 rfl) ?_
                    exact W.iret (v := z837) hx hb hr (fun t ht hW => ⟨⟨z837, (vH, vR), rfl, (by exact (Or.inr ⟨⟨rfl, rfl⟩, fun h8 => by have := h8.2.1; have n9 := h8.2.2; rcases hf1150 with ⟨h7, h6⟩ | ⟨h7, h6, h5⟩; (exact (hpo1121.no (by have := tn_of (show sn.toInt = sn.toInt from rfl) (by omega); omega) h6) n9); omega⟩)), by (try dsimp only); rw [ht]; exact ⟨hT, hF, m1153, m1154⟩⟩, hS.F ht⟩) hS.2.2 dX12_choose_122
              · refine lv_aload_n hx hb dX12_choose_99 rfl (lv_at hl 2 rfl) ?_
                have hFc := gA_free hG hA hS
                refine va_calli (va_runV (As := []) (rest := []) ⟨hx, hb, hml, hown, hts⟩ (s_nextOne l dC dI kA adK adV G H q wZ wN wH wB wC wL wK wU wV PI im PM PT lS lB lE lN o0 hT hr_o0 hgz hgn hgh hgb hgc hgi hgu) (cwV 0 hts (goodIn_app (goodIn_r _ [15, 16, 17, 5] rfl (by decide +kernel)) (goodIn_ca (goodIn_r _ [11, 10, 12, 13, 14] rfl (by decide +kernel)) (bs_in _ _))) rfl rfl rfl (by decide +kernel) ⟨(Nat.le_of_ble_eq_true rfl), (Nat.le_of_ble_eq_true rfl)⟩) ⟨fun a U g mk q => by obtain ⟨q0, q1, qK, qE⟩ := q; exact ⟨q0, q1, va_K.moved (u := U) (U := U.calling g mk a) (Vm.Alike.refl U.vm) qK, EVS.blind g mk a qE⟩, gH_rc hK hT hr_o0 shm_0 rfl, fun U hU hW => ⟨rfl, hU, va_K.moved hW.alike hK, hE.call hS hFc hU hW⟩⟩ rfl rfl hl.1 rfl (lv_room (Nat.le_of_ble_eq_true rfl)) dX12_choose_100 ⟨(Nat.le_of_ble_eq_true rfl), (Nat.le_of_ble_eq_true rfl)⟩) hS (fun q _ h => hFc q h) hFc (fun r1248 u t H locs ht hvm hw1249 hB _ _ hS => ?_)
                obtain ⟨hT, hF1⟩ := hB
                rw [ht] at hT hF1
                have m1250 := m839.kept (hF1.arr hg1 skm_39 (by decide))
                have m1251 := m841.kept (hF1.arr hg2 skm_47 (by decide))
                have m1252 := m842.kept (hF1.arr hg3 skm_40 (by decide))
                have m1253 := m843.kept (hF1.arr hg4 skm_32 (by decide))
                have m1254 := m844.kept (hF1.arr hg5 skm_33 (by decide))
                have m1255 := m845.kept (hF1.arr hg6 skm_34 (by decide))
                have m1256 := m846.kept (hF1.arr hg7 skm_35 (by decide))
                have m1257 := m847.kept (hF1.arr hg8 skm_36 (by decide))
                have m1258 := m848.kept (hF1.arr hg9 skm_37 (by decide))
                have m1259 := m849.kept (hF1.arr hg10 skm_41 (by decide))
                have m1260 := m850.kept (hF1.arr hg13 skm_20 (by decide))
                have m1261 := m851.kept (hF1.arr hg14 skm_25 (by decide))
                have m1262 := m852.kept (hF1.arr hg15 skm_26 (by decide))
                have m1263 := m853.kept (hF1.arr hg16 skm_27 (by decide))
                have m1264 := m854.kept (hF1.arr hg17 skm_28 (by decide))
                have m1265 := m855.kept (hF1.arr hg18 skm_19 (by decide))
                have m1266 := m857.kept (hF1.arr hg19 skm_52 (by decide))
                have m1267 := (hF1.fld hr_o0 skm_0 (k := 42) (by decide) (by decide)).trans m858
                have m1268 := (hF1.fld hr_o0 skm_0 (k := 47) (by decide) (by decide)).trans m859
                have hF := hF.more hF1 (by decide)
                try dsimp only at hw1249
                have h1269 := hw1249
                refine lv_istore (lv' := [(4, .int r1248), (3, .int (nI i836)), (2, .int z837), (0, .ref o0), (1, .int p0)]) hx hb dX12_choose_103 hl (by decide) rfl (fun ls hl => ?_)
                refine lv_aload_n hx hb dX12_choose_105 rfl (lv_at hl 3 rfl) ?_
                have hFc := gA_free hG hA hS
                refine va_calli (va_runV (As := []) (rest := []) ⟨hx, hb, hml, hown, hts⟩ (s_bestFarm l dC dI kA adK adV G H q wZ wN wH wB wC wL wK wU wV PI im PM PT lS lB lE lN o0 hT hr_o0 hgz hgn hgh hgb hgc hgi hgu) (cwV 0 hts (goodIn_app (goodIn_r _ [38, 39, 40, 5] rfl (by decide +kernel)) (goodIn_ca (goodIn_r _ [18, 19, 20, 21, 22, 23, 24, 25, 26, 27, 28, 29, 30, 31, 2, 3, 4, 5, 32, 33, 34, 35, 36, 37] rfl (by decide +kernel)) (bs_in _ _))) rfl rfl rfl (by decide +kernel) ⟨(Nat.le_of_ble_eq_true rfl), (Nat.le_of_ble_eq_true rfl)⟩) ⟨fun a U g mk q => by obtain ⟨q0, q1, qK, qE⟩ := q; exact ⟨q0, q1, va_K.moved (u := U) (U := U.calling g mk a) (Vm.Alike.refl U.vm) qK, EVS.blind g mk a qE⟩, gH_rc hK hT hr_o0 shm_0 rfl, fun U hU hW => ⟨rfl, hU, va_K.moved hW.alike hK, hE.call hS hFc hU hW⟩⟩ rfl rfl hl.1 rfl (lv_room (Nat.le_of_ble_eq_true rfl)) dX12_choose_106 ⟨(Nat.le_of_ble_eq_true rfl), (Nat.le_of_ble_eq_true rfl)⟩) hS (fun q _ h => hFc q h) hFc (fun r1270 u t H locs ht hvm hw1271 hB _ _ hS => ?_)
                obtain ⟨hT, hF1⟩ := hB
                rw [ht] at hT hF1
                have m1272 := m1250.kept (hF1.arr hg1 skm_39 (by decide))
                have m1273 := m1251.kept (hF1.arr hg2 skm_47 (by decide))
                have m1274 := m1252.kept (hF1.arr hg3 skm_40 (by decide))
                have m1275 := m1253.kept (hF1.arr hg4 skm_32 (by decide))
                have m1276 := m1254.kept (hF1.arr hg5 skm_33 (by decide))
                have m1277 := m1255.kept (hF1.arr hg6 skm_34 (by decide))
                have m1278 := m1256.kept (hF1.arr hg7 skm_35 (by decide))
                have m1279 := m1257.kept (hF1.arr hg8 skm_36 (by decide))
                have m1280 := m1258.kept (hF1.arr hg9 skm_37 (by decide))
                have m1281 := m1259.kept (hF1.arr hg10 skm_41 (by decide))
                have m1282 := m1260.kept (hF1.arr hg13 skm_20 (by decide))
                have m1283 := m1261.kept (hF1.arr hg14 skm_25 (by decide))
                have m1284 := m1262.kept (hF1.arr hg15 skm_26 (by decide))
                have m1285 := m1263.kept (hF1.arr hg16 skm_27 (by decide))
                have m1286 := m1264.kept (hF1.arr hg17 skm_28 (by decide))
                have m1287 := m1265.kept (hF1.arr hg18 skm_19 (by decide))
                have m1288 := m1266.kept (hF1.arr hg19 skm_52 (by decide))
                have m1289 := (hF1.fld hr_o0 skm_0 (k := 42) (by decide) (by decide)).trans m1267
                have m1290 := (hF1.fld hr_o0 skm_0 (k := 47) (by decide) (by decide)).trans m1268
                have hF := hF.more hF1 (by decide)
                try dsimp only at hw1271
                have h1291 := hw1271
                refine lv_istore (lv' := [(5, .int r1270), (4, .int r1248), (3, .int (nI i836)), (2, .int z837), (0, .ref o0), (1, .int p0)]) hx hb dX12_choose_109 hl (by decide) rfl (fun ls hl => ?_)
                refine lv_iload hx hb dX12_choose_111 (lv_at hl 1 rfl) ?_
                refine lv_if_lt (tgt := 121) hx hb dX12_choose_113 (by decide) (fun c1292 => ?_) (fun c1292 => ?_)
                · have t1293 : r1248.toInt < 0 := ti_lt c1292 rfl (by decide)
                  refine lv_iload_n hx hb dX12_choose_121 rfl (lv_at hl 3 rfl) ?_
                  exact W.iret (v := z837) hx hb hr (fun t ht hW => ⟨⟨z837, (V838, V840), rfl, (by exact (Or.inl ⟨hzb1125, ⟨by omega, by omega⟩, hfm1126, hno1127⟩)), by (try dsimp only); rw [ht]; exact ⟨hT, hF, m1272, m1273⟩⟩, hS.F ht⟩) hS.2.2 dX12_choose_122
                · have t1294 : 0 ≤ r1248.toInt := ti_nlt c1292 rfl (by decide)
                  refine lv_iload hx hb dX12_choose_116 (lv_at hl 0 rfl) ?_
                  refine lv_if_ge (tgt := 123) hx hb dX12_choose_118 (by decide) (fun c1295 => ?_) (fun c1295 => ?_)
                  · have t1296 : 0 ≤ r1270.toInt := ti_le c1295 (by decide) rfl
                    refine lv_aload_n hx hb dX12_choose_123 rfl (lv_at hl 4 rfl) ?_
                    refine tw_get hx hb hts bF_X12 hown hK hT hr_o0 shm_0 rfl 51 (by decide) (ht_at hts 11 rfl) (fun _ h9 => h9) dX12_choose_124 (fun v9 m1297 h9 => ?_)
                    obtain ⟨rfl, hg1298⟩ := h9 _ rfl
                    refine lv_iload hx hb dX12_choose_127 (lv_at hl 1 rfl) ?_
                    refine lv_iconst (v := 0) hx hb dX12_choose_129 (by decide) ?_
                    refine tw_zast (i := r1248) (x := 0) hx hb hK hT hG hS hg19 shm_52 rfl (vin_t (a := r1248.toInt) rfl (by omega) (by omega)) (gi_z (rg_t (a := 0) (by decide) (by first | decide | omega) (by first | decide | omega)) (by decide) (by decide)) dX12_choose_130 (fun H locs hT oq m1299 oi hS => ?_)
                    have hF := hF.ast hg19 skm_52 oq (by decide)
                    have m1300 := m1272.kept (oq _ (gne hg1 hg19 (by decide)))
                    have m1301 := m1273.kept (oq _ (gne hg2 hg19 (by decide)))
                    have m1302 := m1274.kept (oq _ (gne hg3 hg19 (by decide)))
                    have m1303 := m1275.kept (oq _ (gne hg4 hg19 (by decide)))
                    have m1304 := m1276.kept (oq _ (gne hg5 hg19 (by decide)))
                    have m1305 := m1277.kept (oq _ (gne hg6 hg19 (by decide)))
                    have m1306 := m1278.kept (oq _ (gne hg7 hg19 (by decide)))
                    have m1307 := m1279.kept (oq _ (gne hg8 hg19 (by decide)))
                    have m1308 := m1280.kept (oq _ (gne hg9 hg19 (by decide)))
                    have m1309 := m1281.kept (oq _ (gne hg10 hg19 (by decide)))
                    have m1310 := m1282.kept (oq _ (gne hg13 hg19 (by decide)))
                    have m1311 := m1283.kept (oq _ (gne hg14 hg19 (by decide)))
                    have m1312 := m1284.kept (oq _ (gne hg15 hg19 (by decide)))
                    have m1313 := m1285.kept (oq _ (gne hg16 hg19 (by decide)))
                    have m1314 := m1286.kept (oq _ (gne hg17 hg19 (by decide)))
                    have m1315 := m1287.kept (oq _ (gne hg18 hg19 (by decide)))
                    have m1316 := m1288.put (show el H (q 51) _ = some (.int 0) from m1299) oi
                    have m1317 := (el_kept (oq _ (gne hr_o0 hg19 (by decide)))).trans m1289
                    have m1318 := (el_kept (oq _ (gne hr_o0 hg19 (by decide)))).trans m1290
                    refine lv_aload_n hx hb dX12_choose_131 rfl (lv_at hl 4 rfl) ?_
                    refine tw_get hx hb hts bF_X12 hown hK hT hr_o0 shm_0 rfl 38 (by decide) (ht_at hts 40 rfl) (fun _ h9 => h9) dX12_choose_132 (fun v9 m1319 h9 => ?_)
                    obtain ⟨rfl, hg1320⟩ := h9 _ rfl
                    refine lv_iload hx hb dX12_choose_135 (lv_at hl 1 rfl) ?_
                    refine lv_iload hx hb dX12_choose_137 (lv_at hl 0 rfl) ?_
                    refine tw_iast (i := r1248) (x := r1270) hx hb hK hT hG hS hg1 shm_39 rfl (vin_t (a := r1248.toInt) rfl (by omega) (by omega)) (gi_of (show r1270.toInt = r1270.toInt from rfl) (by omega) (by omega)) dX12_choose_139 (fun H locs hT oq m1321 oi hS => ?_)
                    have hF := hF.ast hg1 skm_39 oq (by decide)
                    have m1322 := m1300.put m1321 oi
                    have m1323 := m1301.kept (oq _ (gne hg2 hg1 (by decide)))
                    have m1324 := m1302.kept (oq _ (gne hg3 hg1 (by decide)))
                    have m1325 := m1303.kept (oq _ (gne hg4 hg1 (by decide)))
                    have m1326 := m1304.kept (oq _ (gne hg5 hg1 (by decide)))
                    have m1327 := m1305.kept (oq _ (gne hg6 hg1 (by decide)))
                    have m1328 := m1306.kept (oq _ (gne hg7 hg1 (by decide)))
                    have m1329 := m1307.kept (oq _ (gne hg8 hg1 (by decide)))
                    have m1330 := m1308.kept (oq _ (gne hg9 hg1 (by decide)))
                    have m1331 := m1309.kept (oq _ (gne hg10 hg1 (by decide)))
                    have m1332 := m1310.kept (oq _ (gne hg13 hg1 (by decide)))
                    have m1333 := m1311.kept (oq _ (gne hg14 hg1 (by decide)))
                    have m1334 := m1312.kept (oq _ (gne hg15 hg1 (by decide)))
                    have m1335 := m1313.kept (oq _ (gne hg16 hg1 (by decide)))
                    have m1336 := m1314.kept (oq _ (gne hg17 hg1 (by decide)))
                    have m1337 := m1315.kept (oq _ (gne hg18 hg1 (by decide)))
                    have m1338 := m1316.kept (oq _ (gne hg19 hg1 (by decide)))
                    have m1339 := (el_kept (oq _ (gne hr_o0 hg1 (by decide)))).trans m1317
                    have m1340 := (el_kept (oq _ (gne hr_o0 hg1 (by decide)))).trans m1318
                    refine lv_aload_n hx hb dX12_choose_140 rfl (lv_at hl 4 rfl) ?_
                    refine tw_get hx hb hts bF_X12 hown hK hT hr_o0 shm_0 rfl 46 (by decide) (ht_at hts 19 rfl) (fun _ h9 => h9) dX12_choose_141 (fun v9 m1341 h9 => ?_)
                    obtain ⟨rfl, hg1342⟩ := h9 _ rfl
                    refine lv_iload hx hb dX12_choose_144 (lv_at hl 0 rfl) ?_
                    refine lv_iload hx hb dX12_choose_146 (lv_at hl 1 rfl) ?_
                    refine tw_iast (i := r1270) (x := r1248) hx hb hK hT hG hS hg2 shm_47 rfl (vin_t (a := r1270.toInt) rfl (by omega) (by omega)) (gi_of (show r1248.toInt = r1248.toInt from rfl) (by omega) (by omega)) dX12_choose_148 (fun H locs hT oq m1343 oi hS => ?_)
                    have hF := hF.ast hg2 skm_47 oq (by decide)
                    have m1344 := m1322.kept (oq _ (gne hg1 hg2 (by decide)))
                    have m1345 := m1323.put m1343 oi
                    have m1346 := m1324.kept (oq _ (gne hg3 hg2 (by decide)))
                    have m1347 := m1325.kept (oq _ (gne hg4 hg2 (by decide)))
                    have m1348 := m1326.kept (oq _ (gne hg5 hg2 (by decide)))
                    have m1349 := m1327.kept (oq _ (gne hg6 hg2 (by decide)))
                    have m1350 := m1328.kept (oq _ (gne hg7 hg2 (by decide)))
                    have m1351 := m1329.kept (oq _ (gne hg8 hg2 (by decide)))
                    have m1352 := m1330.kept (oq _ (gne hg9 hg2 (by decide)))
                    have m1353 := m1331.kept (oq _ (gne hg10 hg2 (by decide)))
                    have m1354 := m1332.kept (oq _ (gne hg13 hg2 (by decide)))
                    have m1355 := m1333.kept (oq _ (gne hg14 hg2 (by decide)))
                    have m1356 := m1334.kept (oq _ (gne hg15 hg2 (by decide)))
                    have m1357 := m1335.kept (oq _ (gne hg16 hg2 (by decide)))
                    have m1358 := m1336.kept (oq _ (gne hg17 hg2 (by decide)))
                    have m1359 := m1337.kept (oq _ (gne hg18 hg2 (by decide)))
                    have m1360 := m1338.kept (oq _ (gne hg19 hg2 (by decide)))
                    have m1361 := (el_kept (oq _ (gne hr_o0 hg2 (by decide)))).trans m1339
                    have m1362 := (el_kept (oq _ (gne hr_o0 hg2 (by decide)))).trans m1340
                    have m1363 := (el_kept (oq _ (gne hg1 hg2 (by decide)))).trans m1321
                    obtain ⟨x1364, ex1364⟩ : ∃ y : Int32, y = z837 + 1 := ⟨_, rfl⟩
                    refine lv_iinc (v := x1364) (lv' := [(2, .int x1364), (5, .int r1270), (4, .int r1248), (3, .int (nI i836)), (0, .ref o0), (1, .int p0)]) hx hb dX12_choose_149 hl (k := 3) rfl (by first | (rw [ex1364]; done) | (rw [ex1364]; rfl)) (by decide) rfl (fun ls hl => ?_)
                    refine lv_iinc (v := nI (i836 + 1)) (lv' := [(3, .int (nI (i836 + 1))), (2, .int x1364), (5, .int r1270), (4, .int r1248), (0, .ref o0), (1, .int p0)]) hx hb dX12_choose_152 hl (k := 3) rfl (nI_add i836 1) (by decide) rfl (fun ls hl => ?_)
                    refine lv_goto (tgt := 94) hx hb dX12_choose_155 (by decide) ?_
                    exact ih1112 (i836 + 1) (by omega) (by omega) x1364 (cu V838 r1248.toNatClampNeg r1270) (cu V840 r1270.toNatClampNeg r1248) (cu V856 r1248.toNatClampNeg (0 : Int32)) ⟨(Or.inr ⟨by omega, zHb_cu hzb1125 (by have := (show r1270.toInt = r1270.toInt from rfl); omega), hfm1126, hno1127⟩), (by omega)⟩ _ _ hT hF hS m1344 m1345 m1346 m1347 m1348 m1349 m1350 m1351 m1352 m1353 m1354 m1355 m1356 m1357 m1358 m1359 m1360 m1361 m1362 ls (lv_sub hl [0, 1, 4, 5] rfl)
                  · have t1365 : r1270.toInt < 0 := ti_nle c1295 (by decide) rfl
                    refine lv_iload_n hx hb dX12_choose_121 rfl (lv_at hl 3 rfl) ?_
                    exact W.iret (v := z837) hx hb hr (fun t ht hW => ⟨⟨z837, (V838, V840), rfl, (by exact (Or.inl ⟨hzb1125, ⟨by omega, by omega⟩, hfm1126, hno1127⟩)), by (try dsimp only); rw [ht]; exact ⟨hT, hF, m1272, m1273⟩⟩, hS.F ht⟩) hS.2.2 dX12_choose_122
        exact key1112 (60 - 0) 0 (by omega) (Nat.le_refl _) 0 vH vR V118 ⟨(Or.inl ⟨by omega, rfl, rfl, by rw [show sn.toNatClampNeg = 60 from by have := tn_of (show sn.toInt = sn.toInt from rfl) (by omega); omega]; exact hj122⟩), (by omega)⟩ _ _ hT hF hS m102 m103 m104 m105 m106 m107 m108 m109 m110 m111 m112 m113 m114 m115 m116 m117 m119 m120 m121 ls (lv_sub hl [0, 1, 2, 3] rfl)
      | succ n832 ih832 =>
        intro i101 hn832 hlo833 V118 ⟨hj122, hj123⟩ H locs hT hF hS m102 m103 m104 m105 m106 m107 m108 m109 m110 m111 m112 m113 m114 m115 m116 m117 m119 m120 m121 ls hl
        have hlt1365 : i101 < 60 := by omega
        refine lv_iload_n hx hb dX12_choose_32 rfl (lv_at hl 0 rfl) ?_
        refine lv_aload_n hx hb dX12_choose_33 rfl (lv_at hl 1 rfl) ?_
        refine tw_getM (v := .int sn) hx hb hts bF_X12 hown hK hT hr_o0 shm_0 rfl 42 (by decide) (ht_at hts 9 rfl) (fun _ h9 => h9) m120 dX12_choose_34 ?_
        refine lv_icmp_ge (tgt := 90) hx hb dX12_choose_37 (by decide) (fun c1366 => ?_) (fun c1366 => ?_)
        · have t1367 : sn.toInt ≤ ((i101 : Nat) : Int) := ti_le c1366 rfl (nI_toInt (by omega))
          refine lv_iconst (v := 0) hx hb dX12_choose_90 (by decide) ?_
          refine lv_istore_n (lv' := [(2, .int 0), (0, .ref o0), (1, .int p0)]) hx hb dX12_choose_91 rfl hl (by decide) rfl (fun ls hl => ?_)
          refine lv_iconst (v := 0) hx hb dX12_choose_92 (by decide) ?_
          refine lv_istore_n (lv' := [(3, .int 0), (2, .int 0), (0, .ref o0), (1, .int p0)]) hx hb dX12_choose_93 rfl hl (by decide) rfl (fun ls hl => ?_)
          have key1644 : ∀ (n1644 i1368 : Nat), i1368 + n1644 = 60 → 0 ≤ i1368 → ∀ (z1369 : Int32), ∀ (V1370 : Nat → Int32), ∀ (V1372 : Nat → Int32), ∀ (V1388 : Nat → Int32), (((((i1368 : Nat) : Int) = 0 ∧ vH = V1370 ∧ vR = V1372 ∧ zPo (zLs vG vA vD vC vU vI vM vW) A9 V1388 sn.toNatClampNeg) ∨ (1 ≤ ((i1368 : Nat) : Int) ∧ zHb V1370 sn.toInt ∧ 0 < fm.toInt ∧ zNO (zLs vG vA vD vC vU vI vM vW) A9 sn.toInt)) ∧ (((i1368 : Nat) : Int) = 0 ∨ ((i1368 : Nat) : Int) ≤ p0.toInt)) → ∀ (H : Heap) (locs : List Loc), gH (dC, dI) kA (SHm q (wP wZ wN wH wB wC wL wK wU wV) PI im PM PT lS lB lE lN) G H → gF (dC, dI) SKm G ([(0, 0), (30, 0), (31, 0), (39, 0), (47, 0), (51, 0), (52, 0)] : List (Nat × Nat)) s.heap H → va_S A s.heap H locs → ct H (q 38) 60 V1370 → ct H (q 46) 30 V1372 → ct H (q 39) 60 vG → ct H (q 31) 60 vA → ct H (q 32) 60 vD → ct H (q 33) 60 vC → ct H (q 34) 60 vU → ct H (q 35) 60 vI → ct H (q 36) 60 vM → ct H (q 40) 60 vW → ct H (q 19) 60 vO → ct H (q 24) 60 vB → ct H (q 25) 60 vX → ct H (q 26) 1200 vS → ct H (q 27) 1200 vN → ct H (q 18) 3 vL → ct H (q 51) 60 V1388 → el H o0 (dI 15 42) = some (.int sn) → el H o0 (dI 15 47) = some (.int fm) → ∀ ls : Array Slot, lv_has ls 6 [(3, .int (nI i1368)), (2, .int z1369), (0, .ref o0), (1, .int p0)] → W p l e (headSpec w_s_chooseZ ({ frames := 6, cells := 0, slots := 0, locals := 134 })).room s m #[.ref o0, .int p0] below meth c H locs 0 0 (MQ below (va_Qi (fun (r : Int32) (u : (Nat → Int32) × (Nat → Int32)) => match u with | (vH1, vR1) => ((zHb vH1 sn.toInt ∧ ((1 ≤ p0.toInt ∧ p0.toInt ≤ 60) ∧ 0 < fm.toInt ∧ zNO (zLs vG vA vD vC vU vI vM vW) A9 sn.toInt)) ∨ ((vH = vH1 ∧ vR = vR1) ∧ ¬ ((1 ≤ p0.toInt ∧ p0.toInt ≤ 60) ∧ 0 < fm.toInt ∧ zNO (zLs vG vA vD vC vU vI vM vW) A9 sn.toInt)))) (fun (u : (Nat → Int32) × (Nat → Int32)) (t : State) => match u with | (vH1, vR1) => gH (dC, dI) kA (SHm q (wP wZ wN wH wB wC wL wK wU wV) PI im PM PT lS lB lE lN) G t.heap ∧ gF (dC, dI) SKm G ([(0, 0), (30, 0), (31, 0), (39, 0), (47, 0), (51, 0), (52, 0)] : List (Nat × Nat)) s.heap t.heap ∧ ct t.heap (q 38) 60 vH1 ∧ ct t.heap (q 46) 30 vR1) A) #[.ref o0, .int p0] s 0 0 A) (F0 m 94 ls []) := by
            intro n1644
            induction n1644 with
            | zero =>
              intro i1368 hn1644 hlo1645 z1369 V1370 V1372 V1388 ⟨hj1392, hj1393⟩ H locs hT hF hS m1371 m1373 m1374 m1375 m1376 m1377 m1378 m1379 m1380 m1381 m1382 m1383 m1384 m1385 m1386 m1387 m1389 m1390 m1391 ls hl
              obtain rfl : 60 = i1368 := by omega
              refine lv_iload_n hx hb dX12_choose_94 rfl (lv_at hl 0 rfl) ?_
              refine lv_iload_n hx hb dX12_choose_95 rfl (lv_at hl 3 rfl) ?_
              refine lv_icmp_ge (tgt := 158) hx hb dX12_choose_96 (by decide) (fun c1646 => ?_) (fun c1646 => (by exfalso; have q9 : ((60 : Nat) : Int) < p0.toInt := ti_nle c1646 rfl (nI_toInt (by omega)); omega))
              have t1647 : p0.toInt ≤ ((60 : Nat) : Int) := ti_le c1646 rfl (nI_toInt (by omega))
              refine lv_iload_n hx hb dX12_choose_158 rfl (lv_at hl 1 rfl) ?_
              exact W.iret (v := z1369) hx hb hr (fun t ht hW => ⟨⟨z1369, (V1370, V1372), rfl, (by exact (by rcases hj1392 with ⟨h8, h7, h6, h5⟩ | ⟨h8, h7, h6, h5⟩; (exact Or.inr ⟨⟨h7, h6⟩, fun h4 => by have := h4.1; omega⟩); exact Or.inl ⟨h7, ⟨by omega, by omega⟩, h6, h5⟩)), by (try dsimp only); rw [ht]; exact ⟨hT, hF, m1371, m1373⟩⟩, hS.F ht⟩) hS.2.2 dX12_choose_159
            | succ n1644 ih1644 =>
              intro i1368 hn1644 hlo1645 z1369 V1370 V1372 V1388 ⟨hj1392, hj1393⟩ H locs hT hF hS m1371 m1373 m1374 m1375 m1376 m1377 m1378 m1379 m1380 m1381 m1382 m1383 m1384 m1385 m1386 m1387 m1389 m1390 m1391 ls hl
              have hlt1647 : i1368 < 60 := by omega
              refine lv_iload_n hx hb dX12_choose_94 rfl (lv_at hl 0 rfl) ?_
              refine lv_iload_n hx hb dX12_choose_95 rfl (lv_at hl 3 rfl) ?_
              refine lv_icmp_ge (tgt := 158) hx hb dX12_choose_96 (by decide) (fun c1648 => ?_) (fun c1648 => ?_)
              · have t1649 : p0.toInt ≤ ((i1368 : Nat) : Int) := ti_le c1648 rfl (nI_toInt (by omega))
                refine lv_iload_n hx hb dX12_choose_158 rfl (lv_at hl 1 rfl) ?_
                exact W.iret (v := z1369) hx hb hr (fun t ht hW => ⟨⟨z1369, (V1370, V1372), rfl, (by exact (by rcases hj1392 with ⟨h8, h7, h6, h5⟩ | ⟨h8, h7, h6, h5⟩; (exact Or.inr ⟨⟨h7, h6⟩, fun h4 => by have := h4.1; omega⟩); exact Or.inl ⟨h7, ⟨by omega, by omega⟩, h6, h5⟩)), by (try dsimp only); rw [ht]; exact ⟨hT, hF, m1371, m1373⟩⟩, hS.F ht⟩) hS.2.2 dX12_choose_159
              · have t1650 : ((i1368 : Nat) : Int) < p0.toInt := ti_nle c1648 rfl (nI_toInt (by omega))
                rcases hj1392 with ⟨ha1652, rfl, rfl, hpo1653⟩ | ⟨hb1656, hzb1657, hfm1658, hno1659⟩
                · refine lv_aload_n hx hb dX12_choose_99 rfl (lv_at hl 2 rfl) ?_
                  have hFc := gA_free hG hA hS
                  refine va_calli (va_runV (As := []) (rest := []) ⟨hx, hb, hml, hown, hts⟩ (s_nextOneZ l dC dI kA adK adV G H q wZ wN wH wB wC wL wK wU wV PI im PM PT lS lB lE lN o0 sn V1388 hT hr_o0 m1390 (by have q8 := ti_all sn; omega) m1389 hgz hgn hgh hgb hgc hgi hgu) (cwV 0 hts (goodIn_app (goodIn_r _ [15, 16, 17, 5] rfl (by decide +kernel)) (goodIn_ca (goodIn_r _ [11, 10, 12, 13, 14] rfl (by decide +kernel)) (bs_in _ _))) rfl rfl rfl (by decide +kernel) ⟨(Nat.le_of_ble_eq_true rfl), (Nat.le_of_ble_eq_true rfl)⟩) ⟨fun a U g mk q => by obtain ⟨q0, q1, qK, qE⟩ := q; exact ⟨q0, q1, va_K.moved (u := U) (U := U.calling g mk a) (Vm.Alike.refl U.vm) qK, EVS.blind g mk a qE⟩, gH_rc hK hT hr_o0 shm_0 rfl, fun U hU hW => ⟨rfl, hU, va_K.moved hW.alike hK, hE.call hS hFc hU hW⟩⟩ rfl rfl hl.1 rfl (lv_room (Nat.le_of_ble_eq_true rfl)) dX12_choose_100 ⟨(Nat.le_of_ble_eq_true rfl), (Nat.le_of_ble_eq_true rfl)⟩) hS (fun q _ h => hFc q h) hFc (fun r1660 u t H locs ht hvm hw1661 hB _ _ hS => ?_)
                  obtain ⟨hT, hF1⟩ := hB
                  rw [ht] at hT hF1
                  have m1662 := m1371.kept (hF1.arr hg1 skm_39 (by decide))
                  have m1663 := m1373.kept (hF1.arr hg2 skm_47 (by decide))
                  have m1664 := m1374.kept (hF1.arr hg3 skm_40 (by decide))
                  have m1665 := m1375.kept (hF1.arr hg4 skm_32 (by decide))
                  have m1666 := m1376.kept (hF1.arr hg5 skm_33 (by decide))
                  have m1667 := m1377.kept (hF1.arr hg6 skm_34 (by decide))
                  have m1668 := m1378.kept (hF1.arr hg7 skm_35 (by decide))
                  have m1669 := m1379.kept (hF1.arr hg8 skm_36 (by decide))
                  have m1670 := m1380.kept (hF1.arr hg9 skm_37 (by decide))
                  have m1671 := m1381.kept (hF1.arr hg10 skm_41 (by decide))
                  have m1672 := m1382.kept (hF1.arr hg13 skm_20 (by decide))
                  have m1673 := m1383.kept (hF1.arr hg14 skm_25 (by decide))
                  have m1674 := m1384.kept (hF1.arr hg15 skm_26 (by decide))
                  have m1675 := m1385.kept (hF1.arr hg16 skm_27 (by decide))
                  have m1676 := m1386.kept (hF1.arr hg17 skm_28 (by decide))
                  have m1677 := m1387.kept (hF1.arr hg18 skm_19 (by decide))
                  have m1678 := m1389.kept (hF1.arr hg19 skm_52 (by decide))
                  have m1679 := (hF1.fld hr_o0 skm_0 (k := 42) (by decide) (by decide)).trans m1390
                  have m1680 := (hF1.fld hr_o0 skm_0 (k := 47) (by decide) (by decide)).trans m1391
                  have hF := hF.more hF1 (by decide)
                  try dsimp only at hw1661
                  obtain ⟨h1681, hf1682⟩ := hw1661
                  refine lv_istore (lv' := [(4, .int r1660), (3, .int (nI i1368)), (2, .int z1369), (0, .ref o0), (1, .int p0)]) hx hb dX12_choose_103 hl (by decide) rfl (fun ls hl => ?_)
                  refine lv_aload_n hx hb dX12_choose_105 rfl (lv_at hl 3 rfl) ?_
                  have hFc := gA_free hG hA hS
                  refine va_calli (va_runV (As := []) (rest := []) ⟨hx, hb, hml, hown, hts⟩ (s_bestFarmZ l dC dI kA adK adV G H q wZ wN wH wB wC wL wK wU wV PI im PM PT lS lB lE lN o0 fm vR hT hr_o0 m1680 (by have q8 := ti_all fm; omega) hnh m1663 hgz hgn hgh hgb hgc hgi hgu) (cwV 0 hts (goodIn_app (goodIn_r _ [38, 39, 40, 5] rfl (by decide +kernel)) (goodIn_ca (goodIn_r _ [18, 19, 20, 21, 22, 23, 24, 25, 26, 27, 28, 29, 30, 31, 2, 3, 4, 5, 32, 33, 34, 35, 36, 37] rfl (by decide +kernel)) (bs_in _ _))) rfl rfl rfl (by decide +kernel) ⟨(Nat.le_of_ble_eq_true rfl), (Nat.le_of_ble_eq_true rfl)⟩) ⟨fun a U g mk q => by obtain ⟨q0, q1, qK, qE⟩ := q; exact ⟨q0, q1, va_K.moved (u := U) (U := U.calling g mk a) (Vm.Alike.refl U.vm) qK, EVS.blind g mk a qE⟩, gH_rc hK hT hr_o0 shm_0 rfl, fun U hU hW => ⟨rfl, hU, va_K.moved hW.alike hK, hE.call hS hFc hU hW⟩⟩ rfl rfl hl.1 rfl (lv_room (Nat.le_of_ble_eq_true rfl)) dX12_choose_106 ⟨(Nat.le_of_ble_eq_true rfl), (Nat.le_of_ble_eq_true rfl)⟩) hS (fun q _ h => hFc q h) hFc (fun r1683 u t H locs ht hvm hw1684 hB _ _ hS => ?_)
                  obtain ⟨hT, hF1⟩ := hB
                  rw [ht] at hT hF1
                  have m1685 := m1662.kept (hF1.arr hg1 skm_39 (by decide))
                  have m1686 := m1663.kept (hF1.arr hg2 skm_47 (by decide))
                  have m1687 := m1664.kept (hF1.arr hg3 skm_40 (by decide))
                  have m1688 := m1665.kept (hF1.arr hg4 skm_32 (by decide))
                  have m1689 := m1666.kept (hF1.arr hg5 skm_33 (by decide))
                  have m1690 := m1667.kept (hF1.arr hg6 skm_34 (by decide))
                  have m1691 := m1668.kept (hF1.arr hg7 skm_35 (by decide))
                  have m1692 := m1669.kept (hF1.arr hg8 skm_36 (by decide))
                  have m1693 := m1670.kept (hF1.arr hg9 skm_37 (by decide))
                  have m1694 := m1671.kept (hF1.arr hg10 skm_41 (by decide))
                  have m1695 := m1672.kept (hF1.arr hg13 skm_20 (by decide))
                  have m1696 := m1673.kept (hF1.arr hg14 skm_25 (by decide))
                  have m1697 := m1674.kept (hF1.arr hg15 skm_26 (by decide))
                  have m1698 := m1675.kept (hF1.arr hg16 skm_27 (by decide))
                  have m1699 := m1676.kept (hF1.arr hg17 skm_28 (by decide))
                  have m1700 := m1677.kept (hF1.arr hg18 skm_19 (by decide))
                  have m1701 := m1678.kept (hF1.arr hg19 skm_52 (by decide))
                  have m1702 := (hF1.fld hr_o0 skm_0 (k := 42) (by decide) (by decide)).trans m1679
                  have m1703 := (hF1.fld hr_o0 skm_0 (k := 47) (by decide) (by decide)).trans m1680
                  have hF := hF.more hF1 (by decide)
                  try dsimp only at hw1684
                  obtain ⟨h1704, hf1705⟩ := hw1684
                  refine lv_istore (lv' := [(5, .int r1683), (4, .int r1660), (3, .int (nI i1368)), (2, .int z1369), (0, .ref o0), (1, .int p0)]) hx hb dX12_choose_109 hl (by decide) rfl (fun ls hl => ?_)
                  refine lv_iload hx hb dX12_choose_111 (lv_at hl 1 rfl) ?_
                  refine lv_if_lt (tgt := 121) hx hb dX12_choose_113 (by decide) (fun c1706 => ?_) (fun c1706 => ?_)
                  · have t1707 : r1660.toInt < 0 := ti_lt c1706 rfl (by decide)
                    refine lv_iload_n hx hb dX12_choose_121 rfl (lv_at hl 3 rfl) ?_
                    exact W.iret (v := z1369) hx hb hr (fun t ht hW => ⟨⟨z1369, (vH, vR), rfl, (by exact (Or.inr ⟨⟨rfl, rfl⟩, fun h8 => by have := h8.2.1; have n9 := h8.2.2; rcases hf1682 with ⟨h7, h6⟩ | ⟨h7, h6, h5⟩; (exact (hpo1653.no (by have := tn_of (show sn.toInt = sn.toInt from rfl) (by omega); omega) h6) n9); omega⟩)), by (try dsimp only); rw [ht]; exact ⟨hT, hF, m1685, m1686⟩⟩, hS.F ht⟩) hS.2.2 dX12_choose_122
                  · have t1708 : 0 ≤ r1660.toInt := ti_nlt c1706 rfl (by decide)
                    refine lv_iload hx hb dX12_choose_116 (lv_at hl 0 rfl) ?_
                    refine lv_if_ge (tgt := 123) hx hb dX12_choose_118 (by decide) (fun c1709 => ?_) (fun c1709 => ?_)
                    · have t1710 : 0 ≤ r1683.toInt := ti_le c1709 (by decide) rfl
                      refine lv_aload_n hx hb dX12_choose_123 rfl (lv_at hl 4 rfl) ?_
                      refine tw_get hx hb hts bF_X12 hown hK hT hr_o0 shm_0 rfl 51 (by decide) (ht_at hts 11 rfl) (fun _ h9 => h9) dX12_choose_124 (fun v9 m1711 h9 => ?_)
                      obtain ⟨rfl, hg1712⟩ := h9 _ rfl
                      refine lv_iload hx hb dX12_choose_127 (lv_at hl 1 rfl) ?_
                      refine lv_iconst (v := 0) hx hb dX12_choose_129 (by decide) ?_
                      refine tw_zast (i := r1660) (x := 0) hx hb hK hT hG hS hg19 shm_52 rfl (vin_t (a := r1660.toInt) rfl (by omega) (by omega)) (gi_z (rg_t (a := 0) (by decide) (by first | decide | omega) (by first | decide | omega)) (by decide) (by decide)) dX12_choose_130 (fun H locs hT oq m1713 oi hS => ?_)
                      have hF := hF.ast hg19 skm_52 oq (by decide)
                      have m1714 := m1685.kept (oq _ (gne hg1 hg19 (by decide)))
                      have m1715 := m1686.kept (oq _ (gne hg2 hg19 (by decide)))
                      have m1716 := m1687.kept (oq _ (gne hg3 hg19 (by decide)))
                      have m1717 := m1688.kept (oq _ (gne hg4 hg19 (by decide)))
                      have m1718 := m1689.kept (oq _ (gne hg5 hg19 (by decide)))
                      have m1719 := m1690.kept (oq _ (gne hg6 hg19 (by decide)))
                      have m1720 := m1691.kept (oq _ (gne hg7 hg19 (by decide)))
                      have m1721 := m1692.kept (oq _ (gne hg8 hg19 (by decide)))
                      have m1722 := m1693.kept (oq _ (gne hg9 hg19 (by decide)))
                      have m1723 := m1694.kept (oq _ (gne hg10 hg19 (by decide)))
                      have m1724 := m1695.kept (oq _ (gne hg13 hg19 (by decide)))
                      have m1725 := m1696.kept (oq _ (gne hg14 hg19 (by decide)))
                      have m1726 := m1697.kept (oq _ (gne hg15 hg19 (by decide)))
                      have m1727 := m1698.kept (oq _ (gne hg16 hg19 (by decide)))
                      have m1728 := m1699.kept (oq _ (gne hg17 hg19 (by decide)))
                      have m1729 := m1700.kept (oq _ (gne hg18 hg19 (by decide)))
                      have m1730 := m1701.put (show el H (q 51) _ = some (.int 0) from m1713) oi
                      have m1731 := (el_kept (oq _ (gne hr_o0 hg19 (by decide)))).trans m1702
                      have m1732 := (el_kept (oq _ (gne hr_o0 hg19 (by decide)))).trans m1703
                      refine lv_aload_n hx hb dX12_choose_131 rfl (lv_at hl 4 rfl) ?_
                      refine tw_get hx hb hts bF_X12 hown hK hT hr_o0 shm_0 rfl 38 (by decide) (ht_at hts 40 rfl) (fun _ h9 => h9) dX12_choose_132 (fun v9 m1733 h9 => ?_)
                      obtain ⟨rfl, hg1734⟩ := h9 _ rfl
                      refine lv_iload hx hb dX12_choose_135 (lv_at hl 1 rfl) ?_
                      refine lv_iload hx hb dX12_choose_137 (lv_at hl 0 rfl) ?_
                      refine tw_iast (i := r1660) (x := r1683) hx hb hK hT hG hS hg1 shm_39 rfl (vin_t (a := r1660.toInt) rfl (by omega) (by omega)) (gi_of (show r1683.toInt = r1683.toInt from rfl) (by omega) (by omega)) dX12_choose_139 (fun H locs hT oq m1735 oi hS => ?_)
                      have hF := hF.ast hg1 skm_39 oq (by decide)
                      have m1736 := m1714.put m1735 oi
                      have m1737 := m1715.kept (oq _ (gne hg2 hg1 (by decide)))
                      have m1738 := m1716.kept (oq _ (gne hg3 hg1 (by decide)))
                      have m1739 := m1717.kept (oq _ (gne hg4 hg1 (by decide)))
                      have m1740 := m1718.kept (oq _ (gne hg5 hg1 (by decide)))
                      have m1741 := m1719.kept (oq _ (gne hg6 hg1 (by decide)))
                      have m1742 := m1720.kept (oq _ (gne hg7 hg1 (by decide)))
                      have m1743 := m1721.kept (oq _ (gne hg8 hg1 (by decide)))
                      have m1744 := m1722.kept (oq _ (gne hg9 hg1 (by decide)))
                      have m1745 := m1723.kept (oq _ (gne hg10 hg1 (by decide)))
                      have m1746 := m1724.kept (oq _ (gne hg13 hg1 (by decide)))
                      have m1747 := m1725.kept (oq _ (gne hg14 hg1 (by decide)))
                      have m1748 := m1726.kept (oq _ (gne hg15 hg1 (by decide)))
                      have m1749 := m1727.kept (oq _ (gne hg16 hg1 (by decide)))
                      have m1750 := m1728.kept (oq _ (gne hg17 hg1 (by decide)))
                      have m1751 := m1729.kept (oq _ (gne hg18 hg1 (by decide)))
                      have m1752 := m1730.kept (oq _ (gne hg19 hg1 (by decide)))
                      have m1753 := (el_kept (oq _ (gne hr_o0 hg1 (by decide)))).trans m1731
                      have m1754 := (el_kept (oq _ (gne hr_o0 hg1 (by decide)))).trans m1732
                      refine lv_aload_n hx hb dX12_choose_140 rfl (lv_at hl 4 rfl) ?_
                      refine tw_get hx hb hts bF_X12 hown hK hT hr_o0 shm_0 rfl 46 (by decide) (ht_at hts 19 rfl) (fun _ h9 => h9) dX12_choose_141 (fun v9 m1755 h9 => ?_)
                      obtain ⟨rfl, hg1756⟩ := h9 _ rfl
                      refine lv_iload hx hb dX12_choose_144 (lv_at hl 0 rfl) ?_
                      refine lv_iload hx hb dX12_choose_146 (lv_at hl 1 rfl) ?_
                      refine tw_iast (i := r1683) (x := r1660) hx hb hK hT hG hS hg2 shm_47 rfl (vin_t (a := r1683.toInt) rfl (by omega) (by omega)) (gi_of (show r1660.toInt = r1660.toInt from rfl) (by omega) (by omega)) dX12_choose_148 (fun H locs hT oq m1757 oi hS => ?_)
                      have hF := hF.ast hg2 skm_47 oq (by decide)
                      have m1758 := m1736.kept (oq _ (gne hg1 hg2 (by decide)))
                      have m1759 := m1737.put m1757 oi
                      have m1760 := m1738.kept (oq _ (gne hg3 hg2 (by decide)))
                      have m1761 := m1739.kept (oq _ (gne hg4 hg2 (by decide)))
                      have m1762 := m1740.kept (oq _ (gne hg5 hg2 (by decide)))
                      have m1763 := m1741.kept (oq _ (gne hg6 hg2 (by decide)))
                      have m1764 := m1742.kept (oq _ (gne hg7 hg2 (by decide)))
                      have m1765 := m1743.kept (oq _ (gne hg8 hg2 (by decide)))
                      have m1766 := m1744.kept (oq _ (gne hg9 hg2 (by decide)))
                      have m1767 := m1745.kept (oq _ (gne hg10 hg2 (by decide)))
                      have m1768 := m1746.kept (oq _ (gne hg13 hg2 (by decide)))
                      have m1769 := m1747.kept (oq _ (gne hg14 hg2 (by decide)))
                      have m1770 := m1748.kept (oq _ (gne hg15 hg2 (by decide)))
                      have m1771 := m1749.kept (oq _ (gne hg16 hg2 (by decide)))
                      have m1772 := m1750.kept (oq _ (gne hg17 hg2 (by decide)))
                      have m1773 := m1751.kept (oq _ (gne hg18 hg2 (by decide)))
                      have m1774 := m1752.kept (oq _ (gne hg19 hg2 (by decide)))
                      have m1775 := (el_kept (oq _ (gne hr_o0 hg2 (by decide)))).trans m1753
                      have m1776 := (el_kept (oq _ (gne hr_o0 hg2 (by decide)))).trans m1754
                      have m1777 := (el_kept (oq _ (gne hg1 hg2 (by decide)))).trans m1735
                      obtain ⟨x1778, ex1778⟩ : ∃ y : Int32, y = z1369 + 1 := ⟨_, rfl⟩
                      refine lv_iinc (v := x1778) (lv' := [(2, .int x1778), (5, .int r1683), (4, .int r1660), (3, .int (nI i1368)), (0, .ref o0), (1, .int p0)]) hx hb dX12_choose_149 hl (k := 3) rfl (by first | (rw [ex1778]; done) | (rw [ex1778]; rfl)) (by decide) rfl (fun ls hl => ?_)
                      refine lv_iinc (v := nI (i1368 + 1)) (lv' := [(3, .int (nI (i1368 + 1))), (2, .int x1778), (5, .int r1683), (4, .int r1660), (0, .ref o0), (1, .int p0)]) hx hb dX12_choose_152 hl (k := 3) rfl (nI_add i1368 1) (by decide) rfl (fun ls hl => ?_)
                      refine lv_goto (tgt := 94) hx hb dX12_choose_155 (by decide) ?_
                      exact ih1644 (i1368 + 1) (by omega) (by omega) x1778 (cu vH r1660.toNatClampNeg r1683) (cu vR r1683.toNatClampNeg r1660) (cu V1388 r1660.toNatClampNeg (0 : Int32)) ⟨(Or.inr ⟨by omega, zHb_at (by have := tn_of (show r1660.toInt = r1660.toInt from rfl) (by omega); omega) (by have := (show r1683.toInt = r1683.toInt from rfl); omega), by omega, hpo1653.yes (by have := tn_of (show sn.toInt = sn.toInt from rfl) (by omega); omega) ((hf1682.resolve_left (fun h8 => by have := h8.1; omega)).2.2)⟩), (by omega)⟩ _ _ hT hF hS m1758 m1759 m1760 m1761 m1762 m1763 m1764 m1765 m1766 m1767 m1768 m1769 m1770 m1771 m1772 m1773 m1774 m1775 m1776 ls (lv_sub hl [0, 1, 4, 5] rfl)
                    · have t1779 : r1683.toInt < 0 := ti_nle c1709 (by decide) rfl
                      refine lv_iload_n hx hb dX12_choose_121 rfl (lv_at hl 3 rfl) ?_
                      exact W.iret (v := z1369) hx hb hr (fun t ht hW => ⟨⟨z1369, (vH, vR), rfl, (by exact (Or.inr ⟨⟨rfl, rfl⟩, fun h8 => by have := h8.2.1; have n9 := h8.2.2; rcases hf1682 with ⟨h7, h6⟩ | ⟨h7, h6, h5⟩; (exact (hpo1653.no (by have := tn_of (show sn.toInt = sn.toInt from rfl) (by omega); omega) h6) n9); omega⟩)), by (try dsimp only); rw [ht]; exact ⟨hT, hF, m1685, m1686⟩⟩, hS.F ht⟩) hS.2.2 dX12_choose_122
                · refine lv_aload_n hx hb dX12_choose_99 rfl (lv_at hl 2 rfl) ?_
                  have hFc := gA_free hG hA hS
                  refine va_calli (va_runV (As := []) (rest := []) ⟨hx, hb, hml, hown, hts⟩ (s_nextOne l dC dI kA adK adV G H q wZ wN wH wB wC wL wK wU wV PI im PM PT lS lB lE lN o0 hT hr_o0 hgz hgn hgh hgb hgc hgi hgu) (cwV 0 hts (goodIn_app (goodIn_r _ [15, 16, 17, 5] rfl (by decide +kernel)) (goodIn_ca (goodIn_r _ [11, 10, 12, 13, 14] rfl (by decide +kernel)) (bs_in _ _))) rfl rfl rfl (by decide +kernel) ⟨(Nat.le_of_ble_eq_true rfl), (Nat.le_of_ble_eq_true rfl)⟩) ⟨fun a U g mk q => by obtain ⟨q0, q1, qK, qE⟩ := q; exact ⟨q0, q1, va_K.moved (u := U) (U := U.calling g mk a) (Vm.Alike.refl U.vm) qK, EVS.blind g mk a qE⟩, gH_rc hK hT hr_o0 shm_0 rfl, fun U hU hW => ⟨rfl, hU, va_K.moved hW.alike hK, hE.call hS hFc hU hW⟩⟩ rfl rfl hl.1 rfl (lv_room (Nat.le_of_ble_eq_true rfl)) dX12_choose_100 ⟨(Nat.le_of_ble_eq_true rfl), (Nat.le_of_ble_eq_true rfl)⟩) hS (fun q _ h => hFc q h) hFc (fun r1780 u t H locs ht hvm hw1781 hB _ _ hS => ?_)
                  obtain ⟨hT, hF1⟩ := hB
                  rw [ht] at hT hF1
                  have m1782 := m1371.kept (hF1.arr hg1 skm_39 (by decide))
                  have m1783 := m1373.kept (hF1.arr hg2 skm_47 (by decide))
                  have m1784 := m1374.kept (hF1.arr hg3 skm_40 (by decide))
                  have m1785 := m1375.kept (hF1.arr hg4 skm_32 (by decide))
                  have m1786 := m1376.kept (hF1.arr hg5 skm_33 (by decide))
                  have m1787 := m1377.kept (hF1.arr hg6 skm_34 (by decide))
                  have m1788 := m1378.kept (hF1.arr hg7 skm_35 (by decide))
                  have m1789 := m1379.kept (hF1.arr hg8 skm_36 (by decide))
                  have m1790 := m1380.kept (hF1.arr hg9 skm_37 (by decide))
                  have m1791 := m1381.kept (hF1.arr hg10 skm_41 (by decide))
                  have m1792 := m1382.kept (hF1.arr hg13 skm_20 (by decide))
                  have m1793 := m1383.kept (hF1.arr hg14 skm_25 (by decide))
                  have m1794 := m1384.kept (hF1.arr hg15 skm_26 (by decide))
                  have m1795 := m1385.kept (hF1.arr hg16 skm_27 (by decide))
                  have m1796 := m1386.kept (hF1.arr hg17 skm_28 (by decide))
                  have m1797 := m1387.kept (hF1.arr hg18 skm_19 (by decide))
                  have m1798 := m1389.kept (hF1.arr hg19 skm_52 (by decide))
                  have m1799 := (hF1.fld hr_o0 skm_0 (k := 42) (by decide) (by decide)).trans m1390
                  have m1800 := (hF1.fld hr_o0 skm_0 (k := 47) (by decide) (by decide)).trans m1391
                  have hF := hF.more hF1 (by decide)
                  try dsimp only at hw1781
                  have h1801 := hw1781
                  refine lv_istore (lv' := [(4, .int r1780), (3, .int (nI i1368)), (2, .int z1369), (0, .ref o0), (1, .int p0)]) hx hb dX12_choose_103 hl (by decide) rfl (fun ls hl => ?_)
                  refine lv_aload_n hx hb dX12_choose_105 rfl (lv_at hl 3 rfl) ?_
                  have hFc := gA_free hG hA hS
                  refine va_calli (va_runV (As := []) (rest := []) ⟨hx, hb, hml, hown, hts⟩ (s_bestFarm l dC dI kA adK adV G H q wZ wN wH wB wC wL wK wU wV PI im PM PT lS lB lE lN o0 hT hr_o0 hgz hgn hgh hgb hgc hgi hgu) (cwV 0 hts (goodIn_app (goodIn_r _ [38, 39, 40, 5] rfl (by decide +kernel)) (goodIn_ca (goodIn_r _ [18, 19, 20, 21, 22, 23, 24, 25, 26, 27, 28, 29, 30, 31, 2, 3, 4, 5, 32, 33, 34, 35, 36, 37] rfl (by decide +kernel)) (bs_in _ _))) rfl rfl rfl (by decide +kernel) ⟨(Nat.le_of_ble_eq_true rfl), (Nat.le_of_ble_eq_true rfl)⟩) ⟨fun a U g mk q => by obtain ⟨q0, q1, qK, qE⟩ := q; exact ⟨q0, q1, va_K.moved (u := U) (U := U.calling g mk a) (Vm.Alike.refl U.vm) qK, EVS.blind g mk a qE⟩, gH_rc hK hT hr_o0 shm_0 rfl, fun U hU hW => ⟨rfl, hU, va_K.moved hW.alike hK, hE.call hS hFc hU hW⟩⟩ rfl rfl hl.1 rfl (lv_room (Nat.le_of_ble_eq_true rfl)) dX12_choose_106 ⟨(Nat.le_of_ble_eq_true rfl), (Nat.le_of_ble_eq_true rfl)⟩) hS (fun q _ h => hFc q h) hFc (fun r1802 u t H locs ht hvm hw1803 hB _ _ hS => ?_)
                  obtain ⟨hT, hF1⟩ := hB
                  rw [ht] at hT hF1
                  have m1804 := m1782.kept (hF1.arr hg1 skm_39 (by decide))
                  have m1805 := m1783.kept (hF1.arr hg2 skm_47 (by decide))
                  have m1806 := m1784.kept (hF1.arr hg3 skm_40 (by decide))
                  have m1807 := m1785.kept (hF1.arr hg4 skm_32 (by decide))
                  have m1808 := m1786.kept (hF1.arr hg5 skm_33 (by decide))
                  have m1809 := m1787.kept (hF1.arr hg6 skm_34 (by decide))
                  have m1810 := m1788.kept (hF1.arr hg7 skm_35 (by decide))
                  have m1811 := m1789.kept (hF1.arr hg8 skm_36 (by decide))
                  have m1812 := m1790.kept (hF1.arr hg9 skm_37 (by decide))
                  have m1813 := m1791.kept (hF1.arr hg10 skm_41 (by decide))
                  have m1814 := m1792.kept (hF1.arr hg13 skm_20 (by decide))
                  have m1815 := m1793.kept (hF1.arr hg14 skm_25 (by decide))
                  have m1816 := m1794.kept (hF1.arr hg15 skm_26 (by decide))
                  have m1817 := m1795.kept (hF1.arr hg16 skm_27 (by decide))
                  have m1818 := m1796.kept (hF1.arr hg17 skm_28 (by decide))
                  have m1819 := m1797.kept (hF1.arr hg18 skm_19 (by decide))
                  have m1820 := m1798.kept (hF1.arr hg19 skm_52 (by decide))
                  have m1821 := (hF1.fld hr_o0 skm_0 (k := 42) (by decide) (by decide)).trans m1799
                  have m1822 := (hF1.fld hr_o0 skm_0 (k := 47) (by decide) (by decide)).trans m1800
                  have hF := hF.more hF1 (by decide)
                  try dsimp only at hw1803
                  have h1823 := hw1803
                  refine lv_istore (lv' := [(5, .int r1802), (4, .int r1780), (3, .int (nI i1368)), (2, .int z1369), (0, .ref o0), (1, .int p0)]) hx hb dX12_choose_109 hl (by decide) rfl (fun ls hl => ?_)
                  refine lv_iload hx hb dX12_choose_111 (lv_at hl 1 rfl) ?_
                  refine lv_if_lt (tgt := 121) hx hb dX12_choose_113 (by decide) (fun c1824 => ?_) (fun c1824 => ?_)
                  · have t1825 : r1780.toInt < 0 := ti_lt c1824 rfl (by decide)
                    refine lv_iload_n hx hb dX12_choose_121 rfl (lv_at hl 3 rfl) ?_
                    exact W.iret (v := z1369) hx hb hr (fun t ht hW => ⟨⟨z1369, (V1370, V1372), rfl, (by exact (Or.inl ⟨hzb1657, ⟨by omega, by omega⟩, hfm1658, hno1659⟩)), by (try dsimp only); rw [ht]; exact ⟨hT, hF, m1804, m1805⟩⟩, hS.F ht⟩) hS.2.2 dX12_choose_122
                  · have t1826 : 0 ≤ r1780.toInt := ti_nlt c1824 rfl (by decide)
                    refine lv_iload hx hb dX12_choose_116 (lv_at hl 0 rfl) ?_
                    refine lv_if_ge (tgt := 123) hx hb dX12_choose_118 (by decide) (fun c1827 => ?_) (fun c1827 => ?_)
                    · have t1828 : 0 ≤ r1802.toInt := ti_le c1827 (by decide) rfl
                      refine lv_aload_n hx hb dX12_choose_123 rfl (lv_at hl 4 rfl) ?_
                      refine tw_get hx hb hts bF_X12 hown hK hT hr_o0 shm_0 rfl 51 (by decide) (ht_at hts 11 rfl) (fun _ h9 => h9) dX12_choose_124 (fun v9 m1829 h9 => ?_)
                      obtain ⟨rfl, hg1830⟩ := h9 _ rfl
                      refine lv_iload hx hb dX12_choose_127 (lv_at hl 1 rfl) ?_
                      refine lv_iconst (v := 0) hx hb dX12_choose_129 (by decide) ?_
                      refine tw_zast (i := r1780) (x := 0) hx hb hK hT hG hS hg19 shm_52 rfl (vin_t (a := r1780.toInt) rfl (by omega) (by omega)) (gi_z (rg_t (a := 0) (by decide) (by first | decide | omega) (by first | decide | omega)) (by decide) (by decide)) dX12_choose_130 (fun H locs hT oq m1831 oi hS => ?_)
                      have hF := hF.ast hg19 skm_52 oq (by decide)
                      have m1832 := m1804.kept (oq _ (gne hg1 hg19 (by decide)))
                      have m1833 := m1805.kept (oq _ (gne hg2 hg19 (by decide)))
                      have m1834 := m1806.kept (oq _ (gne hg3 hg19 (by decide)))
                      have m1835 := m1807.kept (oq _ (gne hg4 hg19 (by decide)))
                      have m1836 := m1808.kept (oq _ (gne hg5 hg19 (by decide)))
                      have m1837 := m1809.kept (oq _ (gne hg6 hg19 (by decide)))
                      have m1838 := m1810.kept (oq _ (gne hg7 hg19 (by decide)))
                      have m1839 := m1811.kept (oq _ (gne hg8 hg19 (by decide)))
                      have m1840 := m1812.kept (oq _ (gne hg9 hg19 (by decide)))
                      have m1841 := m1813.kept (oq _ (gne hg10 hg19 (by decide)))
                      have m1842 := m1814.kept (oq _ (gne hg13 hg19 (by decide)))
                      have m1843 := m1815.kept (oq _ (gne hg14 hg19 (by decide)))
                      have m1844 := m1816.kept (oq _ (gne hg15 hg19 (by decide)))
                      have m1845 := m1817.kept (oq _ (gne hg16 hg19 (by decide)))
                      have m1846 := m1818.kept (oq _ (gne hg17 hg19 (by decide)))
                      have m1847 := m1819.kept (oq _ (gne hg18 hg19 (by decide)))
                      have m1848 := m1820.put (show el H (q 51) _ = some (.int 0) from m1831) oi
                      have m1849 := (el_kept (oq _ (gne hr_o0 hg19 (by decide)))).trans m1821
                      have m1850 := (el_kept (oq _ (gne hr_o0 hg19 (by decide)))).trans m1822
                      refine lv_aload_n hx hb dX12_choose_131 rfl (lv_at hl 4 rfl) ?_
                      refine tw_get hx hb hts bF_X12 hown hK hT hr_o0 shm_0 rfl 38 (by decide) (ht_at hts 40 rfl) (fun _ h9 => h9) dX12_choose_132 (fun v9 m1851 h9 => ?_)
                      obtain ⟨rfl, hg1852⟩ := h9 _ rfl
                      refine lv_iload hx hb dX12_choose_135 (lv_at hl 1 rfl) ?_
                      refine lv_iload hx hb dX12_choose_137 (lv_at hl 0 rfl) ?_
                      refine tw_iast (i := r1780) (x := r1802) hx hb hK hT hG hS hg1 shm_39 rfl (vin_t (a := r1780.toInt) rfl (by omega) (by omega)) (gi_of (show r1802.toInt = r1802.toInt from rfl) (by omega) (by omega)) dX12_choose_139 (fun H locs hT oq m1853 oi hS => ?_)
                      have hF := hF.ast hg1 skm_39 oq (by decide)
                      have m1854 := m1832.put m1853 oi
                      have m1855 := m1833.kept (oq _ (gne hg2 hg1 (by decide)))
                      have m1856 := m1834.kept (oq _ (gne hg3 hg1 (by decide)))
                      have m1857 := m1835.kept (oq _ (gne hg4 hg1 (by decide)))
                      have m1858 := m1836.kept (oq _ (gne hg5 hg1 (by decide)))
                      have m1859 := m1837.kept (oq _ (gne hg6 hg1 (by decide)))
                      have m1860 := m1838.kept (oq _ (gne hg7 hg1 (by decide)))
                      have m1861 := m1839.kept (oq _ (gne hg8 hg1 (by decide)))
                      have m1862 := m1840.kept (oq _ (gne hg9 hg1 (by decide)))
                      have m1863 := m1841.kept (oq _ (gne hg10 hg1 (by decide)))
                      have m1864 := m1842.kept (oq _ (gne hg13 hg1 (by decide)))
                      have m1865 := m1843.kept (oq _ (gne hg14 hg1 (by decide)))
                      have m1866 := m1844.kept (oq _ (gne hg15 hg1 (by decide)))
                      have m1867 := m1845.kept (oq _ (gne hg16 hg1 (by decide)))
                      have m1868 := m1846.kept (oq _ (gne hg17 hg1 (by decide)))
                      have m1869 := m1847.kept (oq _ (gne hg18 hg1 (by decide)))
                      have m1870 := m1848.kept (oq _ (gne hg19 hg1 (by decide)))
                      have m1871 := (el_kept (oq _ (gne hr_o0 hg1 (by decide)))).trans m1849
                      have m1872 := (el_kept (oq _ (gne hr_o0 hg1 (by decide)))).trans m1850
                      refine lv_aload_n hx hb dX12_choose_140 rfl (lv_at hl 4 rfl) ?_
                      refine tw_get hx hb hts bF_X12 hown hK hT hr_o0 shm_0 rfl 46 (by decide) (ht_at hts 19 rfl) (fun _ h9 => h9) dX12_choose_141 (fun v9 m1873 h9 => ?_)
                      obtain ⟨rfl, hg1874⟩ := h9 _ rfl
                      refine lv_iload hx hb dX12_choose_144 (lv_at hl 0 rfl) ?_
                      refine lv_iload hx hb dX12_choose_146 (lv_at hl 1 rfl) ?_
                      refine tw_iast (i := r1802) (x := r1780) hx hb hK hT hG hS hg2 shm_47 rfl (vin_t (a := r1802.toInt) rfl (by omega) (by omega)) (gi_of (show r1780.toInt = r1780.toInt from rfl) (by omega) (by omega)) dX12_choose_148 (fun H locs hT oq m1875 oi hS => ?_)
                      have hF := hF.ast hg2 skm_47 oq (by decide)
                      have m1876 := m1854.kept (oq _ (gne hg1 hg2 (by decide)))
                      have m1877 := m1855.put m1875 oi
                      have m1878 := m1856.kept (oq _ (gne hg3 hg2 (by decide)))
                      have m1879 := m1857.kept (oq _ (gne hg4 hg2 (by decide)))
                      have m1880 := m1858.kept (oq _ (gne hg5 hg2 (by decide)))
                      have m1881 := m1859.kept (oq _ (gne hg6 hg2 (by decide)))
                      have m1882 := m1860.kept (oq _ (gne hg7 hg2 (by decide)))
                      have m1883 := m1861.kept (oq _ (gne hg8 hg2 (by decide)))
                      have m1884 := m1862.kept (oq _ (gne hg9 hg2 (by decide)))
                      have m1885 := m1863.kept (oq _ (gne hg10 hg2 (by decide)))
                      have m1886 := m1864.kept (oq _ (gne hg13 hg2 (by decide)))
                      have m1887 := m1865.kept (oq _ (gne hg14 hg2 (by decide)))
                      have m1888 := m1866.kept (oq _ (gne hg15 hg2 (by decide)))
                      have m1889 := m1867.kept (oq _ (gne hg16 hg2 (by decide)))
                      have m1890 := m1868.kept (oq _ (gne hg17 hg2 (by decide)))
                      have m1891 := m1869.kept (oq _ (gne hg18 hg2 (by decide)))
                      have m1892 := m1870.kept (oq _ (gne hg19 hg2 (by decide)))
                      have m1893 := (el_kept (oq _ (gne hr_o0 hg2 (by decide)))).trans m1871
                      have m1894 := (el_kept (oq _ (gne hr_o0 hg2 (by decide)))).trans m1872
                      have m1895 := (el_kept (oq _ (gne hg1 hg2 (by decide)))).trans m1853
                      obtain ⟨x1896, ex1896⟩ : ∃ y : Int32, y = z1369 + 1 := ⟨_, rfl⟩
                      refine lv_iinc (v := x1896) (lv' := [(2, .int x1896), (5, .int r1802), (4, .int r1780), (3, .int (nI i1368)), (0, .ref o0), (1, .int p0)]) hx hb dX12_choose_149 hl (k := 3) rfl (by first | (rw [ex1896]; done) | (rw [ex1896]; rfl)) (by decide) rfl (fun ls hl => ?_)
                      refine lv_iinc (v := nI (i1368 + 1)) (lv' := [(3, .int (nI (i1368 + 1))), (2, .int x1896), (5, .int r1802), (4, .int r1780), (0, .ref o0), (1, .int p0)]) hx hb dX12_choose_152 hl (k := 3) rfl (nI_add i1368 1) (by decide) rfl (fun ls hl => ?_)
                      refine lv_goto (tgt := 94) hx hb dX12_choose_155 (by decide) ?_
                      exact ih1644 (i1368 + 1) (by omega) (by omega) x1896 (cu V1370 r1780.toNatClampNeg r1802) (cu V1372 r1802.toNatClampNeg r1780) (cu V1388 r1780.toNatClampNeg (0 : Int32)) ⟨(Or.inr ⟨by omega, zHb_cu hzb1657 (by have := (show r1802.toInt = r1802.toInt from rfl); omega), hfm1658, hno1659⟩), (by omega)⟩ _ _ hT hF hS m1876 m1877 m1878 m1879 m1880 m1881 m1882 m1883 m1884 m1885 m1886 m1887 m1888 m1889 m1890 m1891 m1892 m1893 m1894 ls (lv_sub hl [0, 1, 4, 5] rfl)
                    · have t1897 : r1802.toInt < 0 := ti_nle c1827 (by decide) rfl
                      refine lv_iload_n hx hb dX12_choose_121 rfl (lv_at hl 3 rfl) ?_
                      exact W.iret (v := z1369) hx hb hr (fun t ht hW => ⟨⟨z1369, (V1370, V1372), rfl, (by exact (Or.inl ⟨hzb1657, ⟨by omega, by omega⟩, hfm1658, hno1659⟩)), by (try dsimp only); rw [ht]; exact ⟨hT, hF, m1804, m1805⟩⟩, hS.F ht⟩) hS.2.2 dX12_choose_122
          exact key1644 (60 - 0) 0 (by omega) (Nat.le_refl _) 0 vH vR V118 ⟨(Or.inl ⟨by omega, rfl, rfl, by rw [show sn.toNatClampNeg = i101 from by have := tn_of (show sn.toInt = sn.toInt from rfl) (by omega); omega]; exact hj122⟩), (by omega)⟩ _ _ hT hF hS m102 m103 m104 m105 m106 m107 m108 m109 m110 m111 m112 m113 m114 m115 m116 m117 m119 m120 m121 ls (lv_sub hl [0, 1, 2, 3] rfl)
        · have t1898 : ((i101 : Nat) : Int) < sn.toInt := ti_nle c1366 rfl (nI_toInt (by omega))
          refine lv_aload_n hx hb dX12_choose_40 rfl (lv_at hl 1 rfl) ?_
          refine tw_get hx hb hts bF_X12 hown hK hT hr_o0 shm_0 rfl 51 (by decide) (ht_at hts 11 rfl) (fun _ h9 => h9) dX12_choose_41 (fun v9 m1899 h9 => ?_)
          obtain ⟨rfl, hg1900⟩ := h9 _ rfl
          refine lv_iload_n hx hb dX12_choose_44 rfl (lv_at hl 0 rfl) ?_
          refine lv_aload_n hx hb dX12_choose_45 rfl (lv_at hl 1 rfl) ?_
          refine tw_get hx hb hts bF_X12 hown hK hT hr_o0 shm_0 rfl 38 (by decide) (ht_at hts 40 rfl) (fun _ h9 => h9) dX12_choose_46 (fun v9 m1901 h9 => ?_)
          obtain ⟨rfl, hg1902⟩ := h9 _ rfl
          refine lv_iload_n hx hb dX12_choose_49 rfl (lv_at hl 0 rfl) ?_
          refine tw_iald (i := (nI i101)) hx hb hK hT hg1 shm_39 rfl (vp_in_nI (by omega) (by decide)) dX12_choose_50 (fun v9 m1903 h9 => ?_)
          obtain ⟨x1904, rfl, gx1904, kx1904⟩ := h9
          have cx1904 := m102.at m1903 (by have q9 := tn_of (show (nI i101).toInt = ((i101 : Nat) : Int) from (nI_toInt (by omega))) (by omega); omega)
          have t1905 : x1904.toInt < 0 := (by rw [cx1904, tn_nI (by omega)]; exact hall i101 (by omega))
          refine lv_if_ge (tgt := 70) hx hb dX12_choose_51 (by decide) (fun c1906 => (by exfalso; have q9 : 0 ≤ x1904.toInt := ti_le c1906 (by decide) rfl; omega)) (fun c1906 => ?_)
          have t1907 : x1904.toInt < 0 := ti_nle c1906 (by decide) rfl
          refine lv_aload_n hx hb dX12_choose_54 rfl (lv_at hl 1 rfl) ?_
          refine lv_iload_n hx hb dX12_choose_55 rfl (lv_at hl 0 rfl) ?_
          refine lv_bipush (v := 6) hx hb dX12_choose_56 (by decide) ?_
          obtain ⟨V1908, m1909⟩ := ctl_of hT hg11 shm_31
          obtain ⟨V1910, m1911⟩ := ctl_of hT hg12 shm_30
          have hFc := gA_free hG hA hS
          refine va_calll (va_runV (As := [.int (nI i101), .int 6]) (rest := [.int (nI i101), .ref (q 51)]) ⟨hx, hb, hml, hown, hts⟩ (s_sumOut l dC dI kA adK adV G H q wZ wN wH wB wC wL wK wU wV PI im PM PT lS lB lE lN o0 (nI i101) vH vG vA vD vC vU vI vM vW V1908 V1910 vO vB vX vS vN vL A9 hT hr_o0 (rg_t (a := ((i101 : Nat) : Int)) (nI_toInt (by omega)) (by omega) (by omega)) (hall _ (by have := tn_of (show (nI i101).toInt = ((i101 : Nat) : Int) from (nI_toInt (by omega))) (by omega); omega)) hfo hzk m102 m104 m105 m106 m107 m108 m109 m110 m111 m1909 m1911 m112 m113 m114 m115 m116 m117 hgz hgn hgh hgb hgc hgi hgu) (cwV 2 hts (goodIn_app (goodIn_r _ [78, 79, 80, 5] rfl (by decide +kernel)) (goodIn_ca (goodIn_r _ [42, 43, 44, 45, 41, 46, 47, 48, 5, 49, 50, 51, 52, 53, 54, 55, 56, 57, 58, 59, 60, 61, 62, 63, 64, 65, 66, 67, 68, 69, 70, 71, 72, 27, 73, 74, 75, 76, 77] rfl (by decide +kernel)) (bs_in _ _))) rfl rfl rfl (by decide +kernel) ⟨(Nat.le_of_ble_eq_true rfl), (Nat.le_of_ble_eq_true rfl)⟩) ⟨fun a U g mk q => by obtain ⟨q0, q1, qK, qE⟩ := q; exact ⟨q0, q1, va_K.moved (u := U) (U := U.calling g mk a) (Vm.Alike.refl U.vm) qK, EVS.blind g mk a qE⟩, gH_rc hK hT hr_o0 shm_0 rfl, fun U hU hW => ⟨rfl, hU, va_K.moved hW.alike hK, hE.call hS hFc hU hW⟩⟩ rfl rfl hl.1 rfl (lv_room (Nat.le_of_ble_eq_true rfl)) dX12_choose_58 ⟨(Nat.le_of_ble_eq_true rfl), (Nat.le_of_ble_eq_true rfl)⟩) hS (fun q _ h => hFc q h) hFc (fun r1912 u t H locs ht hvm hw1913 hB _ _ hS => ?_)
          obtain ⟨hT, hF1⟩ := hB
          rw [ht] at hT hF1
          have m1914 := m102.kept (hF1.arr hg1 skm_39 (by decide))
          have m1915 := m103.kept (hF1.arr hg2 skm_47 (by decide))
          have m1916 := m104.kept (hF1.arr hg3 skm_40 (by decide))
          have m1917 := m105.kept (hF1.arr hg4 skm_32 (by decide))
          have m1918 := m106.kept (hF1.arr hg5 skm_33 (by decide))
          have m1919 := m107.kept (hF1.arr hg6 skm_34 (by decide))
          have m1920 := m108.kept (hF1.arr hg7 skm_35 (by decide))
          have m1921 := m109.kept (hF1.arr hg8 skm_36 (by decide))
          have m1922 := m110.kept (hF1.arr hg9 skm_37 (by decide))
          have m1923 := m111.kept (hF1.arr hg10 skm_41 (by decide))
          have m1924 := m112.kept (hF1.arr hg13 skm_20 (by decide))
          have m1925 := m113.kept (hF1.arr hg14 skm_25 (by decide))
          have m1926 := m114.kept (hF1.arr hg15 skm_26 (by decide))
          have m1927 := m115.kept (hF1.arr hg16 skm_27 (by decide))
          have m1928 := m116.kept (hF1.arr hg17 skm_28 (by decide))
          have m1929 := m117.kept (hF1.arr hg18 skm_19 (by decide))
          have m1930 := m119.kept (hF1.arr hg19 skm_52 (by decide))
          have m1931 := (hF1.fld hr_o0 skm_0 (k := 42) (by decide) (by decide)).trans m120
          have m1932 := (hF1.fld hr_o0 skm_0 (k := 47) (by decide) (by decide)).trans m121
          have m1933 := (el_kept (hF1.arr hg1 skm_39 (by decide))).trans m1903
          have hF := hF.more hF1 (by decide)
          try dsimp only at hw1913
          have hf1936 := hw1913
          refine lv_lconst (v := 0) hx hb dX12_choose_61 (by decide) ?_
          refine W.lcmp hx hb dX12_choose_62 ?_
          refine lv_topi (fun x1937 ex1937 => ?_)
          have t1938 : (r1912.toInt < 0 ∧ x1937.toInt = -1) ∨ (r1912.toInt = 0 ∧ x1937.toInt = 0) ∨ (0 < r1912.toInt ∧ x1937.toInt = 1) := tl_c ex1937 rfl (by decide)
          refine lv_if_ne (tgt := 70) hx hb dX12_choose_63 (by decide) (fun c1939 => ?_) (fun c1939 => ?_)
          · have t1940 : x1937.toInt ≠ 0 := ti_ne c1939 rfl (by decide)
            refine lv_iconst (v := 0) hx hb dX12_choose_70 (by decide) ?_
            refine tw_zast (i := (nI i101)) (x := 0) hx hb hK hT hG hS hg19 shm_52 rfl (vp_in_nI (by omega) (by decide)) (gi_z (rg_t (a := 0) (by decide) (by first | decide | omega) (by first | decide | omega)) (by decide) (by decide)) dX12_choose_71 (fun H locs hT oq m1941 oi hS => ?_)
            have hF := hF.ast hg19 skm_52 oq (by decide)
            have m1942 := m1914.kept (oq _ (gne hg1 hg19 (by decide)))
            have m1943 := m1915.kept (oq _ (gne hg2 hg19 (by decide)))
            have m1944 := m1916.kept (oq _ (gne hg3 hg19 (by decide)))
            have m1945 := m1917.kept (oq _ (gne hg4 hg19 (by decide)))
            have m1946 := m1918.kept (oq _ (gne hg5 hg19 (by decide)))
            have m1947 := m1919.kept (oq _ (gne hg6 hg19 (by decide)))
            have m1948 := m1920.kept (oq _ (gne hg7 hg19 (by decide)))
            have m1949 := m1921.kept (oq _ (gne hg8 hg19 (by decide)))
            have m1950 := m1922.kept (oq _ (gne hg9 hg19 (by decide)))
            have m1951 := m1923.kept (oq _ (gne hg10 hg19 (by decide)))
            have m1952 := m1924.kept (oq _ (gne hg13 hg19 (by decide)))
            have m1953 := m1925.kept (oq _ (gne hg14 hg19 (by decide)))
            have m1954 := m1926.kept (oq _ (gne hg15 hg19 (by decide)))
            have m1955 := m1927.kept (oq _ (gne hg16 hg19 (by decide)))
            have m1956 := m1928.kept (oq _ (gne hg17 hg19 (by decide)))
            have m1957 := m1929.kept (oq _ (gne hg18 hg19 (by decide)))
            have m1958 := m1930.put (show el H (q 51) _ = some (.int 0) from m1941) oi
            have m1959 := (el_kept (oq _ (gne hr_o0 hg19 (by decide)))).trans m1931
            have m1960 := (el_kept (oq _ (gne hr_o0 hg19 (by decide)))).trans m1932
            have m1961 := (el_kept (oq _ (gne hg1 hg19 (by decide)))).trans m1933
            refine lv_aload_n hx hb dX12_choose_72 rfl (lv_at hl 1 rfl) ?_
            refine tw_get hx hb hts bF_X12 hown hK hT hr_o0 shm_0 rfl 50 (by decide) (ht_at hts 12 rfl) (fun _ h9 => h9) dX12_choose_73 (fun v9 m1962 h9 => ?_)
            obtain ⟨rfl, hg1963⟩ := h9 _ rfl
            refine lv_iload_n hx hb dX12_choose_76 rfl (lv_at hl 0 rfl) ?_
            refine lv_aload_n hx hb dX12_choose_77 rfl (lv_at hl 1 rfl) ?_
            refine lv_iload_n hx hb dX12_choose_78 rfl (lv_at hl 0 rfl) ?_
            refine lv_iconst (v := 4) hx hb dX12_choose_79 (by decide) ?_
            have hFc := gA_free hG hA hS
            refine va_calll (va_runV (As := [.int (nI i101), .int 4]) (rest := [.int (nI i101), .ref (q 50)]) ⟨hx, hb, hml, hown, hts⟩ (s_sumOf l dC dI kA adK adV G H q wZ wN wH wB wC wL wK wU wV PI im PM PT lS lB lE lN o0 (nI i101) 4 hT hr_o0 (rg_t (a := ((i101 : Nat) : Int)) (nI_toInt (by omega)) (by omega) (by omega)) (by assumption) hgz hgn hgh hgb hgc hgi hgu) (cwV 2 hts (goodIn_app (goodIn_r _ [78, 79, 80, 5] rfl (by decide +kernel)) (goodIn_ca (goodIn_r _ [42, 43, 44, 45, 41, 22, 23, 24, 25, 26, 27, 28, 29, 30, 31, 2, 3, 4, 5, 32, 33, 46, 47, 48, 49, 50, 51, 52, 53, 54, 55, 56, 34, 81, 82, 83, 84, 85, 86, 87, 88, 89, 90, 91, 92, 93, 94, 95, 96, 97, 57, 58, 59, 60, 61, 62, 63, 64, 65, 66, 67, 68, 69, 70, 71, 72, 73, 74, 75, 76, 77, 98] rfl (by decide +kernel)) (bs_in _ _))) rfl rfl rfl (by decide +kernel) ⟨(Nat.le_of_ble_eq_true rfl), (Nat.le_of_ble_eq_true rfl)⟩) ⟨fun a U g mk q => by obtain ⟨q0, q1, qK, qE⟩ := q; exact ⟨q0, q1, va_K.moved (u := U) (U := U.calling g mk a) (Vm.Alike.refl U.vm) qK, EVS.blind g mk a qE⟩, gH_rc hK hT hr_o0 shm_0 rfl, fun U hU hW => ⟨rfl, hU, va_K.moved hW.alike hK, hE.call hS hFc hU hW⟩⟩ rfl rfl hl.1 rfl (lv_room (Nat.le_of_ble_eq_true rfl)) dX12_choose_80 ⟨(Nat.le_of_ble_eq_true rfl), (Nat.le_of_ble_eq_true rfl)⟩) hS (fun q _ h => hFc q h) hFc (fun r1964 u t H locs ht hvm hw1965 hB _ _ hS => ?_)
            obtain ⟨hT, hF1⟩ := hB
            rw [ht] at hT hF1
            have m1966 := m1942.kept (hF1.arr hg1 skm_39 (by decide))
            have m1967 := m1943.kept (hF1.arr hg2 skm_47 (by decide))
            have m1968 := m1944.kept (hF1.arr hg3 skm_40 (by decide))
            have m1969 := m1945.kept (hF1.arr hg4 skm_32 (by decide))
            have m1970 := m1946.kept (hF1.arr hg5 skm_33 (by decide))
            have m1971 := m1947.kept (hF1.arr hg6 skm_34 (by decide))
            have m1972 := m1948.kept (hF1.arr hg7 skm_35 (by decide))
            have m1973 := m1949.kept (hF1.arr hg8 skm_36 (by decide))
            have m1974 := m1950.kept (hF1.arr hg9 skm_37 (by decide))
            have m1975 := m1951.kept (hF1.arr hg10 skm_41 (by decide))
            have m1976 := m1952.kept (hF1.arr hg13 skm_20 (by decide))
            have m1977 := m1953.kept (hF1.arr hg14 skm_25 (by decide))
            have m1978 := m1954.kept (hF1.arr hg15 skm_26 (by decide))
            have m1979 := m1955.kept (hF1.arr hg16 skm_27 (by decide))
            have m1980 := m1956.kept (hF1.arr hg17 skm_28 (by decide))
            have m1981 := m1957.kept (hF1.arr hg18 skm_19 (by decide))
            have m1982 := m1958.kept (hF1.arr hg19 skm_52 (by decide))
            have m1983 := (hF1.fld hr_o0 skm_0 (k := 42) (by decide) (by decide)).trans m1959
            have m1984 := (hF1.fld hr_o0 skm_0 (k := 47) (by decide) (by decide)).trans m1960
            have m1985 := (el_kept (hF1.arr hg1 skm_39 (by decide))).trans m1961
            have hF := hF.more hF1 (by decide)
            try dsimp only at hw1965
            refine tw_last (i := (nI i101))  hx hb hK hT hG hS hg1963 shm_51 rfl (vp_in_nI (by omega) (by decide)) ⟨_, rfl⟩ dX12_choose_83 (fun H locs hT oq m1986 oi hS => ?_)
            have hF := hF.ast hg1963 skm_51 oq (by decide)
            have m1987 := m1966.kept (oq _ (gne hg1 hg1963 (by decide)))
            have m1988 := m1967.kept (oq _ (gne hg2 hg1963 (by decide)))
            have m1989 := m1968.kept (oq _ (gne hg3 hg1963 (by decide)))
            have m1990 := m1969.kept (oq _ (gne hg4 hg1963 (by decide)))
            have m1991 := m1970.kept (oq _ (gne hg5 hg1963 (by decide)))
            have m1992 := m1971.kept (oq _ (gne hg6 hg1963 (by decide)))
            have m1993 := m1972.kept (oq _ (gne hg7 hg1963 (by decide)))
            have m1994 := m1973.kept (oq _ (gne hg8 hg1963 (by decide)))
            have m1995 := m1974.kept (oq _ (gne hg9 hg1963 (by decide)))
            have m1996 := m1975.kept (oq _ (gne hg10 hg1963 (by decide)))
            have m1997 := m1976.kept (oq _ (gne hg13 hg1963 (by decide)))
            have m1998 := m1977.kept (oq _ (gne hg14 hg1963 (by decide)))
            have m1999 := m1978.kept (oq _ (gne hg15 hg1963 (by decide)))
            have m2000 := m1979.kept (oq _ (gne hg16 hg1963 (by decide)))
            have m2001 := m1980.kept (oq _ (gne hg17 hg1963 (by decide)))
            have m2002 := m1981.kept (oq _ (gne hg18 hg1963 (by decide)))
            have m2003 := m1982.kept (oq _ (gne hg19 hg1963 (by decide)))
            have m2004 := (el_kept (oq _ (gne hr_o0 hg1963 (by decide)))).trans m1983
            have m2005 := (el_kept (oq _ (gne hr_o0 hg1963 (by decide)))).trans m1984
            have m2006 := (el_kept (oq _ (gne hg1 hg1963 (by decide)))).trans m1985
            refine lv_iinc (v := nI (i101 + 1)) (lv' := [(2, .int (nI (i101 + 1))), (0, .ref o0), (1, .int p0)]) hx hb dX12_choose_84 hl (k := 0) rfl (nI_add i101 1) (by decide) rfl (fun ls hl => ?_)
            refine lv_goto (tgt := 32) hx hb dX12_choose_87 (by decide) ?_
            exact ih832 (i101 + 1) (by omega) (by omega) (cu V118 (nI i101).toNatClampNeg (0 : Int32)) ⟨(zPo_s hj122 (tn_nI (by omega)) (by have o9 := hf1936; rw [tn_nI (by omega)] at o9; have x9 := (show (0 : Int32).toInt = 0 from (by decide)); have y9 : r1912.toInt = r1912.toInt := rfl; rcases o9 with ⟨h8, h7⟩ | ⟨h8, h7⟩; (exact Or.inl ⟨by omega, h7⟩); exact Or.inr ⟨by omega, h7⟩)), (by omega)⟩ _ _ hT hF hS m1987 m1988 m1989 m1990 m1991 m1992 m1993 m1994 m1995 m1996 m1997 m1998 m1999 m2000 m2001 m2002 m2003 m2004 m2005 ls (lv_sub hl [0, 1, 2] rfl)
          · have t2007 : x1937.toInt = 0 := ti_eq c1939 rfl (by decide)
            refine lv_iconst (v := 1) hx hb dX12_choose_66 (by decide) ?_
            refine lv_goto (tgt := 71) hx hb dX12_choose_67 (by decide) ?_
            refine tw_zast (i := (nI i101)) (x := 1) hx hb hK hT hG hS hg19 shm_52 rfl (vp_in_nI (by omega) (by decide)) (gi_z (rg_t (a := 1) (by decide) (by first | decide | omega) (by first | decide | omega)) (by decide) (by decide)) dX12_choose_71 (fun H locs hT oq m2008 oi hS => ?_)
            have hF := hF.ast hg19 skm_52 oq (by decide)
            have m2009 := m1914.kept (oq _ (gne hg1 hg19 (by decide)))
            have m2010 := m1915.kept (oq _ (gne hg2 hg19 (by decide)))
            have m2011 := m1916.kept (oq _ (gne hg3 hg19 (by decide)))
            have m2012 := m1917.kept (oq _ (gne hg4 hg19 (by decide)))
            have m2013 := m1918.kept (oq _ (gne hg5 hg19 (by decide)))
            have m2014 := m1919.kept (oq _ (gne hg6 hg19 (by decide)))
            have m2015 := m1920.kept (oq _ (gne hg7 hg19 (by decide)))
            have m2016 := m1921.kept (oq _ (gne hg8 hg19 (by decide)))
            have m2017 := m1922.kept (oq _ (gne hg9 hg19 (by decide)))
            have m2018 := m1923.kept (oq _ (gne hg10 hg19 (by decide)))
            have m2019 := m1924.kept (oq _ (gne hg13 hg19 (by decide)))
            have m2020 := m1925.kept (oq _ (gne hg14 hg19 (by decide)))
            have m2021 := m1926.kept (oq _ (gne hg15 hg19 (by decide)))
            have m2022 := m1927.kept (oq _ (gne hg16 hg19 (by decide)))
            have m2023 := m1928.kept (oq _ (gne hg17 hg19 (by decide)))
            have m2024 := m1929.kept (oq _ (gne hg18 hg19 (by decide)))
            have m2025 := m1930.put (show el H (q 51) _ = some (.int 1) from m2008) oi
            have m2026 := (el_kept (oq _ (gne hr_o0 hg19 (by decide)))).trans m1931
            have m2027 := (el_kept (oq _ (gne hr_o0 hg19 (by decide)))).trans m1932
            have m2028 := (el_kept (oq _ (gne hg1 hg19 (by decide)))).trans m1933
            refine lv_aload_n hx hb dX12_choose_72 rfl (lv_at hl 1 rfl) ?_
            refine tw_get hx hb hts bF_X12 hown hK hT hr_o0 shm_0 rfl 50 (by decide) (ht_at hts 12 rfl) (fun _ h9 => h9) dX12_choose_73 (fun v9 m2029 h9 => ?_)
            obtain ⟨rfl, hg2030⟩ := h9 _ rfl
            refine lv_iload_n hx hb dX12_choose_76 rfl (lv_at hl 0 rfl) ?_
            refine lv_aload_n hx hb dX12_choose_77 rfl (lv_at hl 1 rfl) ?_
            refine lv_iload_n hx hb dX12_choose_78 rfl (lv_at hl 0 rfl) ?_
            refine lv_iconst (v := 4) hx hb dX12_choose_79 (by decide) ?_
            have hFc := gA_free hG hA hS
            refine va_calll (va_runV (As := [.int (nI i101), .int 4]) (rest := [.int (nI i101), .ref (q 50)]) ⟨hx, hb, hml, hown, hts⟩ (s_sumOf l dC dI kA adK adV G H q wZ wN wH wB wC wL wK wU wV PI im PM PT lS lB lE lN o0 (nI i101) 4 hT hr_o0 (rg_t (a := ((i101 : Nat) : Int)) (nI_toInt (by omega)) (by omega) (by omega)) (by assumption) hgz hgn hgh hgb hgc hgi hgu) (cwV 2 hts (goodIn_app (goodIn_r _ [78, 79, 80, 5] rfl (by decide +kernel)) (goodIn_ca (goodIn_r _ [42, 43, 44, 45, 41, 22, 23, 24, 25, 26, 27, 28, 29, 30, 31, 2, 3, 4, 5, 32, 33, 46, 47, 48, 49, 50, 51, 52, 53, 54, 55, 56, 34, 81, 82, 83, 84, 85, 86, 87, 88, 89, 90, 91, 92, 93, 94, 95, 96, 97, 57, 58, 59, 60, 61, 62, 63, 64, 65, 66, 67, 68, 69, 70, 71, 72, 73, 74, 75, 76, 77, 98] rfl (by decide +kernel)) (bs_in _ _))) rfl rfl rfl (by decide +kernel) ⟨(Nat.le_of_ble_eq_true rfl), (Nat.le_of_ble_eq_true rfl)⟩) ⟨fun a U g mk q => by obtain ⟨q0, q1, qK, qE⟩ := q; exact ⟨q0, q1, va_K.moved (u := U) (U := U.calling g mk a) (Vm.Alike.refl U.vm) qK, EVS.blind g mk a qE⟩, gH_rc hK hT hr_o0 shm_0 rfl, fun U hU hW => ⟨rfl, hU, va_K.moved hW.alike hK, hE.call hS hFc hU hW⟩⟩ rfl rfl hl.1 rfl (lv_room (Nat.le_of_ble_eq_true rfl)) dX12_choose_80 ⟨(Nat.le_of_ble_eq_true rfl), (Nat.le_of_ble_eq_true rfl)⟩) hS (fun q _ h => hFc q h) hFc (fun r2031 u t H locs ht hvm hw2032 hB _ _ hS => ?_)
            obtain ⟨hT, hF1⟩ := hB
            rw [ht] at hT hF1
            have m2033 := m2009.kept (hF1.arr hg1 skm_39 (by decide))
            have m2034 := m2010.kept (hF1.arr hg2 skm_47 (by decide))
            have m2035 := m2011.kept (hF1.arr hg3 skm_40 (by decide))
            have m2036 := m2012.kept (hF1.arr hg4 skm_32 (by decide))
            have m2037 := m2013.kept (hF1.arr hg5 skm_33 (by decide))
            have m2038 := m2014.kept (hF1.arr hg6 skm_34 (by decide))
            have m2039 := m2015.kept (hF1.arr hg7 skm_35 (by decide))
            have m2040 := m2016.kept (hF1.arr hg8 skm_36 (by decide))
            have m2041 := m2017.kept (hF1.arr hg9 skm_37 (by decide))
            have m2042 := m2018.kept (hF1.arr hg10 skm_41 (by decide))
            have m2043 := m2019.kept (hF1.arr hg13 skm_20 (by decide))
            have m2044 := m2020.kept (hF1.arr hg14 skm_25 (by decide))
            have m2045 := m2021.kept (hF1.arr hg15 skm_26 (by decide))
            have m2046 := m2022.kept (hF1.arr hg16 skm_27 (by decide))
            have m2047 := m2023.kept (hF1.arr hg17 skm_28 (by decide))
            have m2048 := m2024.kept (hF1.arr hg18 skm_19 (by decide))
            have m2049 := m2025.kept (hF1.arr hg19 skm_52 (by decide))
            have m2050 := (hF1.fld hr_o0 skm_0 (k := 42) (by decide) (by decide)).trans m2026
            have m2051 := (hF1.fld hr_o0 skm_0 (k := 47) (by decide) (by decide)).trans m2027
            have m2052 := (el_kept (hF1.arr hg1 skm_39 (by decide))).trans m2028
            have hF := hF.more hF1 (by decide)
            try dsimp only at hw2032
            refine tw_last (i := (nI i101))  hx hb hK hT hG hS hg2030 shm_51 rfl (vp_in_nI (by omega) (by decide)) ⟨_, rfl⟩ dX12_choose_83 (fun H locs hT oq m2053 oi hS => ?_)
            have hF := hF.ast hg2030 skm_51 oq (by decide)
            have m2054 := m2033.kept (oq _ (gne hg1 hg2030 (by decide)))
            have m2055 := m2034.kept (oq _ (gne hg2 hg2030 (by decide)))
            have m2056 := m2035.kept (oq _ (gne hg3 hg2030 (by decide)))
            have m2057 := m2036.kept (oq _ (gne hg4 hg2030 (by decide)))
            have m2058 := m2037.kept (oq _ (gne hg5 hg2030 (by decide)))
            have m2059 := m2038.kept (oq _ (gne hg6 hg2030 (by decide)))
            have m2060 := m2039.kept (oq _ (gne hg7 hg2030 (by decide)))
            have m2061 := m2040.kept (oq _ (gne hg8 hg2030 (by decide)))
            have m2062 := m2041.kept (oq _ (gne hg9 hg2030 (by decide)))
            have m2063 := m2042.kept (oq _ (gne hg10 hg2030 (by decide)))
            have m2064 := m2043.kept (oq _ (gne hg13 hg2030 (by decide)))
            have m2065 := m2044.kept (oq _ (gne hg14 hg2030 (by decide)))
            have m2066 := m2045.kept (oq _ (gne hg15 hg2030 (by decide)))
            have m2067 := m2046.kept (oq _ (gne hg16 hg2030 (by decide)))
            have m2068 := m2047.kept (oq _ (gne hg17 hg2030 (by decide)))
            have m2069 := m2048.kept (oq _ (gne hg18 hg2030 (by decide)))
            have m2070 := m2049.kept (oq _ (gne hg19 hg2030 (by decide)))
            have m2071 := (el_kept (oq _ (gne hr_o0 hg2030 (by decide)))).trans m2050
            have m2072 := (el_kept (oq _ (gne hr_o0 hg2030 (by decide)))).trans m2051
            have m2073 := (el_kept (oq _ (gne hg1 hg2030 (by decide)))).trans m2052
            refine lv_iinc (v := nI (i101 + 1)) (lv' := [(2, .int (nI (i101 + 1))), (0, .ref o0), (1, .int p0)]) hx hb dX12_choose_84 hl (k := 0) rfl (nI_add i101 1) (by decide) rfl (fun ls hl => ?_)
            refine lv_goto (tgt := 32) hx hb dX12_choose_87 (by decide) ?_
            exact ih832 (i101 + 1) (by omega) (by omega) (cu V118 (nI i101).toNatClampNeg (1 : Int32)) ⟨(zPo_s hj122 (tn_nI (by omega)) (by have o9 := hf1936; rw [tn_nI (by omega)] at o9; have x9 := (show (1 : Int32).toInt = 1 from (by decide)); have y9 : r1912.toInt = r1912.toInt := rfl; rcases o9 with ⟨h8, h7⟩ | ⟨h8, h7⟩; (exact Or.inl ⟨by omega, h7⟩); exact Or.inr ⟨by omega, h7⟩)), (by omega)⟩ _ _ hT hF hS m2054 m2055 m2056 m2057 m2058 m2059 m2060 m2061 m2062 m2063 m2064 m2065 m2066 m2067 m2068 m2069 m2070 m2071 m2072 ls (lv_sub hl [0, 1, 2] rfl)
    exact key832 (60 - 0) 0 (by omega) (Nat.le_refl _) vP ⟨zPo_0, (by omega)⟩ _ _ hT hF hS m78 m79 m80 m81 m82 m83 m84 m85 m86 m87 m90 m91 m92 m93 m94 m95 m96 m76 m77 ls (lv_sub hl [0, 1, 2] rfl)
  · have t2074 : r42.toInt = 0 := ti_eq c69 rfl (by decide)
    have t2075 : (0 : Int32).toInt = 0 := by decide
    have t2076 : (60 : Int32).toInt = 60 := by decide
    have t2077 : p0.toInt < (0 : Int32).toInt ∨ (60 : Int32).toInt < p0.toInt := hi68 c69
    refine lv_iconst (v := 1) hx hb dX12_choose_16 (by decide) ?_
    refine lv_goto (tgt := 21) hx hb dX12_choose_17 (by decide) ?_
    refine lv_iconst (v := 1) hx hb dX12_choose_21 (by decide) ?_
    have hFc := gA_free hG hA hS
    refine va_calli (va_runV (As := [.int 1, .int 1]) (rest := []) ⟨hx, hb, hml, hown, hts⟩ (s_throwsIf l dC dI kA adK adV G H q wZ wN wH wB wC wL wK wU wV PI im PM PT lS lB lE lN o0 1 1 hT hr_o0 (rg_t (a := 1) (by decide) (by first | decide | omega) (by first | decide | omega)) hgz hgn hgh hgb hgc hgi hgu) (cwV 2 hts (goodIn_app (goodIn_r _ [7, 8, 9, 5] rfl (by decide +kernel)) (goodIn_ca (goodIn_r _ [6, 1] rfl (by decide +kernel)) (bs_in _ _))) rfl rfl rfl (by decide +kernel) ⟨(Nat.le_of_ble_eq_true rfl), (Nat.le_of_ble_eq_true rfl)⟩) ⟨fun a U g mk q => by obtain ⟨q0, q1, qK, qE⟩ := q; exact ⟨q0, q1, va_K.moved (u := U) (U := U.calling g mk a) (Vm.Alike.refl U.vm) qK, EVS.blind g mk a qE⟩, gH_rc hK hT hr_o0 shm_0 rfl, fun U hU hW => ⟨rfl, hU, va_K.moved hW.alike hK, hE.call hS hFc hU hW⟩⟩ rfl rfl hl.1 rfl (lv_room (Nat.le_of_ble_eq_true rfl)) dX12_choose_22 ⟨(Nat.le_of_ble_eq_true rfl), (Nat.le_of_ble_eq_true rfl)⟩) hS (fun q _ h => hFc q h) hFc (fun r2078 u t H locs ht hvm hw2079 hB _ _ hS => ?_)
    obtain ⟨hT, hF1⟩ := hB
    rw [ht] at hT hF1
    have m2080 := (hF1.fld hr_o0 skm_0 (k := 42) (by decide) (by decide)).trans m44
    have m2081 := (hF1.fld hr_o0 skm_0 (k := 47) (by decide) (by decide)).trans m45
    have m2082 := m46.kept (hF1.arr hg1 skm_39 (by decide))
    have m2083 := m47.kept (hF1.arr hg2 skm_47 (by decide))
    have m2084 := m48.kept (hF1.arr hg3 skm_40 (by decide))
    have m2085 := m49.kept (hF1.arr hg4 skm_32 (by decide))
    have m2086 := m50.kept (hF1.arr hg5 skm_33 (by decide))
    have m2087 := m51.kept (hF1.arr hg6 skm_34 (by decide))
    have m2088 := m52.kept (hF1.arr hg7 skm_35 (by decide))
    have m2089 := m53.kept (hF1.arr hg8 skm_36 (by decide))
    have m2090 := m54.kept (hF1.arr hg9 skm_37 (by decide))
    have m2091 := m55.kept (hF1.arr hg10 skm_41 (by decide))
    have m2092 := m56.kept (hF1.arr hg11 skm_31 (by decide))
    have m2093 := m57.kept (hF1.arr hg12 skm_30 (by decide))
    have m2094 := m58.kept (hF1.arr hg13 skm_20 (by decide))
    have m2095 := m59.kept (hF1.arr hg14 skm_25 (by decide))
    have m2096 := m60.kept (hF1.arr hg15 skm_26 (by decide))
    have m2097 := m61.kept (hF1.arr hg16 skm_27 (by decide))
    have m2098 := m62.kept (hF1.arr hg17 skm_28 (by decide))
    have m2099 := m63.kept (hF1.arr hg18 skm_19 (by decide))
    have m2100 := m64.kept (hF1.arr hg19 skm_52 (by decide))
    have hF := hF.more hF1 (by decide)
    try dsimp only at hw2079
    obtain ⟨h2102, hd2103⟩ := hw2079
    obtain rfl : (1 : Int32) = r2078 := hd2103.symm
    refine lv_if_eq (tgt := 30) hx hb dX12_choose_25 (by decide) (fun c2104 => absurd c2104 (by decide)) (fun c2104 => ?_)
    refine lv_iconst (v := 0) hx hb dX12_choose_28 (by decide) ?_
    exact W.iret (v := 0) hx hb hr (fun t ht hW => ⟨⟨0, (vH, vR), rfl, (by exact (Or.inr ⟨⟨rfl, rfl⟩, fun h8 => by have := h8.1; omega⟩)), by (try dsimp only); rw [ht]; exact ⟨hT, hF, m2082, m2083⟩⟩, hS.F ht⟩) hS.2.2 dX12_choose_29
