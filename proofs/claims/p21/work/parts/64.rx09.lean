set_option maxHeartbeats 4000000 in
set_option maxRecDepth 100000 in
theorem s_chooseZ (l : Launch) (dC : Nat → ClassId) (dI : Nat → Nat → Nat) (kA : Nat → ClassId) (adK adV : Nat → Nat) (G : gT) (H0 : Heap) (q : Nat → Nat) (wZ wN : Nat → Int) (wH wB wC : Int) (wL wK : Nat → Prop) (wU wV : Nat → Nat) (PI : Nat → Int → Prop) (im : Int) (PM PT : Nat → Int → Prop) (lS lB lE : Nat → Nat → Int → Prop) (lN : Nat → Int) (o0 : Nat) (p0 : Int32) (sn : Int32) (fm : Int32) (vH : Nat → Int32) (vR : Nat → Int32) (vG : Nat → Int32) (vA : Nat → Int32) (vD : Nat → Int32) (vC : Nat → Int32) (vU : Nat → Int32) (vI : Nat → Int32) (vM : Nat → Int32) (vW : Nat → Int32) (fL : Nat → Int64) (vQ : Nat → Int64) (vO : Nat → Int32) (vB : Nat → Int32) (vX : Nat → Int32) (vS : Nat → Int32) (vN : Nat → Int32) (vL : Nat → Int32) (vP : Nat → Int32) (A9 : zAl) (hT : gH (dC, dI) kA (SHm q (wP wZ wN wH wB wC wL wK wU wV) PI im PM PT lS lB lE lN) G H0) (hr_o0 : G o0 = some 0) (hm_sn : el H0 o0 (dI 15 42) = some (.int sn)) (hm_fm : el H0 o0 (dI 15 47) = some (.int fm)) (hq0 : 0 ≤ sn.toInt ∧ sn.toInt ≤ 60) (hq1 : 0 ≤ fm.toInt ∧ fm.toInt ≤ 30) (hnh : ∀ f : Nat, ((f : Nat) : Int) < fm.toInt → (vR f).toInt < 0) (hall : ∀ p : Nat, ((p : Nat) : Int) < sn.toInt → (vH p).toInt < 0) (hfo : zFo A9 vL vO vB vX vS vN) (hzk : ∀ e ∈ A9, zok e.2) (hlaw : lawsOK lS lB lE lN) (hc_vH : ct H0 (q 38) 60 vH) (hc_vR : ct H0 (q 46) 30 vR) (hc_vG : ct H0 (q 39) 60 vG) (hc_vA : ct H0 (q 31) 60 vA) (hc_vD : ct H0 (q 32) 60 vD) (hc_vC : ct H0 (q 33) 60 vC) (hc_vU : ct H0 (q 34) 60 vU) (hc_vI : ct H0 (q 35) 60 vI) (hc_vM : ct H0 (q 36) 60 vM) (hc_vW : ct H0 (q 40) 60 vW) (hc_fL : ctl H0 (q 30) 10 fL) (hc_vQ : ctl H0 (q 29) 400 vQ) (hc_vO : ct H0 (q 19) 60 vO) (hc_vB : ct H0 (q 24) 60 vB) (hc_vX : ct H0 (q 25) 60 vX) (hc_vS : ct H0 (q 26) 1200 vS) (hc_vN : ct H0 (q 27) 1200 vN) (hc_vL : ct H0 (q 18) 3 vL) (hc_vP : ct H0 (q 51) 60 vP) (hgz : ∀ i, 0 ≤ wZ i) (hgn : ∀ i, 6500000 ≤ wN i ∧ wN i ≤ 20200000) (hgh : 0 ≤ wH ∧ wH ≤ 40000) (hgb : 0 ≤ wB ∧ wB ≤ 3850000) (hgc : 0 ≤ wC ∧ wC ≤ 30) (hgi : 0 ≤ im ∧ im ≤ 1) (hgu : ∀ a t, G a = some (t + 1) → a = q t) : Met l yX12_choose w_s_chooseZ ({ frames := 6, cells := 0, slots := 0, locals := 134 }) (va_Pc [.ref o0, .int p0] (fun U => U.heap = H0 ∧ va_K (dC, dI) vwCl (tyl kA) U ∧ EVS adK adV (gA G H0.size) U U.heap)) (va_Qi (fun (r : Int32) (u : (Nat → Int32) × (Nat → Int32)) => match u with | (vH1, vR1) => ((zHb vH1 sn.toInt ∧ ((1 ≤ p0.toInt ∧ p0.toInt ≤ 60) ∧ 0 < fm.toInt ∧ zNO (zLs vG vA vD vC vU vI vM vW) A9 sn.toInt)) ∨ ((vH = vH1 ∧ vR = vR1) ∧ ¬ ((1 ≤ p0.toInt ∧ p0.toInt ≤ 60) ∧ 0 < fm.toInt ∧ zNO (zLs vG vA vD vC vU vI vM vW) A9 sn.toInt)))) (fun (u : (Nat → Int32) × (Nat → Int32)) (t : State) => match u with | (vH1, vR1) => gH (dC, dI) kA (SHm q (wP wZ wN wH wB wC wL wK wU wV) PI im PM PT lS lB lE lN) G t.heap ∧ gF (dC, dI) SKm G ([(0, 0), (30, 0), (31, 0), (39, 0), (47, 0), (51, 0), (52, 0)] : List (Nat × Nat)) H0 t.heap ∧ ct t.heap (q 38) 60 vH1 ∧ ct t.heap (q 46) 30 vR1) (gA G H0.size)) 0 0 (gA G H0.size) := by
  refine Met.ofW (cc := cX12_choose) (maxL := 6) (ret := (some .int)) (by decide) rfl ?_
  intro p e s m args below meth c s₁ B hml hv
  obtain ⟨rfl, hH0, hK, hE⟩ := hv
  have hx := B.exec
  have hb := B.bytes
  have hr := B.returns
  have hts := atoms_spec (ws := w_s_chooseZ) B.pre
  have hown : s.vm.findClass RX12 = some m.cls := findClass_of_methodNamed B.named
  have hlocks := B.notSynchronized
  subst hH0
  generalize hAe : gA G s.heap.size = A at hE ⊢
  have hA : ∀ q : Nat, s.heap.size ≤ q → A q := fun q h => by rw [← hAe]; exact Or.inr h
  have hG := gA_of hAe
  have hS : va_S A s.heap s.heap [] := va_S.rf
  have hF : gF (dC, dI) SKm G ([(0, 0), (30, 0), (31, 0), (39, 0), (47, 0), (51, 0), (52, 0)] : List (Nat × Nat)) s.heap s.heap := gF.rf
  have hl := lv_entry ([.ref o0, .int p0]) (n := 6) (Nat.le_of_ble_eq_true rfl)
  rw [lg_entry_eq]
  generalize (lg_sl ([.ref o0, .int p0]) ++ List.replicate (6 - (lg_sl ([.ref o0, .int p0])).length) Slot.unset).toArray = ls at hl ⊢
  have hl : lv_has ls 6 [(0, .ref o0), (1, .int p0)] := hl
  have hg1 : G (q 38) = some 39 := gx_of hT hr_o0 shm_0 (k := 38) (by decide) rfl
  have hg2 : G (q 46) = some 47 := gx_of hT hr_o0 shm_0 (k := 46) (by decide) rfl
  have hg3 : G (q 39) = some 40 := gx_of hT hr_o0 shm_0 (k := 39) (by decide) rfl
  have hg4 : G (q 31) = some 32 := gx_of hT hr_o0 shm_0 (k := 31) (by decide) rfl
  have hg5 : G (q 32) = some 33 := gx_of hT hr_o0 shm_0 (k := 32) (by decide) rfl
  have hg6 : G (q 33) = some 34 := gx_of hT hr_o0 shm_0 (k := 33) (by decide) rfl
  have hg7 : G (q 34) = some 35 := gx_of hT hr_o0 shm_0 (k := 34) (by decide) rfl
  have hg8 : G (q 35) = some 36 := gx_of hT hr_o0 shm_0 (k := 35) (by decide) rfl
  have hg9 : G (q 36) = some 37 := gx_of hT hr_o0 shm_0 (k := 36) (by decide) rfl
  have hg10 : G (q 40) = some 41 := gx_of hT hr_o0 shm_0 (k := 40) (by decide) rfl
  have hg11 : G (q 30) = some 31 := gx_of hT hr_o0 shm_0 (k := 30) (by decide) rfl
  have hg12 : G (q 29) = some 30 := gx_of hT hr_o0 shm_0 (k := 29) (by decide) rfl
  have hg13 : G (q 19) = some 20 := gx_of hT hr_o0 shm_0 (k := 19) (by decide) rfl
  have hg14 : G (q 24) = some 25 := gx_of hT hr_o0 shm_0 (k := 24) (by decide) rfl
  have hg15 : G (q 25) = some 26 := gx_of hT hr_o0 shm_0 (k := 25) (by decide) rfl
  have hg16 : G (q 26) = some 27 := gx_of hT hr_o0 shm_0 (k := 26) (by decide) rfl
  have hg17 : G (q 27) = some 28 := gx_of hT hr_o0 shm_0 (k := 27) (by decide) rfl
  have hg18 : G (q 18) = some 19 := gx_of hT hr_o0 shm_0 (k := 18) (by decide) rfl
  have hg19 : G (q 51) = some 52 := gx_of hT hr_o0 shm_0 (k := 51) (by decide) rfl
  refine lv_aload_n hx hb dX12_choose_0 rfl (lv_at hl 0 rfl) ?_
  refine lv_iconst (v := 0) hx hb dX12_choose_1 (by decide) ?_
  refine tw_put (v := .int 0) (ty := .int) hx hb hts bF_X12 tyX12 tyX12_ok nmX12 hown hK hT hG hS hr_o0 shm_0 rfl 0 (by decide) (ht_at hts 0 rfl) (fun _ h9 => h9) rfl (by decide +kernel) rfl rfl (gl_at rfl (gi_all _)) dX12_choose_2 (fun H locs hT oq m20 oj hS => ?_)
  have hF := hF.put hr_o0 skm_0 oq oj (by decide)
  have m21 := (oj 42 (by decide) (by decide)).trans hm_sn
  have m22 := (oj 47 (by decide) (by decide)).trans hm_fm
  have m23 := hc_vH.kept (oq _ (gne hg1 hr_o0 (by decide)))
  have m24 := hc_vR.kept (oq _ (gne hg2 hr_o0 (by decide)))
  have m25 := hc_vG.kept (oq _ (gne hg3 hr_o0 (by decide)))
  have m26 := hc_vA.kept (oq _ (gne hg4 hr_o0 (by decide)))
  have m27 := hc_vD.kept (oq _ (gne hg5 hr_o0 (by decide)))
  have m28 := hc_vC.kept (oq _ (gne hg6 hr_o0 (by decide)))
  have m29 := hc_vU.kept (oq _ (gne hg7 hr_o0 (by decide)))
  have m30 := hc_vI.kept (oq _ (gne hg8 hr_o0 (by decide)))
  have m31 := hc_vM.kept (oq _ (gne hg9 hr_o0 (by decide)))
  have m32 := hc_vW.kept (oq _ (gne hg10 hr_o0 (by decide)))
  have m33 := hc_fL.kept (oq _ (gne hg11 hr_o0 (by decide)))
  have m34 := hc_vQ.kept (oq _ (gne hg12 hr_o0 (by decide)))
  have m35 := hc_vO.kept (oq _ (gne hg13 hr_o0 (by decide)))
  have m36 := hc_vB.kept (oq _ (gne hg14 hr_o0 (by decide)))
  have m37 := hc_vX.kept (oq _ (gne hg15 hr_o0 (by decide)))
  have m38 := hc_vS.kept (oq _ (gne hg16 hr_o0 (by decide)))
  have m39 := hc_vN.kept (oq _ (gne hg17 hr_o0 (by decide)))
  have m40 := hc_vL.kept (oq _ (gne hg18 hr_o0 (by decide)))
  have m41 := hc_vP.kept (oq _ (gne hg19 hr_o0 (by decide)))
  refine lv_aload_n hx hb dX12_choose_5 rfl (lv_at hl 0 rfl) ?_
  refine lv_iload_n hx hb dX12_choose_6 rfl (lv_at hl 1 rfl) ?_
  refine lv_iconst (v := 0) hx hb dX12_choose_7 (by decide) ?_
  refine lv_bipush (v := 60) hx hb dX12_choose_8 (by decide) ?_
  have hFc := gA_free hG hA hS
  refine va_calli (va_runS (As := [.int p0, .int 0, .int 60]) (rest := [.ref o0]) ⟨hx, hb, hml, hown, hts⟩ (s_in l dC dI kA adK adV G H q wZ wN wH wB wC wL wK wU wV PI im PM PT lS lB lE lN p0 0 60 hT hgz hgn hgh hgb hgc hgi hgu) (va_cwS 3 hts (goodIn_app (goodIn_r _ [3, 4, 5] rfl (by decide +kernel)) (goodIn_ca (goodIn_r _ [2] rfl (by decide +kernel)) (bs_in _ _))) rfl rfl rfl (by decide +kernel) ⟨(Nat.le_of_ble_eq_true rfl), (Nat.le_of_ble_eq_true rfl)⟩) ⟨fun a U g mk q => by obtain ⟨q0, q1, qK, qE⟩ := q; exact ⟨q0, q1, va_K.moved (u := U) (U := U.calling g mk a) (Vm.Alike.refl U.vm) qK, EVS.blind g mk a qE⟩, fun U hU hW => ⟨rfl, hU, va_K.moved hW.alike hK, hE.call hS hFc hU hW⟩⟩ rfl rfl hl.1 rfl (lv_room (Nat.le_of_ble_eq_true rfl)) dX12_choose_10 ⟨(Nat.le_of_ble_eq_true rfl), (Nat.le_of_ble_eq_true rfl)⟩) hS (fun q _ h => hFc q h) hFc (fun r42 u t H locs ht hvm hw43 hB _ _ hS => ?_)
  obtain ⟨hT, hF1⟩ := hB
  rw [ht] at hT hF1
  have m44 := (hF1.fld hr_o0 skm_0 (k := 42) (by decide) (by decide)).trans m21
  have m45 := (hF1.fld hr_o0 skm_0 (k := 47) (by decide) (by decide)).trans m22
  have m46 := m23.kept (hF1.arr hg1 skm_39 (by decide))
  have m47 := m24.kept (hF1.arr hg2 skm_47 (by decide))
  have m48 := m25.kept (hF1.arr hg3 skm_40 (by decide))
  have m49 := m26.kept (hF1.arr hg4 skm_32 (by decide))
  have m50 := m27.kept (hF1.arr hg5 skm_33 (by decide))
  have m51 := m28.kept (hF1.arr hg6 skm_34 (by decide))
  have m52 := m29.kept (hF1.arr hg7 skm_35 (by decide))
  have m53 := m30.kept (hF1.arr hg8 skm_36 (by decide))
  have m54 := m31.kept (hF1.arr hg9 skm_37 (by decide))
  have m55 := m32.kept (hF1.arr hg10 skm_41 (by decide))
  have m56 := m33.kept (hF1.arr hg11 skm_31 (by decide))
  have m57 := m34.kept (hF1.arr hg12 skm_30 (by decide))
  have m58 := m35.kept (hF1.arr hg13 skm_20 (by decide))
  have m59 := m36.kept (hF1.arr hg14 skm_25 (by decide))
  have m60 := m37.kept (hF1.arr hg15 skm_26 (by decide))
  have m61 := m38.kept (hF1.arr hg16 skm_27 (by decide))
  have m62 := m39.kept (hF1.arr hg17 skm_28 (by decide))
  have m63 := m40.kept (hF1.arr hg18 skm_19 (by decide))
  have m64 := m41.kept (hF1.arr hg19 skm_52 (by decide))
  have m65 := (hF1.fld hr_o0 skm_0 (k := 0) (by decide) (by decide)).trans m20
  have hF := hF.more hF1 (by decide)
  try dsimp only at hw43
  obtain ⟨h66, hi67, hi68⟩ := hw43
  refine lv_if_ne (tgt := 20) hx hb dX12_choose_13 (by decide) (fun c69 => ?_) (fun c69 => ?_)
  · have t70 : r42.toInt ≠ 0 := ti_ne c69 rfl (by decide)
    have t71 : (0 : Int32).toInt = 0 := by decide
    have t72 : (60 : Int32).toInt = 60 := by decide
    have t73 : (0 : Int32).toInt ≤ p0.toInt ∧ p0.toInt ≤ (60 : Int32).toInt := hi67 ((bit_of ⟨by omega, by omega⟩).resolve_left c69)
    refine lv_iconst (v := 0) hx hb dX12_choose_20 (by decide) ?_
    refine lv_iconst (v := 1) hx hb dX12_choose_21 (by decide) ?_
    have hFc := gA_free hG hA hS
    refine va_calli (va_runV (As := [.int 0, .int 1]) (rest := []) ⟨hx, hb, hml, hown, hts⟩ (s_throwsIf l dC dI kA adK adV G H q wZ wN wH wB wC wL wK wU wV PI im PM PT lS lB lE lN o0 0 1 hT hr_o0 (rg_t (a := 0) (by decide) (by first | decide | omega) (by first | decide | omega)) hgz hgn hgh hgb hgc hgi hgu) (cwV 2 hts (goodIn_app (goodIn_r _ [7, 8, 9, 5] rfl (by decide +kernel)) (goodIn_ca (goodIn_r _ [6, 1] rfl (by decide +kernel)) (bs_in _ _))) rfl rfl rfl (by decide +kernel) ⟨(Nat.le_of_ble_eq_true rfl), (Nat.le_of_ble_eq_true rfl)⟩) ⟨fun a U g mk q => by obtain ⟨q0, q1, qK, qE⟩ := q; exact ⟨q0, q1, va_K.moved (u := U) (U := U.calling g mk a) (Vm.Alike.refl U.vm) qK, EVS.blind g mk a qE⟩, gH_rc hK hT hr_o0 shm_0 rfl, fun U hU hW => ⟨rfl, hU, va_K.moved hW.alike hK, hE.call hS hFc hU hW⟩⟩ rfl rfl hl.1 rfl (lv_room (Nat.le_of_ble_eq_true rfl)) dX12_choose_22 ⟨(Nat.le_of_ble_eq_true rfl), (Nat.le_of_ble_eq_true rfl)⟩) hS (fun q _ h => hFc q h) hFc (fun r74 u t H locs ht hvm hw75 hB _ _ hS => ?_)
    obtain ⟨hT, hF1⟩ := hB
    rw [ht] at hT hF1
    have m76 := (hF1.fld hr_o0 skm_0 (k := 42) (by decide) (by decide)).trans m44
    have m77 := (hF1.fld hr_o0 skm_0 (k := 47) (by decide) (by decide)).trans m45
    have m78 := m46.kept (hF1.arr hg1 skm_39 (by decide))
    have m79 := m47.kept (hF1.arr hg2 skm_47 (by decide))
    have m80 := m48.kept (hF1.arr hg3 skm_40 (by decide))
    have m81 := m49.kept (hF1.arr hg4 skm_32 (by decide))
    have m82 := m50.kept (hF1.arr hg5 skm_33 (by decide))
    have m83 := m51.kept (hF1.arr hg6 skm_34 (by decide))
    have m84 := m52.kept (hF1.arr hg7 skm_35 (by decide))
    have m85 := m53.kept (hF1.arr hg8 skm_36 (by decide))
    have m86 := m54.kept (hF1.arr hg9 skm_37 (by decide))
    have m87 := m55.kept (hF1.arr hg10 skm_41 (by decide))
    have m88 := m56.kept (hF1.arr hg11 skm_31 (by decide))
    have m89 := m57.kept (hF1.arr hg12 skm_30 (by decide))
    have m90 := m58.kept (hF1.arr hg13 skm_20 (by decide))
    have m91 := m59.kept (hF1.arr hg14 skm_25 (by decide))
    have m92 := m60.kept (hF1.arr hg15 skm_26 (by decide))
    have m93 := m61.kept (hF1.arr hg16 skm_27 (by decide))
    have m94 := m62.kept (hF1.arr hg17 skm_28 (by decide))
    have m95 := m63.kept (hF1.arr hg18 skm_19 (by decide))
    have m96 := m64.kept (hF1.arr hg19 skm_52 (by decide))
    have hF := hF.more hF1 (by decide)
    try dsimp only at hw75
    obtain ⟨h98, hd99⟩ := hw75
    obtain rfl : (0 : Int32) = r74 := hd99.symm
    refine lv_if_eq (tgt := 30) hx hb dX12_choose_25 (by decide) (fun c100 => ?_) (fun c100 => absurd c100 (by decide))
    refine lv_iconst (v := 0) hx hb dX12_choose_30 (by decide) ?_
    refine lv_istore_n (lv' := [(2, .int 0), (0, .ref o0), (1, .int p0)]) hx hb dX12_choose_31 rfl hl (by decide) rfl (fun ls hl => ?_)
    have key831 : ∀ (n831 i101 : Nat), i101 + n831 = 60 → 0 ≤ i101 → ∀ (V118 : Nat → Int32), ((zPo (zLs vG vA vD vC vU vI vM vW) A9 V118 i101) ∧ (((i101 : Nat) : Int) ≤ sn.toInt)) → ∀ (H : Heap) (locs : List Loc), gH (dC, dI) kA (SHm q (wP wZ wN wH wB wC wL wK wU wV) PI im PM PT lS lB lE lN) G H → gF (dC, dI) SKm G ([(0, 0), (30, 0), (31, 0), (39, 0), (47, 0), (51, 0), (52, 0)] : List (Nat × Nat)) s.heap H → va_S A s.heap H locs → ct H (q 38) 60 vH → ct H (q 46) 30 vR → ct H (q 39) 60 vG → ct H (q 31) 60 vA → ct H (q 32) 60 vD → ct H (q 33) 60 vC → ct H (q 34) 60 vU → ct H (q 35) 60 vI → ct H (q 36) 60 vM → ct H (q 40) 60 vW → ct H (q 19) 60 vO → ct H (q 24) 60 vB → ct H (q 25) 60 vX → ct H (q 26) 1200 vS → ct H (q 27) 1200 vN → ct H (q 18) 3 vL → ct H (q 51) 60 V118 → el H o0 (dI 15 42) = some (.int sn) → el H o0 (dI 15 47) = some (.int fm) → ∀ ls : Array Slot, lv_has ls 6 [(2, .int (nI i101)), (0, .ref o0), (1, .int p0)] → W p l e (headSpec w_s_chooseZ ({ frames := 6, cells := 0, slots := 0, locals := 134 })).room s m #[.ref o0, .int p0] below meth c H locs 0 0 (MQ below (va_Qi (fun (r : Int32) (u : (Nat → Int32) × (Nat → Int32)) => match u with | (vH1, vR1) => ((zHb vH1 sn.toInt ∧ ((1 ≤ p0.toInt ∧ p0.toInt ≤ 60) ∧ 0 < fm.toInt ∧ zNO (zLs vG vA vD vC vU vI vM vW) A9 sn.toInt)) ∨ ((vH = vH1 ∧ vR = vR1) ∧ ¬ ((1 ≤ p0.toInt ∧ p0.toInt ≤ 60) ∧ 0 < fm.toInt ∧ zNO (zLs vG vA vD vC vU vI vM vW) A9 sn.toInt)))) (fun (u : (Nat → Int32) × (Nat → Int32)) (t : State) => match u with | (vH1, vR1) => gH (dC, dI) kA (SHm q (wP wZ wN wH wB wC wL wK wU wV) PI im PM PT lS lB lE lN) G t.heap ∧ gF (dC, dI) SKm G ([(0, 0), (30, 0), (31, 0), (39, 0), (47, 0), (51, 0), (52, 0)] : List (Nat × Nat)) s.heap t.heap ∧ ct t.heap (q 38) 60 vH1 ∧ ct t.heap (q 46) 30 vR1) A) #[.ref o0, .int p0] s 0 0 A) (F0 m 32 ls []) := by
      intro n831
      induction n831 with
      | zero =>
        intro i101 hn831 hlo832 V118 ⟨hj122, hj123⟩ H locs hT hF hS m102 m103 m104 m105 m106 m107 m108 m109 m110 m111 m112 m113 m114 m115 m116 m117 m119 m120 m121 ls hl
        obtain rfl : 60 = i101 := by omega
        refine lv_iload_n hx hb dX12_choose_32 rfl (lv_at hl 0 rfl) ?_
        refine lv_aload_n hx hb dX12_choose_33 rfl (lv_at hl 1 rfl) ?_
        refine tw_getM (v := .int sn) hx hb hts bF_X12 hown hK hT hr_o0 shm_0 rfl 42 (by decide) (ht_at hts 9 rfl) (fun _ h9 => h9) m120 dX12_choose_34 ?_
        refine lv_icmp_ge (tgt := 90) hx hb dX12_choose_37 (by decide) (fun c833 => ?_) (fun c833 => (by exfalso; have q9 : ((60 : Nat) : Int) < sn.toInt := ti_nle c833 rfl (nI_toInt (by omega)); omega))
        have t834 : sn.toInt ≤ ((60 : Nat) : Int) := ti_le c833 rfl (nI_toInt (by omega))
        refine lv_iconst (v := 0) hx hb dX12_choose_90 (by decide) ?_
        refine lv_istore_n (lv' := [(2, .int 0), (0, .ref o0), (1, .int p0)]) hx hb dX12_choose_91 rfl hl (by decide) rfl (fun ls hl => ?_)
        refine lv_iconst (v := 0) hx hb dX12_choose_92 (by decide) ?_
        refine lv_istore_n (lv' := [(3, .int 0), (2, .int 0), (0, .ref o0), (1, .int p0)]) hx hb dX12_choose_93 rfl hl (by decide) rfl (fun ls hl => ?_)
        have key1110 : ∀ (n1110 i835 : Nat), i835 + n1110 = 60 → 0 ≤ i835 → ∀ (z836 : Int32), ∀ (V837 : Nat → Int32), ∀ (V839 : Nat → Int32), ∀ (V855 : Nat → Int32), (((((i835 : Nat) : Int) = 0 ∧ vH = V837 ∧ vR = V839 ∧ zPo (zLs vG vA vD vC vU vI vM vW) A9 V855 sn.toNatClampNeg) ∨ (1 ≤ ((i835 : Nat) : Int) ∧ zHb V837 sn.toInt ∧ 0 < fm.toInt ∧ zNO (zLs vG vA vD vC vU vI vM vW) A9 sn.toInt))) → ∀ (H : Heap) (locs : List Loc), gH (dC, dI) kA (SHm q (wP wZ wN wH wB wC wL wK wU wV) PI im PM PT lS lB lE lN) G H → gF (dC, dI) SKm G ([(0, 0), (30, 0), (31, 0), (39, 0), (47, 0), (51, 0), (52, 0)] : List (Nat × Nat)) s.heap H → va_S A s.heap H locs → ct H (q 38) 60 V837 → ct H (q 46) 30 V839 → ct H (q 39) 60 vG → ct H (q 31) 60 vA → ct H (q 32) 60 vD → ct H (q 33) 60 vC → ct H (q 34) 60 vU → ct H (q 35) 60 vI → ct H (q 36) 60 vM → ct H (q 40) 60 vW → ct H (q 19) 60 vO → ct H (q 24) 60 vB → ct H (q 25) 60 vX → ct H (q 26) 1200 vS → ct H (q 27) 1200 vN → ct H (q 18) 3 vL → ct H (q 51) 60 V855 → el H o0 (dI 15 42) = some (.int sn) → el H o0 (dI 15 47) = some (.int fm) → ∀ ls : Array Slot, lv_has ls 6 [(3, .int (nI i835)), (2, .int z836), (0, .ref o0), (1, .int p0)] → W p l e (headSpec w_s_chooseZ ({ frames := 6, cells := 0, slots := 0, locals := 134 })).room s m #[.ref o0, .int p0] below meth c H locs 0 0 (MQ below (va_Qi (fun (r : Int32) (u : (Nat → Int32) × (Nat → Int32)) => match u with | (vH1, vR1) => ((zHb vH1 sn.toInt ∧ ((1 ≤ p0.toInt ∧ p0.toInt ≤ 60) ∧ 0 < fm.toInt ∧ zNO (zLs vG vA vD vC vU vI vM vW) A9 sn.toInt)) ∨ ((vH = vH1 ∧ vR = vR1) ∧ ¬ ((1 ≤ p0.toInt ∧ p0.toInt ≤ 60) ∧ 0 < fm.toInt ∧ zNO (zLs vG vA vD vC vU vI vM vW) A9 sn.toInt)))) (fun (u : (Nat → Int32) × (Nat → Int32)) (t : State) => match u with | (vH1, vR1) => gH (dC, dI) kA (SHm q (wP wZ wN wH wB wC wL wK wU wV) PI im PM PT lS lB lE lN) G t.heap ∧ gF (dC, dI) SKm G ([(0, 0), (30, 0), (31, 0), (39, 0), (47, 0), (51, 0), (52, 0)] : List (Nat × Nat)) s.heap t.heap ∧ ct t.heap (q 38) 60 vH1 ∧ ct t.heap (q 46) 30 vR1) A) #[.ref o0, .int p0] s 0 0 A) (F0 m 94 ls []) := by
          intro n1110
          induction n1110 with
          | zero =>
            intro i835 hn1110 hlo1111 z836 V837 V839 V855 hj859 H locs hT hF hS m838 m840 m841 m842 m843 m844 m845 m846 m847 m848 m849 m850 m851 m852 m853 m854 m856 m857 m858 ls hl
            obtain rfl : 60 = i835 := by omega
            refine lv_iload_n hx hb dX12_choose_94 rfl (lv_at hl 0 rfl) ?_
            refine lv_iload_n hx hb dX12_choose_95 rfl (lv_at hl 3 rfl) ?_
            refine lv_icmp_ge (tgt := 158) hx hb dX12_choose_96 (by decide) (fun c1112 => ?_) (fun c1112 => (by exfalso; have q9 : ((60 : Nat) : Int) < p0.toInt := ti_nle c1112 rfl (nI_toInt (by omega)); omega))
            have t1113 : p0.toInt ≤ ((60 : Nat) : Int) := ti_le c1112 rfl (nI_toInt (by omega))
            refine lv_iload_n hx hb dX12_choose_158 rfl (lv_at hl 1 rfl) ?_
            exact W.iret (v := z836) hx hb hr (fun t ht hW => ⟨⟨z836, (V837, V839), rfl, (by exact (by rcases hj859 with ⟨h8, h7, h6, h5⟩ | ⟨h8, h7, h6, h5⟩; (exact Or.inr ⟨⟨h7, h6⟩, fun h4 => by have := h4.1; omega⟩); exact Or.inl ⟨h7, ⟨by omega, by omega⟩, h6, h5⟩)), by (try dsimp only); rw [ht]; exact ⟨hT, hF, m838, m840⟩⟩, hS.F ht⟩) hS.2.2 dX12_choose_159
          | succ n1110 ih1110 =>
            intro i835 hn1110 hlo1111 z836 V837 V839 V855 hj859 H locs hT hF hS m838 m840 m841 m842 m843 m844 m845 m846 m847 m848 m849 m850 m851 m852 m853 m854 m856 m857 m858 ls hl
            have hlt1113 : i835 < 60 := by omega
            refine lv_iload_n hx hb dX12_choose_94 rfl (lv_at hl 0 rfl) ?_
            refine lv_iload_n hx hb dX12_choose_95 rfl (lv_at hl 3 rfl) ?_
            refine lv_icmp_ge (tgt := 158) hx hb dX12_choose_96 (by decide) (fun c1114 => ?_) (fun c1114 => ?_)
            · have t1115 : p0.toInt ≤ ((i835 : Nat) : Int) := ti_le c1114 rfl (nI_toInt (by omega))
              refine lv_iload_n hx hb dX12_choose_158 rfl (lv_at hl 1 rfl) ?_
              exact W.iret (v := z836) hx hb hr (fun t ht hW => ⟨⟨z836, (V837, V839), rfl, (by exact (by rcases hj859 with ⟨h8, h7, h6, h5⟩ | ⟨h8, h7, h6, h5⟩; (exact Or.inr ⟨⟨h7, h6⟩, fun h4 => by have := h4.1; omega⟩); exact Or.inl ⟨h7, ⟨by omega, by omega⟩, h6, h5⟩)), by (try dsimp only); rw [ht]; exact ⟨hT, hF, m838, m840⟩⟩, hS.F ht⟩) hS.2.2 dX12_choose_159
            · have t1116 : ((i835 : Nat) : Int) < p0.toInt := ti_nle c1114 rfl (nI_toInt (by omega))
              rcases hj859 with ⟨ha1118, rfl, rfl, hpo1119⟩ | ⟨hb1122, hzb1123, hfm1124, hno1125⟩
              · refine lv_aload_n hx hb dX12_choose_99 rfl (lv_at hl 2 rfl) ?_
                have hFc := gA_free hG hA hS
                refine va_calli (va_runV (As := []) (rest := []) ⟨hx, hb, hml, hown, hts⟩ (s_nextOneZ l dC dI kA adK adV G H q wZ wN wH wB wC wL wK wU wV PI im PM PT lS lB lE lN o0 sn V855 hT hr_o0 m857 (by have q8 := ti_all sn; omega) m856 hgz hgn hgh hgb hgc hgi hgu) (cwV 0 hts (goodIn_app (goodIn_r _ [15, 16, 17, 5] rfl (by decide +kernel)) (goodIn_ca (goodIn_r _ [11, 10, 12, 13, 14] rfl (by decide +kernel)) (bs_in _ _))) rfl rfl rfl (by decide +kernel) ⟨(Nat.le_of_ble_eq_true rfl), (Nat.le_of_ble_eq_true rfl)⟩) ⟨fun a U g mk q => by obtain ⟨q0, q1, qK, qE⟩ := q; exact ⟨q0, q1, va_K.moved (u := U) (U := U.calling g mk a) (Vm.Alike.refl U.vm) qK, EVS.blind g mk a qE⟩, gH_rc hK hT hr_o0 shm_0 rfl, fun U hU hW => ⟨rfl, hU, va_K.moved hW.alike hK, hE.call hS hFc hU hW⟩⟩ rfl rfl hl.1 rfl (lv_room (Nat.le_of_ble_eq_true rfl)) dX12_choose_100 ⟨(Nat.le_of_ble_eq_true rfl), (Nat.le_of_ble_eq_true rfl)⟩) hS (fun q _ h => hFc q h) hFc (fun r1126 u t H locs ht hvm hw1127 hB _ _ hS => ?_)
                obtain ⟨hT, hF1⟩ := hB
                rw [ht] at hT hF1
                have m1128 := m838.kept (hF1.arr hg1 skm_39 (by decide))
                have m1129 := m840.kept (hF1.arr hg2 skm_47 (by decide))
                have m1130 := m841.kept (hF1.arr hg3 skm_40 (by decide))
                have m1131 := m842.kept (hF1.arr hg4 skm_32 (by decide))
                have m1132 := m843.kept (hF1.arr hg5 skm_33 (by decide))
                have m1133 := m844.kept (hF1.arr hg6 skm_34 (by decide))
                have m1134 := m845.kept (hF1.arr hg7 skm_35 (by decide))
                have m1135 := m846.kept (hF1.arr hg8 skm_36 (by decide))
                have m1136 := m847.kept (hF1.arr hg9 skm_37 (by decide))
                have m1137 := m848.kept (hF1.arr hg10 skm_41 (by decide))
                have m1138 := m849.kept (hF1.arr hg13 skm_20 (by decide))
                have m1139 := m850.kept (hF1.arr hg14 skm_25 (by decide))
                have m1140 := m851.kept (hF1.arr hg15 skm_26 (by decide))
                have m1141 := m852.kept (hF1.arr hg16 skm_27 (by decide))
                have m1142 := m853.kept (hF1.arr hg17 skm_28 (by decide))
                have m1143 := m854.kept (hF1.arr hg18 skm_19 (by decide))
                have m1144 := m856.kept (hF1.arr hg19 skm_52 (by decide))
                have m1145 := (hF1.fld hr_o0 skm_0 (k := 42) (by decide) (by decide)).trans m857
                have m1146 := (hF1.fld hr_o0 skm_0 (k := 47) (by decide) (by decide)).trans m858
                have hF := hF.more hF1 (by decide)
                try dsimp only at hw1127
                obtain ⟨h1147, hf1148⟩ := hw1127
                refine lv_istore (lv' := [(4, .int r1126), (3, .int (nI i835)), (2, .int z836), (0, .ref o0), (1, .int p0)]) hx hb dX12_choose_103 hl (by decide) rfl (fun ls hl => ?_)
                refine lv_aload_n hx hb dX12_choose_105 rfl (lv_at hl 3 rfl) ?_
                have hFc := gA_free hG hA hS
                refine va_calli (va_runV (As := []) (rest := []) ⟨hx, hb, hml, hown, hts⟩ (s_bestFarmZ l dC dI kA adK adV G H q wZ wN wH wB wC wL wK wU wV PI im PM PT lS lB lE lN o0 fm vR hT hr_o0 m1146 (by have q8 := ti_all fm; omega) hnh m1129 hgz hgn hgh hgb hgc hgi hgu) (cwV 0 hts (goodIn_app (goodIn_r _ [38, 39, 40, 5] rfl (by decide +kernel)) (goodIn_ca (goodIn_r _ [18, 19, 20, 21, 22, 23, 24, 25, 26, 27, 28, 29, 30, 31, 2, 3, 4, 5, 32, 33, 34, 35, 36, 37] rfl (by decide +kernel)) (bs_in _ _))) rfl rfl rfl (by decide +kernel) ⟨(Nat.le_of_ble_eq_true rfl), (Nat.le_of_ble_eq_true rfl)⟩) ⟨fun a U g mk q => by obtain ⟨q0, q1, qK, qE⟩ := q; exact ⟨q0, q1, va_K.moved (u := U) (U := U.calling g mk a) (Vm.Alike.refl U.vm) qK, EVS.blind g mk a qE⟩, gH_rc hK hT hr_o0 shm_0 rfl, fun U hU hW => ⟨rfl, hU, va_K.moved hW.alike hK, hE.call hS hFc hU hW⟩⟩ rfl rfl hl.1 rfl (lv_room (Nat.le_of_ble_eq_true rfl)) dX12_choose_106 ⟨(Nat.le_of_ble_eq_true rfl), (Nat.le_of_ble_eq_true rfl)⟩) hS (fun q _ h => hFc q h) hFc (fun r1149 u t H locs ht hvm hw1150 hB _ _ hS => ?_)
                obtain ⟨hT, hF1⟩ := hB
                rw [ht] at hT hF1
                have m1151 := m1128.kept (hF1.arr hg1 skm_39 (by decide))
                have m1152 := m1129.kept (hF1.arr hg2 skm_47 (by decide))
                have m1153 := m1130.kept (hF1.arr hg3 skm_40 (by decide))
                have m1154 := m1131.kept (hF1.arr hg4 skm_32 (by decide))
                have m1155 := m1132.kept (hF1.arr hg5 skm_33 (by decide))
                have m1156 := m1133.kept (hF1.arr hg6 skm_34 (by decide))
                have m1157 := m1134.kept (hF1.arr hg7 skm_35 (by decide))
                have m1158 := m1135.kept (hF1.arr hg8 skm_36 (by decide))
                have m1159 := m1136.kept (hF1.arr hg9 skm_37 (by decide))
                have m1160 := m1137.kept (hF1.arr hg10 skm_41 (by decide))
                have m1161 := m1138.kept (hF1.arr hg13 skm_20 (by decide))
                have m1162 := m1139.kept (hF1.arr hg14 skm_25 (by decide))
                have m1163 := m1140.kept (hF1.arr hg15 skm_26 (by decide))
                have m1164 := m1141.kept (hF1.arr hg16 skm_27 (by decide))
                have m1165 := m1142.kept (hF1.arr hg17 skm_28 (by decide))
                have m1166 := m1143.kept (hF1.arr hg18 skm_19 (by decide))
                have m1167 := m1144.kept (hF1.arr hg19 skm_52 (by decide))
                have m1168 := (hF1.fld hr_o0 skm_0 (k := 42) (by decide) (by decide)).trans m1145
                have m1169 := (hF1.fld hr_o0 skm_0 (k := 47) (by decide) (by decide)).trans m1146
                have hF := hF.more hF1 (by decide)
                try dsimp only at hw1150
                obtain ⟨h1170, hf1171⟩ := hw1150
                refine lv_istore (lv' := [(5, .int r1149), (4, .int r1126), (3, .int (nI i835)), (2, .int z836), (0, .ref o0), (1, .int p0)]) hx hb dX12_choose_109 hl (by decide) rfl (fun ls hl => ?_)
                refine lv_iload hx hb dX12_choose_111 (lv_at hl 1 rfl) ?_
                refine lv_if_lt (tgt := 121) hx hb dX12_choose_113 (by decide) (fun c1172 => ?_) (fun c1172 => ?_)
                · have t1173 : r1126.toInt < 0 := ti_lt c1172 rfl (by decide)
                  refine lv_iload_n hx hb dX12_choose_121 rfl (lv_at hl 3 rfl) ?_
                  exact W.iret (v := z836) hx hb hr (fun t ht hW => ⟨⟨z836, (vH, vR), rfl, (by exact (Or.inr ⟨⟨rfl, rfl⟩, fun h8 => by have := h8.2.1; have n9 := h8.2.2; rcases hf1148 with ⟨h7, h6⟩ | ⟨h7, h6, h5⟩; (exact (hpo1119.no (by have := tn_of (show sn.toInt = sn.toInt from rfl) (by omega); omega) h6) n9); omega⟩)), by (try dsimp only); rw [ht]; exact ⟨hT, hF, m1151, m1152⟩⟩, hS.F ht⟩) hS.2.2 dX12_choose_122
                · have t1174 : 0 ≤ r1126.toInt := ti_nlt c1172 rfl (by decide)
                  refine lv_iload hx hb dX12_choose_116 (lv_at hl 0 rfl) ?_
                  refine lv_if_ge (tgt := 123) hx hb dX12_choose_118 (by decide) (fun c1175 => ?_) (fun c1175 => ?_)
                  · have t1176 : 0 ≤ r1149.toInt := ti_le c1175 (by decide) rfl
                    refine lv_aload_n hx hb dX12_choose_123 rfl (lv_at hl 4 rfl) ?_
                    refine tw_get hx hb hts bF_X12 hown hK hT hr_o0 shm_0 rfl 51 (by decide) (ht_at hts 11 rfl) (fun _ h9 => h9) dX12_choose_124 (fun v9 m1177 h9 => ?_)
                    obtain ⟨rfl, hg1178⟩ := h9 _ rfl
                    refine lv_iload hx hb dX12_choose_127 (lv_at hl 1 rfl) ?_
                    refine lv_iconst (v := 0) hx hb dX12_choose_129 (by decide) ?_
                    refine tw_zast (i := r1126) (x := 0) hx hb hK hT hG hS hg19 shm_52 rfl (vin_t (a := r1126.toInt) rfl (by omega) (by omega)) (gi_z (rg_t (a := 0) (by decide) (by first | decide | omega) (by first | decide | omega)) (by decide) (by decide)) dX12_choose_130 (fun H locs hT oq m1179 oi hS => ?_)
                    have hF := hF.ast hg19 skm_52 oq (by decide)
                    have m1180 := m1151.kept (oq _ (gne hg1 hg19 (by decide)))
                    have m1181 := m1152.kept (oq _ (gne hg2 hg19 (by decide)))
                    have m1182 := m1153.kept (oq _ (gne hg3 hg19 (by decide)))
                    have m1183 := m1154.kept (oq _ (gne hg4 hg19 (by decide)))
                    have m1184 := m1155.kept (oq _ (gne hg5 hg19 (by decide)))
                    have m1185 := m1156.kept (oq _ (gne hg6 hg19 (by decide)))
                    have m1186 := m1157.kept (oq _ (gne hg7 hg19 (by decide)))
                    have m1187 := m1158.kept (oq _ (gne hg8 hg19 (by decide)))
                    have m1188 := m1159.kept (oq _ (gne hg9 hg19 (by decide)))
                    have m1189 := m1160.kept (oq _ (gne hg10 hg19 (by decide)))
                    have m1190 := m1161.kept (oq _ (gne hg13 hg19 (by decide)))
                    have m1191 := m1162.kept (oq _ (gne hg14 hg19 (by decide)))
                    have m1192 := m1163.kept (oq _ (gne hg15 hg19 (by decide)))
                    have m1193 := m1164.kept (oq _ (gne hg16 hg19 (by decide)))
                    have m1194 := m1165.kept (oq _ (gne hg17 hg19 (by decide)))
                    have m1195 := m1166.kept (oq _ (gne hg18 hg19 (by decide)))
                    have m1196 := m1167.put (show el H (q 51) _ = some (.int 0) from m1179) oi
                    have m1197 := (el_kept (oq _ (gne hr_o0 hg19 (by decide)))).trans m1168
                    have m1198 := (el_kept (oq _ (gne hr_o0 hg19 (by decide)))).trans m1169
                    refine lv_aload_n hx hb dX12_choose_131 rfl (lv_at hl 4 rfl) ?_
                    refine tw_get hx hb hts bF_X12 hown hK hT hr_o0 shm_0 rfl 38 (by decide) (ht_at hts 40 rfl) (fun _ h9 => h9) dX12_choose_132 (fun v9 m1199 h9 => ?_)
                    obtain ⟨rfl, hg1200⟩ := h9 _ rfl
                    refine lv_iload hx hb dX12_choose_135 (lv_at hl 1 rfl) ?_
                    refine lv_iload hx hb dX12_choose_137 (lv_at hl 0 rfl) ?_
                    refine tw_iast (i := r1126) (x := r1149) hx hb hK hT hG hS hg1 shm_39 rfl (vin_t (a := r1126.toInt) rfl (by omega) (by omega)) (gi_of (show r1149.toInt = r1149.toInt from rfl) (by omega) (by omega)) dX12_choose_139 (fun H locs hT oq m1201 oi hS => ?_)
                    have hF := hF.ast hg1 skm_39 oq (by decide)
                    have m1202 := m1180.put m1201 oi
                    have m1203 := m1181.kept (oq _ (gne hg2 hg1 (by decide)))
                    have m1204 := m1182.kept (oq _ (gne hg3 hg1 (by decide)))
                    have m1205 := m1183.kept (oq _ (gne hg4 hg1 (by decide)))
                    have m1206 := m1184.kept (oq _ (gne hg5 hg1 (by decide)))
                    have m1207 := m1185.kept (oq _ (gne hg6 hg1 (by decide)))
                    have m1208 := m1186.kept (oq _ (gne hg7 hg1 (by decide)))
                    have m1209 := m1187.kept (oq _ (gne hg8 hg1 (by decide)))
                    have m1210 := m1188.kept (oq _ (gne hg9 hg1 (by decide)))
                    have m1211 := m1189.kept (oq _ (gne hg10 hg1 (by decide)))
                    have m1212 := m1190.kept (oq _ (gne hg13 hg1 (by decide)))
                    have m1213 := m1191.kept (oq _ (gne hg14 hg1 (by decide)))
                    have m1214 := m1192.kept (oq _ (gne hg15 hg1 (by decide)))
                    have m1215 := m1193.kept (oq _ (gne hg16 hg1 (by decide)))
                    have m1216 := m1194.kept (oq _ (gne hg17 hg1 (by decide)))
                    have m1217 := m1195.kept (oq _ (gne hg18 hg1 (by decide)))
                    have m1218 := m1196.kept (oq _ (gne hg19 hg1 (by decide)))
                    have m1219 := (el_kept (oq _ (gne hr_o0 hg1 (by decide)))).trans m1197
                    have m1220 := (el_kept (oq _ (gne hr_o0 hg1 (by decide)))).trans m1198
                    refine lv_aload_n hx hb dX12_choose_140 rfl (lv_at hl 4 rfl) ?_
                    refine tw_get hx hb hts bF_X12 hown hK hT hr_o0 shm_0 rfl 46 (by decide) (ht_at hts 19 rfl) (fun _ h9 => h9) dX12_choose_141 (fun v9 m1221 h9 => ?_)
                    obtain ⟨rfl, hg1222⟩ := h9 _ rfl
                    refine lv_iload hx hb dX12_choose_144 (lv_at hl 0 rfl) ?_
                    refine lv_iload hx hb dX12_choose_146 (lv_at hl 1 rfl) ?_
                    refine tw_iast (i := r1149) (x := r1126) hx hb hK hT hG hS hg2 shm_47 rfl (vin_t (a := r1149.toInt) rfl (by omega) (by omega)) (gi_of (show r1126.toInt = r1126.toInt from rfl) (by omega) (by omega)) dX12_choose_148 (fun H locs hT oq m1223 oi hS => ?_)
                    have hF := hF.ast hg2 skm_47 oq (by decide)
                    have m1224 := m1202.kept (oq _ (gne hg1 hg2 (by decide)))
                    have m1225 := m1203.put m1223 oi
                    have m1226 := m1204.kept (oq _ (gne hg3 hg2 (by decide)))
                    have m1227 := m1205.kept (oq _ (gne hg4 hg2 (by decide)))
                    have m1228 := m1206.kept (oq _ (gne hg5 hg2 (by decide)))
                    have m1229 := m1207.kept (oq _ (gne hg6 hg2 (by decide)))
                    have m1230 := m1208.kept (oq _ (gne hg7 hg2 (by decide)))
                    have m1231 := m1209.kept (oq _ (gne hg8 hg2 (by decide)))
                    have m1232 := m1210.kept (oq _ (gne hg9 hg2 (by decide)))
                    have m1233 := m1211.kept (oq _ (gne hg10 hg2 (by decide)))
                    have m1234 := m1212.kept (oq _ (gne hg13 hg2 (by decide)))
                    have m1235 := m1213.kept (oq _ (gne hg14 hg2 (by decide)))
                    have m1236 := m1214.kept (oq _ (gne hg15 hg2 (by decide)))
                    have m1237 := m1215.kept (oq _ (gne hg16 hg2 (by decide)))
                    have m1238 := m1216.kept (oq _ (gne hg17 hg2 (by decide)))
                    have m1239 := m1217.kept (oq _ (gne hg18 hg2 (by decide)))
                    have m1240 := m1218.kept (oq _ (gne hg19 hg2 (by decide)))
                    have m1241 := (el_kept (oq _ (gne hr_o0 hg2 (by decide)))).trans m1219
                    have m1242 := (el_kept (oq _ (gne hr_o0 hg2 (by decide)))).trans m1220
                    have m1243 := (el_kept (oq _ (gne hg1 hg2 (by decide)))).trans m1201
                    obtain ⟨x1244, ex1244⟩ : ∃ y : Int32, y = z836 + 1 := ⟨_, rfl⟩
                    refine lv_iinc (v := x1244) (lv' := [(2, .int x1244), (5, .int r1149), (4, .int r1126), (3, .int (nI i835)), (0, .ref o0), (1, .int p0)]) hx hb dX12_choose_149 hl (k := 3) rfl (by first | (rw [ex1244]; done) | (rw [ex1244]; rfl)) (by decide) rfl (fun ls hl => ?_)
                    refine lv_iinc (v := nI (i835 + 1)) (lv' := [(3, .int (nI (i835 + 1))), (2, .int x1244), (5, .int r1149), (4, .int r1126), (0, .ref o0), (1, .int p0)]) hx hb dX12_choose_152 hl (k := 3) rfl (nI_add i835 1) (by decide) rfl (fun ls hl => ?_)
                    refine lv_goto (tgt := 94) hx hb dX12_choose_155 (by decide) ?_
                    exact ih1110 (i835 + 1) (by omega) (by omega) x1244 (cu vH r1126.toNatClampNeg r1149) (cu vR r1149.toNatClampNeg r1126) (cu V855 r1126.toNatClampNeg (0 : Int32)) (Or.inr ⟨by omega, zHb_at (by have := tn_of (show r1126.toInt = r1126.toInt from rfl) (by omega); omega) (by have := (show r1149.toInt = r1149.toInt from rfl); omega), by omega, hpo1119.yes (by have := tn_of (show sn.toInt = sn.toInt from rfl) (by omega); omega) ((hf1148.resolve_left (fun h8 => by have := h8.1; omega)).2.2)⟩) _ _ hT hF hS m1224 m1225 m1226 m1227 m1228 m1229 m1230 m1231 m1232 m1233 m1234 m1235 m1236 m1237 m1238 m1239 m1240 m1241 m1242 ls (lv_sub hl [0, 1, 4, 5] rfl)
                  · have t1245 : r1149.toInt < 0 := ti_nle c1175 (by decide) rfl
                    refine lv_iload_n hx hb dX12_choose_121 rfl (lv_at hl 3 rfl) ?_
                    exact W.iret (v := z836) hx hb hr (fun t ht hW => ⟨⟨z836, (vH, vR), rfl, (by exact (Or.inr ⟨⟨rfl, rfl⟩, fun h8 => by have := h8.2.1; have n9 := h8.2.2; rcases hf1148 with ⟨h7, h6⟩ | ⟨h7, h6, h5⟩; (exact (hpo1119.no (by have := tn_of (show sn.toInt = sn.toInt from rfl) (by omega); omega) h6) n9); omega⟩)), by (try dsimp only); rw [ht]; exact ⟨hT, hF, m1151, m1152⟩⟩, hS.F ht⟩) hS.2.2 dX12_choose_122
              · refine lv_aload_n hx hb dX12_choose_99 rfl (lv_at hl 2 rfl) ?_
                have hFc := gA_free hG hA hS
                refine va_calli (va_runV (As := []) (rest := []) ⟨hx, hb, hml, hown, hts⟩ (s_nextOne l dC dI kA adK adV G H q wZ wN wH wB wC wL wK wU wV PI im PM PT lS lB lE lN o0 hT hr_o0 hgz hgn hgh hgb hgc hgi hgu) (cwV 0 hts (goodIn_app (goodIn_r _ [15, 16, 17, 5] rfl (by decide +kernel)) (goodIn_ca (goodIn_r _ [11, 10, 12, 13, 14] rfl (by decide +kernel)) (bs_in _ _))) rfl rfl rfl (by decide +kernel) ⟨(Nat.le_of_ble_eq_true rfl), (Nat.le_of_ble_eq_true rfl)⟩) ⟨fun a U g mk q => by obtain ⟨q0, q1, qK, qE⟩ := q; exact ⟨q0, q1, va_K.moved (u := U) (U := U.calling g mk a) (Vm.Alike.refl U.vm) qK, EVS.blind g mk a qE⟩, gH_rc hK hT hr_o0 shm_0 rfl, fun U hU hW => ⟨rfl, hU, va_K.moved hW.alike hK, hE.call hS hFc hU hW⟩⟩ rfl rfl hl.1 rfl (lv_room (Nat.le_of_ble_eq_true rfl)) dX12_choose_100 ⟨(Nat.le_of_ble_eq_true rfl), (Nat.le_of_ble_eq_true rfl)⟩) hS (fun q _ h => hFc q h) hFc (fun r1246 u t H locs ht hvm hw1247 hB _ _ hS => ?_)
                obtain ⟨hT, hF1⟩ := hB
                rw [ht] at hT hF1
                have m1248 := m838.kept (hF1.arr hg1 skm_39 (by decide))
                have m1249 := m840.kept (hF1.arr hg2 skm_47 (by decide))
                have m1250 := m841.kept (hF1.arr hg3 skm_40 (by decide))
                have m1251 := m842.kept (hF1.arr hg4 skm_32 (by decide))
                have m1252 := m843.kept (hF1.arr hg5 skm_33 (by decide))
                have m1253 := m844.kept (hF1.arr hg6 skm_34 (by decide))
                have m1254 := m845.kept (hF1.arr hg7 skm_35 (by decide))
                have m1255 := m846.kept (hF1.arr hg8 skm_36 (by decide))
                have m1256 := m847.kept (hF1.arr hg9 skm_37 (by decide))
                have m1257 := m848.kept (hF1.arr hg10 skm_41 (by decide))
                have m1258 := m849.kept (hF1.arr hg13 skm_20 (by decide))
                have m1259 := m850.kept (hF1.arr hg14 skm_25 (by decide))
                have m1260 := m851.kept (hF1.arr hg15 skm_26 (by decide))
                have m1261 := m852.kept (hF1.arr hg16 skm_27 (by decide))
                have m1262 := m853.kept (hF1.arr hg17 skm_28 (by decide))
                have m1263 := m854.kept (hF1.arr hg18 skm_19 (by decide))
                have m1264 := m856.kept (hF1.arr hg19 skm_52 (by decide))
                have m1265 := (hF1.fld hr_o0 skm_0 (k := 42) (by decide) (by decide)).trans m857
                have m1266 := (hF1.fld hr_o0 skm_0 (k := 47) (by decide) (by decide)).trans m858
                have hF := hF.more hF1 (by decide)
                try dsimp only at hw1247
                have h1267 := hw1247
                refine lv_istore (lv' := [(4, .int r1246), (3, .int (nI i835)), (2, .int z836), (0, .ref o0), (1, .int p0)]) hx hb dX12_choose_103 hl (by decide) rfl (fun ls hl => ?_)
                refine lv_aload_n hx hb dX12_choose_105 rfl (lv_at hl 3 rfl) ?_
                have hFc := gA_free hG hA hS
                refine va_calli (va_runV (As := []) (rest := []) ⟨hx, hb, hml, hown, hts⟩ (s_bestFarm l dC dI kA adK adV G H q wZ wN wH wB wC wL wK wU wV PI im PM PT lS lB lE lN o0 hT hr_o0 hgz hgn hgh hgb hgc hgi hgu) (cwV 0 hts (goodIn_app (goodIn_r _ [38, 39, 40, 5] rfl (by decide +kernel)) (goodIn_ca (goodIn_r _ [18, 19, 20, 21, 22, 23, 24, 25, 26, 27, 28, 29, 30, 31, 2, 3, 4, 5, 32, 33, 34, 35, 36, 37] rfl (by decide +kernel)) (bs_in _ _))) rfl rfl rfl (by decide +kernel) ⟨(Nat.le_of_ble_eq_true rfl), (Nat.le_of_ble_eq_true rfl)⟩) ⟨fun a U g mk q => by obtain ⟨q0, q1, qK, qE⟩ := q; exact ⟨q0, q1, va_K.moved (u := U) (U := U.calling g mk a) (Vm.Alike.refl U.vm) qK, EVS.blind g mk a qE⟩, gH_rc hK hT hr_o0 shm_0 rfl, fun U hU hW => ⟨rfl, hU, va_K.moved hW.alike hK, hE.call hS hFc hU hW⟩⟩ rfl rfl hl.1 rfl (lv_room (Nat.le_of_ble_eq_true rfl)) dX12_choose_106 ⟨(Nat.le_of_ble_eq_true rfl), (Nat.le_of_ble_eq_true rfl)⟩) hS (fun q _ h => hFc q h) hFc (fun r1268 u t H locs ht hvm hw1269 hB _ _ hS => ?_)
                obtain ⟨hT, hF1⟩ := hB
                rw [ht] at hT hF1
                have m1270 := m1248.kept (hF1.arr hg1 skm_39 (by decide))
                have m1271 := m1249.kept (hF1.arr hg2 skm_47 (by decide))
                have m1272 := m1250.kept (hF1.arr hg3 skm_40 (by decide))
                have m1273 := m1251.kept (hF1.arr hg4 skm_32 (by decide))
                have m1274 := m1252.kept (hF1.arr hg5 skm_33 (by decide))
                have m1275 := m1253.kept (hF1.arr hg6 skm_34 (by decide))
                have m1276 := m1254.kept (hF1.arr hg7 skm_35 (by decide))
                have m1277 := m1255.kept (hF1.arr hg8 skm_36 (by decide))
                have m1278 := m1256.kept (hF1.arr hg9 skm_37 (by decide))
                have m1279 := m1257.kept (hF1.arr hg10 skm_41 (by decide))
                have m1280 := m1258.kept (hF1.arr hg13 skm_20 (by decide))
                have m1281 := m1259.kept (hF1.arr hg14 skm_25 (by decide))
                have m1282 := m1260.kept (hF1.arr hg15 skm_26 (by decide))
                have m1283 := m1261.kept (hF1.arr hg16 skm_27 (by decide))
                have m1284 := m1262.kept (hF1.arr hg17 skm_28 (by decide))
                have m1285 := m1263.kept (hF1.arr hg18 skm_19 (by decide))
                have m1286 := m1264.kept (hF1.arr hg19 skm_52 (by decide))
                have m1287 := (hF1.fld hr_o0 skm_0 (k := 42) (by decide) (by decide)).trans m1265
                have m1288 := (hF1.fld hr_o0 skm_0 (k := 47) (by decide) (by decide)).trans m1266
                have hF := hF.more hF1 (by decide)
                try dsimp only at hw1269
                have h1289 := hw1269
                refine lv_istore (lv' := [(5, .int r1268), (4, .int r1246), (3, .int (nI i835)), (2, .int z836), (0, .ref o0), (1, .int p0)]) hx hb dX12_choose_109 hl (by decide) rfl (fun ls hl => ?_)
                refine lv_iload hx hb dX12_choose_111 (lv_at hl 1 rfl) ?_
                refine lv_if_lt (tgt := 121) hx hb dX12_choose_113 (by decide) (fun c1290 => ?_) (fun c1290 => ?_)
                · have t1291 : r1246.toInt < 0 := ti_lt c1290 rfl (by decide)
                  refine lv_iload_n hx hb dX12_choose_121 rfl (lv_at hl 3 rfl) ?_
                  exact W.iret (v := z836) hx hb hr (fun t ht hW => ⟨⟨z836, (V837, V839), rfl, (by exact (Or.inl ⟨hzb1123, ⟨by omega, by omega⟩, hfm1124, hno1125⟩)), by (try dsimp only); rw [ht]; exact ⟨hT, hF, m1270, m1271⟩⟩, hS.F ht⟩) hS.2.2 dX12_choose_122
                · have t1292 : 0 ≤ r1246.toInt := ti_nlt c1290 rfl (by decide)
                  refine lv_iload hx hb dX12_choose_116 (lv_at hl 0 rfl) ?_
                  refine lv_if_ge (tgt := 123) hx hb dX12_choose_118 (by decide) (fun c1293 => ?_) (fun c1293 => ?_)
                  · have t1294 : 0 ≤ r1268.toInt := ti_le c1293 (by decide) rfl
                    refine lv_aload_n hx hb dX12_choose_123 rfl (lv_at hl 4 rfl) ?_
                    refine tw_get hx hb hts bF_X12 hown hK hT hr_o0 shm_0 rfl 51 (by decide) (ht_at hts 11 rfl) (fun _ h9 => h9) dX12_choose_124 (fun v9 m1295 h9 => ?_)
                    obtain ⟨rfl, hg1296⟩ := h9 _ rfl
                    refine lv_iload hx hb dX12_choose_127 (lv_at hl 1 rfl) ?_
                    refine lv_iconst (v := 0) hx hb dX12_choose_129 (by decide) ?_
                    refine tw_zast (i := r1246) (x := 0) hx hb hK hT hG hS hg19 shm_52 rfl (vin_t (a := r1246.toInt) rfl (by omega) (by omega)) (gi_z (rg_t (a := 0) (by decide) (by first | decide | omega) (by first | decide | omega)) (by decide) (by decide)) dX12_choose_130 (fun H locs hT oq m1297 oi hS => ?_)
                    have hF := hF.ast hg19 skm_52 oq (by decide)
                    have m1298 := m1270.kept (oq _ (gne hg1 hg19 (by decide)))
                    have m1299 := m1271.kept (oq _ (gne hg2 hg19 (by decide)))
                    have m1300 := m1272.kept (oq _ (gne hg3 hg19 (by decide)))
                    have m1301 := m1273.kept (oq _ (gne hg4 hg19 (by decide)))
                    have m1302 := m1274.kept (oq _ (gne hg5 hg19 (by decide)))
                    have m1303 := m1275.kept (oq _ (gne hg6 hg19 (by decide)))
                    have m1304 := m1276.kept (oq _ (gne hg7 hg19 (by decide)))
                    have m1305 := m1277.kept (oq _ (gne hg8 hg19 (by decide)))
                    have m1306 := m1278.kept (oq _ (gne hg9 hg19 (by decide)))
                    have m1307 := m1279.kept (oq _ (gne hg10 hg19 (by decide)))
                    have m1308 := m1280.kept (oq _ (gne hg13 hg19 (by decide)))
                    have m1309 := m1281.kept (oq _ (gne hg14 hg19 (by decide)))
                    have m1310 := m1282.kept (oq _ (gne hg15 hg19 (by decide)))
                    have m1311 := m1283.kept (oq _ (gne hg16 hg19 (by decide)))
                    have m1312 := m1284.kept (oq _ (gne hg17 hg19 (by decide)))
                    have m1313 := m1285.kept (oq _ (gne hg18 hg19 (by decide)))
                    have m1314 := m1286.put (show el H (q 51) _ = some (.int 0) from m1297) oi
                    have m1315 := (el_kept (oq _ (gne hr_o0 hg19 (by decide)))).trans m1287
                    have m1316 := (el_kept (oq _ (gne hr_o0 hg19 (by decide)))).trans m1288
                    refine lv_aload_n hx hb dX12_choose_131 rfl (lv_at hl 4 rfl) ?_
                    refine tw_get hx hb hts bF_X12 hown hK hT hr_o0 shm_0 rfl 38 (by decide) (ht_at hts 40 rfl) (fun _ h9 => h9) dX12_choose_132 (fun v9 m1317 h9 => ?_)
                    obtain ⟨rfl, hg1318⟩ := h9 _ rfl
                    refine lv_iload hx hb dX12_choose_135 (lv_at hl 1 rfl) ?_
                    refine lv_iload hx hb dX12_choose_137 (lv_at hl 0 rfl) ?_
                    refine tw_iast (i := r1246) (x := r1268) hx hb hK hT hG hS hg1 shm_39 rfl (vin_t (a := r1246.toInt) rfl (by omega) (by omega)) (gi_of (show r1268.toInt = r1268.toInt from rfl) (by omega) (by omega)) dX12_choose_139 (fun H locs hT oq m1319 oi hS => ?_)
                    have hF := hF.ast hg1 skm_39 oq (by decide)
                    have m1320 := m1298.put m1319 oi
                    have m1321 := m1299.kept (oq _ (gne hg2 hg1 (by decide)))
                    have m1322 := m1300.kept (oq _ (gne hg3 hg1 (by decide)))
                    have m1323 := m1301.kept (oq _ (gne hg4 hg1 (by decide)))
                    have m1324 := m1302.kept (oq _ (gne hg5 hg1 (by decide)))
                    have m1325 := m1303.kept (oq _ (gne hg6 hg1 (by decide)))
                    have m1326 := m1304.kept (oq _ (gne hg7 hg1 (by decide)))
                    have m1327 := m1305.kept (oq _ (gne hg8 hg1 (by decide)))
                    have m1328 := m1306.kept (oq _ (gne hg9 hg1 (by decide)))
                    have m1329 := m1307.kept (oq _ (gne hg10 hg1 (by decide)))
                    have m1330 := m1308.kept (oq _ (gne hg13 hg1 (by decide)))
                    have m1331 := m1309.kept (oq _ (gne hg14 hg1 (by decide)))
                    have m1332 := m1310.kept (oq _ (gne hg15 hg1 (by decide)))
                    have m1333 := m1311.kept (oq _ (gne hg16 hg1 (by decide)))
                    have m1334 := m1312.kept (oq _ (gne hg17 hg1 (by decide)))
                    have m1335 := m1313.kept (oq _ (gne hg18 hg1 (by decide)))
                    have m1336 := m1314.kept (oq _ (gne hg19 hg1 (by decide)))
                    have m1337 := (el_kept (oq _ (gne hr_o0 hg1 (by decide)))).trans m1315
                    have m1338 := (el_kept (oq _ (gne hr_o0 hg1 (by decide)))).trans m1316
                    refine lv_aload_n hx hb dX12_choose_140 rfl (lv_at hl 4 rfl) ?_
                    refine tw_get hx hb hts bF_X12 hown hK hT hr_o0 shm_0 rfl 46 (by decide) (ht_at hts 19 rfl) (fun _ h9 => h9) dX12_choose_141 (fun v9 m1339 h9 => ?_)
                    obtain ⟨rfl, hg1340⟩ := h9 _ rfl
                    refine lv_iload hx hb dX12_choose_144 (lv_at hl 0 rfl) ?_
                    refine lv_iload hx hb dX12_choose_146 (lv_at hl 1 rfl) ?_
                    refine tw_iast (i := r1268) (x := r1246) hx hb hK hT hG hS hg2 shm_47 rfl (vin_t (a := r1268.toInt) rfl (by omega) (by omega)) (gi_of (show r1246.toInt = r1246.toInt from rfl) (by omega) (by omega)) dX12_choose_148 (fun H locs hT oq m1341 oi hS => ?_)
                    have hF := hF.ast hg2 skm_47 oq (by decide)
                    have m1342 := m1320.kept (oq _ (gne hg1 hg2 (by decide)))
                    have m1343 := m1321.put m1341 oi
                    have m1344 := m1322.kept (oq _ (gne hg3 hg2 (by decide)))
                    have m1345 := m1323.kept (oq _ (gne hg4 hg2 (by decide)))
                    have m1346 := m1324.kept (oq _ (gne hg5 hg2 (by decide)))
                    have m1347 := m1325.kept (oq _ (gne hg6 hg2 (by decide)))
                    have m1348 := m1326.kept (oq _ (gne hg7 hg2 (by decide)))
                    have m1349 := m1327.kept (oq _ (gne hg8 hg2 (by decide)))
                    have m1350 := m1328.kept (oq _ (gne hg9 hg2 (by decide)))
                    have m1351 := m1329.kept (oq _ (gne hg10 hg2 (by decide)))
                    have m1352 := m1330.kept (oq _ (gne hg13 hg2 (by decide)))
                    have m1353 := m1331.kept (oq _ (gne hg14 hg2 (by decide)))
                    have m1354 := m1332.kept (oq _ (gne hg15 hg2 (by decide)))
                    have m1355 := m1333.kept (oq _ (gne hg16 hg2 (by decide)))
                    have m1356 := m1334.kept (oq _ (gne hg17 hg2 (by decide)))
                    have m1357 := m1335.kept (oq _ (gne hg18 hg2 (by decide)))
                    have m1358 := m1336.kept (oq _ (gne hg19 hg2 (by decide)))
                    have m1359 := (el_kept (oq _ (gne hr_o0 hg2 (by decide)))).trans m1337
                    have m1360 := (el_kept (oq _ (gne hr_o0 hg2 (by decide)))).trans m1338
                    have m1361 := (el_kept (oq _ (gne hg1 hg2 (by decide)))).trans m1319
                    obtain ⟨x1362, ex1362⟩ : ∃ y : Int32, y = z836 + 1 := ⟨_, rfl⟩
                    refine lv_iinc (v := x1362) (lv' := [(2, .int x1362), (5, .int r1268), (4, .int r1246), (3, .int (nI i835)), (0, .ref o0), (1, .int p0)]) hx hb dX12_choose_149 hl (k := 3) rfl (by first | (rw [ex1362]; done) | (rw [ex1362]; rfl)) (by decide) rfl (fun ls hl => ?_)
                    refine lv_iinc (v := nI (i835 + 1)) (lv' := [(3, .int (nI (i835 + 1))), (2, .int x1362), (5, .int r1268), (4, .int r1246), (0, .ref o0), (1, .int p0)]) hx hb dX12_choose_152 hl (k := 3) rfl (nI_add i835 1) (by decide) rfl (fun ls hl => ?_)
                    refine lv_goto (tgt := 94) hx hb dX12_choose_155 (by decide) ?_
                    exact ih1110 (i835 + 1) (by omega) (by omega) x1362 (cu V837 r1246.toNatClampNeg r1268) (cu V839 r1268.toNatClampNeg r1246) (cu V855 r1246.toNatClampNeg (0 : Int32)) (Or.inr ⟨by omega, zHb_cu hzb1123 (by have := (show r1268.toInt = r1268.toInt from rfl); omega), hfm1124, hno1125⟩) _ _ hT hF hS m1342 m1343 m1344 m1345 m1346 m1347 m1348 m1349 m1350 m1351 m1352 m1353 m1354 m1355 m1356 m1357 m1358 m1359 m1360 ls (lv_sub hl [0, 1, 4, 5] rfl)
                  · have t1363 : r1268.toInt < 0 := ti_nle c1293 (by decide) rfl
                    refine lv_iload_n hx hb dX12_choose_121 rfl (lv_at hl 3 rfl) ?_
                    exact W.iret (v := z836) hx hb hr (fun t ht hW => ⟨⟨z836, (V837, V839), rfl, (by exact (Or.inl ⟨hzb1123, ⟨by omega, by omega⟩, hfm1124, hno1125⟩)), by (try dsimp only); rw [ht]; exact ⟨hT, hF, m1270, m1271⟩⟩, hS.F ht⟩) hS.2.2 dX12_choose_122
        exact key1110 (60 - 0) 0 (by omega) (Nat.le_refl _) 0 vH vR V118 (Or.inl ⟨by omega, rfl, rfl, by rw [show sn.toNatClampNeg = 60 from by have := tn_of (show sn.toInt = sn.toInt from rfl) (by omega); omega]; exact hj122⟩) _ _ hT hF hS m102 m103 m104 m105 m106 m107 m108 m109 m110 m111 m112 m113 m114 m115 m116 m117 m119 m120 m121 ls (lv_sub hl [0, 1, 2, 3] rfl)
      | succ n831 ih831 =>
        intro i101 hn831 hlo832 V118 ⟨hj122, hj123⟩ H locs hT hF hS m102 m103 m104 m105 m106 m107 m108 m109 m110 m111 m112 m113 m114 m115 m116 m117 m119 m120 m121 ls hl
        have hlt1363 : i101 < 60 := by omega
        refine lv_iload_n hx hb dX12_choose_32 rfl (lv_at hl 0 rfl) ?_
        refine lv_aload_n hx hb dX12_choose_33 rfl (lv_at hl 1 rfl) ?_
        refine tw_getM (v := .int sn) hx hb hts bF_X12 hown hK hT hr_o0 shm_0 rfl 42 (by decide) (ht_at hts 9 rfl) (fun _ h9 => h9) m120 dX12_choose_34 ?_
        refine lv_icmp_ge (tgt := 90) hx hb dX12_choose_37 (by decide) (fun c1364 => ?_) (fun c1364 => ?_)
        · have t1365 : sn.toInt ≤ ((i101 : Nat) : Int) := ti_le c1364 rfl (nI_toInt (by omega))
          refine lv_iconst (v := 0) hx hb dX12_choose_90 (by decide) ?_
          refine lv_istore_n (lv' := [(2, .int 0), (0, .ref o0), (1, .int p0)]) hx hb dX12_choose_91 rfl hl (by decide) rfl (fun ls hl => ?_)
          refine lv_iconst (v := 0) hx hb dX12_choose_92 (by decide) ?_
          refine lv_istore_n (lv' := [(3, .int 0), (2, .int 0), (0, .ref o0), (1, .int p0)]) hx hb dX12_choose_93 rfl hl (by decide) rfl (fun ls hl => ?_)
          have key1641 : ∀ (n1641 i1366 : Nat), i1366 + n1641 = 60 → 0 ≤ i1366 → ∀ (z1367 : Int32), ∀ (V1368 : Nat → Int32), ∀ (V1370 : Nat → Int32), ∀ (V1386 : Nat → Int32), (((((i1366 : Nat) : Int) = 0 ∧ vH = V1368 ∧ vR = V1370 ∧ zPo (zLs vG vA vD vC vU vI vM vW) A9 V1386 sn.toNatClampNeg) ∨ (1 ≤ ((i1366 : Nat) : Int) ∧ zHb V1368 sn.toInt ∧ 0 < fm.toInt ∧ zNO (zLs vG vA vD vC vU vI vM vW) A9 sn.toInt))) → ∀ (H : Heap) (locs : List Loc), gH (dC, dI) kA (SHm q (wP wZ wN wH wB wC wL wK wU wV) PI im PM PT lS lB lE lN) G H → gF (dC, dI) SKm G ([(0, 0), (30, 0), (31, 0), (39, 0), (47, 0), (51, 0), (52, 0)] : List (Nat × Nat)) s.heap H → va_S A s.heap H locs → ct H (q 38) 60 V1368 → ct H (q 46) 30 V1370 → ct H (q 39) 60 vG → ct H (q 31) 60 vA → ct H (q 32) 60 vD → ct H (q 33) 60 vC → ct H (q 34) 60 vU → ct H (q 35) 60 vI → ct H (q 36) 60 vM → ct H (q 40) 60 vW → ct H (q 19) 60 vO → ct H (q 24) 60 vB → ct H (q 25) 60 vX → ct H (q 26) 1200 vS → ct H (q 27) 1200 vN → ct H (q 18) 3 vL → ct H (q 51) 60 V1386 → el H o0 (dI 15 42) = some (.int sn) → el H o0 (dI 15 47) = some (.int fm) → ∀ ls : Array Slot, lv_has ls 6 [(3, .int (nI i1366)), (2, .int z1367), (0, .ref o0), (1, .int p0)] → W p l e (headSpec w_s_chooseZ ({ frames := 6, cells := 0, slots := 0, locals := 134 })).room s m #[.ref o0, .int p0] below meth c H locs 0 0 (MQ below (va_Qi (fun (r : Int32) (u : (Nat → Int32) × (Nat → Int32)) => match u with | (vH1, vR1) => ((zHb vH1 sn.toInt ∧ ((1 ≤ p0.toInt ∧ p0.toInt ≤ 60) ∧ 0 < fm.toInt ∧ zNO (zLs vG vA vD vC vU vI vM vW) A9 sn.toInt)) ∨ ((vH = vH1 ∧ vR = vR1) ∧ ¬ ((1 ≤ p0.toInt ∧ p0.toInt ≤ 60) ∧ 0 < fm.toInt ∧ zNO (zLs vG vA vD vC vU vI vM vW) A9 sn.toInt)))) (fun (u : (Nat → Int32) × (Nat → Int32)) (t : State) => match u with | (vH1, vR1) => gH (dC, dI) kA (SHm q (wP wZ wN wH wB wC wL wK wU wV) PI im PM PT lS lB lE lN) G t.heap ∧ gF (dC, dI) SKm G ([(0, 0), (30, 0), (31, 0), (39, 0), (47, 0), (51, 0), (52, 0)] : List (Nat × Nat)) s.heap t.heap ∧ ct t.heap (q 38) 60 vH1 ∧ ct t.heap (q 46) 30 vR1) A) #[.ref o0, .int p0] s 0 0 A) (F0 m 94 ls []) := by
            intro n1641
            induction n1641 with
            | zero =>
              intro i1366 hn1641 hlo1642 z1367 V1368 V1370 V1386 hj1390 H locs hT hF hS m1369 m1371 m1372 m1373 m1374 m1375 m1376 m1377 m1378 m1379 m1380 m1381 m1382 m1383 m1384 m1385 m1387 m1388 m1389 ls hl
              obtain rfl : 60 = i1366 := by omega
              refine lv_iload_n hx hb dX12_choose_94 rfl (lv_at hl 0 rfl) ?_
              refine lv_iload_n hx hb dX12_choose_95 rfl (lv_at hl 3 rfl) ?_
              refine lv_icmp_ge (tgt := 158) hx hb dX12_choose_96 (by decide) (fun c1643 => ?_) (fun c1643 => (by exfalso; have q9 : ((60 : Nat) : Int) < p0.toInt := ti_nle c1643 rfl (nI_toInt (by omega)); omega))
              have t1644 : p0.toInt ≤ ((60 : Nat) : Int) := ti_le c1643 rfl (nI_toInt (by omega))
              refine lv_iload_n hx hb dX12_choose_158 rfl (lv_at hl 1 rfl) ?_
              exact W.iret (v := z1367) hx hb hr (fun t ht hW => ⟨⟨z1367, (V1368, V1370), rfl, (by exact (by rcases hj1390 with ⟨h8, h7, h6, h5⟩ | ⟨h8, h7, h6, h5⟩; (exact Or.inr ⟨⟨h7, h6⟩, fun h4 => by have := h4.1; omega⟩); exact Or.inl ⟨h7, ⟨by omega, by omega⟩, h6, h5⟩)), by (try dsimp only); rw [ht]; exact ⟨hT, hF, m1369, m1371⟩⟩, hS.F ht⟩) hS.2.2 dX12_choose_159
            | succ n1641 ih1641 =>
              intro i1366 hn1641 hlo1642 z1367 V1368 V1370 V1386 hj1390 H locs hT hF hS m1369 m1371 m1372 m1373 m1374 m1375 m1376 m1377 m1378 m1379 m1380 m1381 m1382 m1383 m1384 m1385 m1387 m1388 m1389 ls hl
              have hlt1644 : i1366 < 60 := by omega
              refine lv_iload_n hx hb dX12_choose_94 rfl (lv_at hl 0 rfl) ?_
              refine lv_iload_n hx hb dX12_choose_95 rfl (lv_at hl 3 rfl) ?_
              refine lv_icmp_ge (tgt := 158) hx hb dX12_choose_96 (by decide) (fun c1645 => ?_) (fun c1645 => ?_)
              · have t1646 : p0.toInt ≤ ((i1366 : Nat) : Int) := ti_le c1645 rfl (nI_toInt (by omega))
                refine lv_iload_n hx hb dX12_choose_158 rfl (lv_at hl 1 rfl) ?_
                exact W.iret (v := z1367) hx hb hr (fun t ht hW => ⟨⟨z1367, (V1368, V1370), rfl, (by exact (by rcases hj1390 with ⟨h8, h7, h6, h5⟩ | ⟨h8, h7, h6, h5⟩; (exact Or.inr ⟨⟨h7, h6⟩, fun h4 => by have := h4.1; omega⟩); exact Or.inl ⟨h7, ⟨by omega, by omega⟩, h6, h5⟩)), by (try dsimp only); rw [ht]; exact ⟨hT, hF, m1369, m1371⟩⟩, hS.F ht⟩) hS.2.2 dX12_choose_159
              · have t1647 : ((i1366 : Nat) : Int) < p0.toInt := ti_nle c1645 rfl (nI_toInt (by omega))
                rcases hj1390 with ⟨ha1649, rfl, rfl, hpo1650⟩ | ⟨hb1653, hzb1654, hfm1655, hno1656⟩
                · refine lv_aload_n hx hb dX12_choose_99 rfl (lv_at hl 2 rfl) ?_
                  have hFc := gA_free hG hA hS
                  refine va_calli (va_runV (As := []) (rest := []) ⟨hx, hb, hml, hown, hts⟩ (s_nextOneZ l dC dI kA adK adV G H q wZ wN wH wB wC wL wK wU wV PI im PM PT lS lB lE lN o0 sn V1386 hT hr_o0 m1388 (by have q8 := ti_all sn; omega) m1387 hgz hgn hgh hgb hgc hgi hgu) (cwV 0 hts (goodIn_app (goodIn_r _ [15, 16, 17, 5] rfl (by decide +kernel)) (goodIn_ca (goodIn_r _ [11, 10, 12, 13, 14] rfl (by decide +kernel)) (bs_in _ _))) rfl rfl rfl (by decide +kernel) ⟨(Nat.le_of_ble_eq_true rfl), (Nat.le_of_ble_eq_true rfl)⟩) ⟨fun a U g mk q => by obtain ⟨q0, q1, qK, qE⟩ := q; exact ⟨q0, q1, va_K.moved (u := U) (U := U.calling g mk a) (Vm.Alike.refl U.vm) qK, EVS.blind g mk a qE⟩, gH_rc hK hT hr_o0 shm_0 rfl, fun U hU hW => ⟨rfl, hU, va_K.moved hW.alike hK, hE.call hS hFc hU hW⟩⟩ rfl rfl hl.1 rfl (lv_room (Nat.le_of_ble_eq_true rfl)) dX12_choose_100 ⟨(Nat.le_of_ble_eq_true rfl), (Nat.le_of_ble_eq_true rfl)⟩) hS (fun q _ h => hFc q h) hFc (fun r1657 u t H locs ht hvm hw1658 hB _ _ hS => ?_)
                  obtain ⟨hT, hF1⟩ := hB
                  rw [ht] at hT hF1
                  have m1659 := m1369.kept (hF1.arr hg1 skm_39 (by decide))
                  have m1660 := m1371.kept (hF1.arr hg2 skm_47 (by decide))
                  have m1661 := m1372.kept (hF1.arr hg3 skm_40 (by decide))
                  have m1662 := m1373.kept (hF1.arr hg4 skm_32 (by decide))
                  have m1663 := m1374.kept (hF1.arr hg5 skm_33 (by decide))
                  have m1664 := m1375.kept (hF1.arr hg6 skm_34 (by decide))
                  have m1665 := m1376.kept (hF1.arr hg7 skm_35 (by decide))
                  have m1666 := m1377.kept (hF1.arr hg8 skm_36 (by decide))
                  have m1667 := m1378.kept (hF1.arr hg9 skm_37 (by decide))
                  have m1668 := m1379.kept (hF1.arr hg10 skm_41 (by decide))
                  have m1669 := m1380.kept (hF1.arr hg13 skm_20 (by decide))
                  have m1670 := m1381.kept (hF1.arr hg14 skm_25 (by decide))
                  have m1671 := m1382.kept (hF1.arr hg15 skm_26 (by decide))
                  have m1672 := m1383.kept (hF1.arr hg16 skm_27 (by decide))
                  have m1673 := m1384.kept (hF1.arr hg17 skm_28 (by decide))
                  have m1674 := m1385.kept (hF1.arr hg18 skm_19 (by decide))
                  have m1675 := m1387.kept (hF1.arr hg19 skm_52 (by decide))
                  have m1676 := (hF1.fld hr_o0 skm_0 (k := 42) (by decide) (by decide)).trans m1388
                  have m1677 := (hF1.fld hr_o0 skm_0 (k := 47) (by decide) (by decide)).trans m1389
                  have hF := hF.more hF1 (by decide)
                  try dsimp only at hw1658
                  obtain ⟨h1678, hf1679⟩ := hw1658
                  refine lv_istore (lv' := [(4, .int r1657), (3, .int (nI i1366)), (2, .int z1367), (0, .ref o0), (1, .int p0)]) hx hb dX12_choose_103 hl (by decide) rfl (fun ls hl => ?_)
                  refine lv_aload_n hx hb dX12_choose_105 rfl (lv_at hl 3 rfl) ?_
                  have hFc := gA_free hG hA hS
                  refine va_calli (va_runV (As := []) (rest := []) ⟨hx, hb, hml, hown, hts⟩ (s_bestFarmZ l dC dI kA adK adV G H q wZ wN wH wB wC wL wK wU wV PI im PM PT lS lB lE lN o0 fm vR hT hr_o0 m1677 (by have q8 := ti_all fm; omega) hnh m1660 hgz hgn hgh hgb hgc hgi hgu) (cwV 0 hts (goodIn_app (goodIn_r _ [38, 39, 40, 5] rfl (by decide +kernel)) (goodIn_ca (goodIn_r _ [18, 19, 20, 21, 22, 23, 24, 25, 26, 27, 28, 29, 30, 31, 2, 3, 4, 5, 32, 33, 34, 35, 36, 37] rfl (by decide +kernel)) (bs_in _ _))) rfl rfl rfl (by decide +kernel) ⟨(Nat.le_of_ble_eq_true rfl), (Nat.le_of_ble_eq_true rfl)⟩) ⟨fun a U g mk q => by obtain ⟨q0, q1, qK, qE⟩ := q; exact ⟨q0, q1, va_K.moved (u := U) (U := U.calling g mk a) (Vm.Alike.refl U.vm) qK, EVS.blind g mk a qE⟩, gH_rc hK hT hr_o0 shm_0 rfl, fun U hU hW => ⟨rfl, hU, va_K.moved hW.alike hK, hE.call hS hFc hU hW⟩⟩ rfl rfl hl.1 rfl (lv_room (Nat.le_of_ble_eq_true rfl)) dX12_choose_106 ⟨(Nat.le_of_ble_eq_true rfl), (Nat.le_of_ble_eq_true rfl)⟩) hS (fun q _ h => hFc q h) hFc (fun r1680 u t H locs ht hvm hw1681 hB _ _ hS => ?_)
                  obtain ⟨hT, hF1⟩ := hB
                  rw [ht] at hT hF1
                  have m1682 := m1659.kept (hF1.arr hg1 skm_39 (by decide))
                  have m1683 := m1660.kept (hF1.arr hg2 skm_47 (by decide))
                  have m1684 := m1661.kept (hF1.arr hg3 skm_40 (by decide))
                  have m1685 := m1662.kept (hF1.arr hg4 skm_32 (by decide))
                  have m1686 := m1663.kept (hF1.arr hg5 skm_33 (by decide))
                  have m1687 := m1664.kept (hF1.arr hg6 skm_34 (by decide))
                  have m1688 := m1665.kept (hF1.arr hg7 skm_35 (by decide))
                  have m1689 := m1666.kept (hF1.arr hg8 skm_36 (by decide))
                  have m1690 := m1667.kept (hF1.arr hg9 skm_37 (by decide))
                  have m1691 := m1668.kept (hF1.arr hg10 skm_41 (by decide))
                  have m1692 := m1669.kept (hF1.arr hg13 skm_20 (by decide))
                  have m1693 := m1670.kept (hF1.arr hg14 skm_25 (by decide))
                  have m1694 := m1671.kept (hF1.arr hg15 skm_26 (by decide))
                  have m1695 := m1672.kept (hF1.arr hg16 skm_27 (by decide))
                  have m1696 := m1673.kept (hF1.arr hg17 skm_28 (by decide))
                  have m1697 := m1674.kept (hF1.arr hg18 skm_19 (by decide))
                  have m1698 := m1675.kept (hF1.arr hg19 skm_52 (by decide))
                  have m1699 := (hF1.fld hr_o0 skm_0 (k := 42) (by decide) (by decide)).trans m1676
                  have m1700 := (hF1.fld hr_o0 skm_0 (k := 47) (by decide) (by decide)).trans m1677
                  have hF := hF.more hF1 (by decide)
                  try dsimp only at hw1681
                  obtain ⟨h1701, hf1702⟩ := hw1681
                  refine lv_istore (lv' := [(5, .int r1680), (4, .int r1657), (3, .int (nI i1366)), (2, .int z1367), (0, .ref o0), (1, .int p0)]) hx hb dX12_choose_109 hl (by decide) rfl (fun ls hl => ?_)
                  refine lv_iload hx hb dX12_choose_111 (lv_at hl 1 rfl) ?_
                  refine lv_if_lt (tgt := 121) hx hb dX12_choose_113 (by decide) (fun c1703 => ?_) (fun c1703 => ?_)
                  · have t1704 : r1657.toInt < 0 := ti_lt c1703 rfl (by decide)
                    refine lv_iload_n hx hb dX12_choose_121 rfl (lv_at hl 3 rfl) ?_
                    exact W.iret (v := z1367) hx hb hr (fun t ht hW => ⟨⟨z1367, (vH, vR), rfl, (by exact (Or.inr ⟨⟨rfl, rfl⟩, fun h8 => by have := h8.2.1; have n9 := h8.2.2; rcases hf1679 with ⟨h7, h6⟩ | ⟨h7, h6, h5⟩; (exact (hpo1650.no (by have := tn_of (show sn.toInt = sn.toInt from rfl) (by omega); omega) h6) n9); omega⟩)), by (try dsimp only); rw [ht]; exact ⟨hT, hF, m1682, m1683⟩⟩, hS.F ht⟩) hS.2.2 dX12_choose_122
                  · have t1705 : 0 ≤ r1657.toInt := ti_nlt c1703 rfl (by decide)
                    refine lv_iload hx hb dX12_choose_116 (lv_at hl 0 rfl) ?_
                    refine lv_if_ge (tgt := 123) hx hb dX12_choose_118 (by decide) (fun c1706 => ?_) (fun c1706 => ?_)
                    · have t1707 : 0 ≤ r1680.toInt := ti_le c1706 (by decide) rfl
                      refine lv_aload_n hx hb dX12_choose_123 rfl (lv_at hl 4 rfl) ?_
                      refine tw_get hx hb hts bF_X12 hown hK hT hr_o0 shm_0 rfl 51 (by decide) (ht_at hts 11 rfl) (fun _ h9 => h9) dX12_choose_124 (fun v9 m1708 h9 => ?_)
                      obtain ⟨rfl, hg1709⟩ := h9 _ rfl
                      refine lv_iload hx hb dX12_choose_127 (lv_at hl 1 rfl) ?_
                      refine lv_iconst (v := 0) hx hb dX12_choose_129 (by decide) ?_
                      refine tw_zast (i := r1657) (x := 0) hx hb hK hT hG hS hg19 shm_52 rfl (vin_t (a := r1657.toInt) rfl (by omega) (by omega)) (gi_z (rg_t (a := 0) (by decide) (by first | decide | omega) (by first | decide | omega)) (by decide) (by decide)) dX12_choose_130 (fun H locs hT oq m1710 oi hS => ?_)
                      have hF := hF.ast hg19 skm_52 oq (by decide)
                      have m1711 := m1682.kept (oq _ (gne hg1 hg19 (by decide)))
                      have m1712 := m1683.kept (oq _ (gne hg2 hg19 (by decide)))
                      have m1713 := m1684.kept (oq _ (gne hg3 hg19 (by decide)))
                      have m1714 := m1685.kept (oq _ (gne hg4 hg19 (by decide)))
                      have m1715 := m1686.kept (oq _ (gne hg5 hg19 (by decide)))
                      have m1716 := m1687.kept (oq _ (gne hg6 hg19 (by decide)))
                      have m1717 := m1688.kept (oq _ (gne hg7 hg19 (by decide)))
                      have m1718 := m1689.kept (oq _ (gne hg8 hg19 (by decide)))
                      have m1719 := m1690.kept (oq _ (gne hg9 hg19 (by decide)))
                      have m1720 := m1691.kept (oq _ (gne hg10 hg19 (by decide)))
                      have m1721 := m1692.kept (oq _ (gne hg13 hg19 (by decide)))
                      have m1722 := m1693.kept (oq _ (gne hg14 hg19 (by decide)))
                      have m1723 := m1694.kept (oq _ (gne hg15 hg19 (by decide)))
                      have m1724 := m1695.kept (oq _ (gne hg16 hg19 (by decide)))
                      have m1725 := m1696.kept (oq _ (gne hg17 hg19 (by decide)))
                      have m1726 := m1697.kept (oq _ (gne hg18 hg19 (by decide)))
                      have m1727 := m1698.put (show el H (q 51) _ = some (.int 0) from m1710) oi
                      have m1728 := (el_kept (oq _ (gne hr_o0 hg19 (by decide)))).trans m1699
                      have m1729 := (el_kept (oq _ (gne hr_o0 hg19 (by decide)))).trans m1700
                      refine lv_aload_n hx hb dX12_choose_131 rfl (lv_at hl 4 rfl) ?_
                      refine tw_get hx hb hts bF_X12 hown hK hT hr_o0 shm_0 rfl 38 (by decide) (ht_at hts 40 rfl) (fun _ h9 => h9) dX12_choose_132 (fun v9 m1730 h9 => ?_)
                      obtain ⟨rfl, hg1731⟩ := h9 _ rfl
                      refine lv_iload hx hb dX12_choose_135 (lv_at hl 1 rfl) ?_
                      refine lv_iload hx hb dX12_choose_137 (lv_at hl 0 rfl) ?_
                      refine tw_iast (i := r1657) (x := r1680) hx hb hK hT hG hS hg1 shm_39 rfl (vin_t (a := r1657.toInt) rfl (by omega) (by omega)) (gi_of (show r1680.toInt = r1680.toInt from rfl) (by omega) (by omega)) dX12_choose_139 (fun H locs hT oq m1732 oi hS => ?_)
                      have hF := hF.ast hg1 skm_39 oq (by decide)
                      have m1733 := m1711.put m1732 oi
                      have m1734 := m1712.kept (oq _ (gne hg2 hg1 (by decide)))
                      have m1735 := m1713.kept (oq _ (gne hg3 hg1 (by decide)))
                      have m1736 := m1714.kept (oq _ (gne hg4 hg1 (by decide)))
                      have m1737 := m1715.kept (oq _ (gne hg5 hg1 (by decide)))
                      have m1738 := m1716.kept (oq _ (gne hg6 hg1 (by decide)))
                      have m1739 := m1717.kept (oq _ (gne hg7 hg1 (by decide)))
                      have m1740 := m1718.kept (oq _ (gne hg8 hg1 (by decide)))
                      have m1741 := m1719.kept (oq _ (gne hg9 hg1 (by decide)))
                      have m1742 := m1720.kept (oq _ (gne hg10 hg1 (by decide)))
                      have m1743 := m1721.kept (oq _ (gne hg13 hg1 (by decide)))
                      have m1744 := m1722.kept (oq _ (gne hg14 hg1 (by decide)))
                      have m1745 := m1723.kept (oq _ (gne hg15 hg1 (by decide)))
                      have m1746 := m1724.kept (oq _ (gne hg16 hg1 (by decide)))
                      have m1747 := m1725.kept (oq _ (gne hg17 hg1 (by decide)))
                      have m1748 := m1726.kept (oq _ (gne hg18 hg1 (by decide)))
                      have m1749 := m1727.kept (oq _ (gne hg19 hg1 (by decide)))
                      have m1750 := (el_kept (oq _ (gne hr_o0 hg1 (by decide)))).trans m1728
                      have m1751 := (el_kept (oq _ (gne hr_o0 hg1 (by decide)))).trans m1729
                      refine lv_aload_n hx hb dX12_choose_140 rfl (lv_at hl 4 rfl) ?_
                      refine tw_get hx hb hts bF_X12 hown hK hT hr_o0 shm_0 rfl 46 (by decide) (ht_at hts 19 rfl) (fun _ h9 => h9) dX12_choose_141 (fun v9 m1752 h9 => ?_)
                      obtain ⟨rfl, hg1753⟩ := h9 _ rfl
                      refine lv_iload hx hb dX12_choose_144 (lv_at hl 0 rfl) ?_
                      refine lv_iload hx hb dX12_choose_146 (lv_at hl 1 rfl) ?_
                      refine tw_iast (i := r1680) (x := r1657) hx hb hK hT hG hS hg2 shm_47 rfl (vin_t (a := r1680.toInt) rfl (by omega) (by omega)) (gi_of (show r1657.toInt = r1657.toInt from rfl) (by omega) (by omega)) dX12_choose_148 (fun H locs hT oq m1754 oi hS => ?_)
                      have hF := hF.ast hg2 skm_47 oq (by decide)
                      have m1755 := m1733.kept (oq _ (gne hg1 hg2 (by decide)))
                      have m1756 := m1734.put m1754 oi
                      have m1757 := m1735.kept (oq _ (gne hg3 hg2 (by decide)))
                      have m1758 := m1736.kept (oq _ (gne hg4 hg2 (by decide)))
                      have m1759 := m1737.kept (oq _ (gne hg5 hg2 (by decide)))
                      have m1760 := m1738.kept (oq _ (gne hg6 hg2 (by decide)))
                      have m1761 := m1739.kept (oq _ (gne hg7 hg2 (by decide)))
                      have m1762 := m1740.kept (oq _ (gne hg8 hg2 (by decide)))
                      have m1763 := m1741.kept (oq _ (gne hg9 hg2 (by decide)))
                      have m1764 := m1742.kept (oq _ (gne hg10 hg2 (by decide)))
                      have m1765 := m1743.kept (oq _ (gne hg13 hg2 (by decide)))
                      have m1766 := m1744.kept (oq _ (gne hg14 hg2 (by decide)))
                      have m1767 := m1745.kept (oq _ (gne hg15 hg2 (by decide)))
                      have m1768 := m1746.kept (oq _ (gne hg16 hg2 (by decide)))
                      have m1769 := m1747.kept (oq _ (gne hg17 hg2 (by decide)))
                      have m1770 := m1748.kept (oq _ (gne hg18 hg2 (by decide)))
                      have m1771 := m1749.kept (oq _ (gne hg19 hg2 (by decide)))
                      have m1772 := (el_kept (oq _ (gne hr_o0 hg2 (by decide)))).trans m1750
                      have m1773 := (el_kept (oq _ (gne hr_o0 hg2 (by decide)))).trans m1751
                      have m1774 := (el_kept (oq _ (gne hg1 hg2 (by decide)))).trans m1732
                      obtain ⟨x1775, ex1775⟩ : ∃ y : Int32, y = z1367 + 1 := ⟨_, rfl⟩
                      refine lv_iinc (v := x1775) (lv' := [(2, .int x1775), (5, .int r1680), (4, .int r1657), (3, .int (nI i1366)), (0, .ref o0), (1, .int p0)]) hx hb dX12_choose_149 hl (k := 3) rfl (by first | (rw [ex1775]; done) | (rw [ex1775]; rfl)) (by decide) rfl (fun ls hl => ?_)
                      refine lv_iinc (v := nI (i1366 + 1)) (lv' := [(3, .int (nI (i1366 + 1))), (2, .int x1775), (5, .int r1680), (4, .int r1657), (0, .ref o0), (1, .int p0)]) hx hb dX12_choose_152 hl (k := 3) rfl (nI_add i1366 1) (by decide) rfl (fun ls hl => ?_)
                      refine lv_goto (tgt := 94) hx hb dX12_choose_155 (by decide) ?_
                      exact ih1641 (i1366 + 1) (by omega) (by omega) x1775 (cu vH r1657.toNatClampNeg r1680) (cu vR r1680.toNatClampNeg r1657) (cu V1386 r1657.toNatClampNeg (0 : Int32)) (Or.inr ⟨by omega, zHb_at (by have := tn_of (show r1657.toInt = r1657.toInt from rfl) (by omega); omega) (by have := (show r1680.toInt = r1680.toInt from rfl); omega), by omega, hpo1650.yes (by have := tn_of (show sn.toInt = sn.toInt from rfl) (by omega); omega) ((hf1679.resolve_left (fun h8 => by have := h8.1; omega)).2.2)⟩) _ _ hT hF hS m1755 m1756 m1757 m1758 m1759 m1760 m1761 m1762 m1763 m1764 m1765 m1766 m1767 m1768 m1769 m1770 m1771 m1772 m1773 ls (lv_sub hl [0, 1, 4, 5] rfl)
                    · have t1776 : r1680.toInt < 0 := ti_nle c1706 (by decide) rfl
                      refine lv_iload_n hx hb dX12_choose_121 rfl (lv_at hl 3 rfl) ?_
                      exact W.iret (v := z1367) hx hb hr (fun t ht hW => ⟨⟨z1367, (vH, vR), rfl, (by exact (Or.inr ⟨⟨rfl, rfl⟩, fun h8 => by have := h8.2.1; have n9 := h8.2.2; rcases hf1679 with ⟨h7, h6⟩ | ⟨h7, h6, h5⟩; (exact (hpo1650.no (by have := tn_of (show sn.toInt = sn.toInt from rfl) (by omega); omega) h6) n9); omega⟩)), by (try dsimp only); rw [ht]; exact ⟨hT, hF, m1682, m1683⟩⟩, hS.F ht⟩) hS.2.2 dX12_choose_122
                · refine lv_aload_n hx hb dX12_choose_99 rfl (lv_at hl 2 rfl) ?_
                  have hFc := gA_free hG hA hS
                  refine va_calli (va_runV (As := []) (rest := []) ⟨hx, hb, hml, hown, hts⟩ (s_nextOne l dC dI kA adK adV G H q wZ wN wH wB wC wL wK wU wV PI im PM PT lS lB lE lN o0 hT hr_o0 hgz hgn hgh hgb hgc hgi hgu) (cwV 0 hts (goodIn_app (goodIn_r _ [15, 16, 17, 5] rfl (by decide +kernel)) (goodIn_ca (goodIn_r _ [11, 10, 12, 13, 14] rfl (by decide +kernel)) (bs_in _ _))) rfl rfl rfl (by decide +kernel) ⟨(Nat.le_of_ble_eq_true rfl), (Nat.le_of_ble_eq_true rfl)⟩) ⟨fun a U g mk q => by obtain ⟨q0, q1, qK, qE⟩ := q; exact ⟨q0, q1, va_K.moved (u := U) (U := U.calling g mk a) (Vm.Alike.refl U.vm) qK, EVS.blind g mk a qE⟩, gH_rc hK hT hr_o0 shm_0 rfl, fun U hU hW => ⟨rfl, hU, va_K.moved hW.alike hK, hE.call hS hFc hU hW⟩⟩ rfl rfl hl.1 rfl (lv_room (Nat.le_of_ble_eq_true rfl)) dX12_choose_100 ⟨(Nat.le_of_ble_eq_true rfl), (Nat.le_of_ble_eq_true rfl)⟩) hS (fun q _ h => hFc q h) hFc (fun r1777 u t H locs ht hvm hw1778 hB _ _ hS => ?_)
                  obtain ⟨hT, hF1⟩ := hB
                  rw [ht] at hT hF1
                  have m1779 := m1369.kept (hF1.arr hg1 skm_39 (by decide))
                  have m1780 := m1371.kept (hF1.arr hg2 skm_47 (by decide))
                  have m1781 := m1372.kept (hF1.arr hg3 skm_40 (by decide))
                  have m1782 := m1373.kept (hF1.arr hg4 skm_32 (by decide))
                  have m1783 := m1374.kept (hF1.arr hg5 skm_33 (by decide))
                  have m1784 := m1375.kept (hF1.arr hg6 skm_34 (by decide))
                  have m1785 := m1376.kept (hF1.arr hg7 skm_35 (by decide))
                  have m1786 := m1377.kept (hF1.arr hg8 skm_36 (by decide))
                  have m1787 := m1378.kept (hF1.arr hg9 skm_37 (by decide))
                  have m1788 := m1379.kept (hF1.arr hg10 skm_41 (by decide))
                  have m1789 := m1380.kept (hF1.arr hg13 skm_20 (by decide))
                  have m1790 := m1381.kept (hF1.arr hg14 skm_25 (by decide))
                  have m1791 := m1382.kept (hF1.arr hg15 skm_26 (by decide))
                  have m1792 := m1383.kept (hF1.arr hg16 skm_27 (by decide))
                  have m1793 := m1384.kept (hF1.arr hg17 skm_28 (by decide))
                  have m1794 := m1385.kept (hF1.arr hg18 skm_19 (by decide))
                  have m1795 := m1387.kept (hF1.arr hg19 skm_52 (by decide))
                  have m1796 := (hF1.fld hr_o0 skm_0 (k := 42) (by decide) (by decide)).trans m1388
                  have m1797 := (hF1.fld hr_o0 skm_0 (k := 47) (by decide) (by decide)).trans m1389
                  have hF := hF.more hF1 (by decide)
                  try dsimp only at hw1778
                  have h1798 := hw1778
                  refine lv_istore (lv' := [(4, .int r1777), (3, .int (nI i1366)), (2, .int z1367), (0, .ref o0), (1, .int p0)]) hx hb dX12_choose_103 hl (by decide) rfl (fun ls hl => ?_)
                  refine lv_aload_n hx hb dX12_choose_105 rfl (lv_at hl 3 rfl) ?_
                  have hFc := gA_free hG hA hS
                  refine va_calli (va_runV (As := []) (rest := []) ⟨hx, hb, hml, hown, hts⟩ (s_bestFarm l dC dI kA adK adV G H q wZ wN wH wB wC wL wK wU wV PI im PM PT lS lB lE lN o0 hT hr_o0 hgz hgn hgh hgb hgc hgi hgu) (cwV 0 hts (goodIn_app (goodIn_r _ [38, 39, 40, 5] rfl (by decide +kernel)) (goodIn_ca (goodIn_r _ [18, 19, 20, 21, 22, 23, 24, 25, 26, 27, 28, 29, 30, 31, 2, 3, 4, 5, 32, 33, 34, 35, 36, 37] rfl (by decide +kernel)) (bs_in _ _))) rfl rfl rfl (by decide +kernel) ⟨(Nat.le_of_ble_eq_true rfl), (Nat.le_of_ble_eq_true rfl)⟩) ⟨fun a U g mk q => by obtain ⟨q0, q1, qK, qE⟩ := q; exact ⟨q0, q1, va_K.moved (u := U) (U := U.calling g mk a) (Vm.Alike.refl U.vm) qK, EVS.blind g mk a qE⟩, gH_rc hK hT hr_o0 shm_0 rfl, fun U hU hW => ⟨rfl, hU, va_K.moved hW.alike hK, hE.call hS hFc hU hW⟩⟩ rfl rfl hl.1 rfl (lv_room (Nat.le_of_ble_eq_true rfl)) dX12_choose_106 ⟨(Nat.le_of_ble_eq_true rfl), (Nat.le_of_ble_eq_true rfl)⟩) hS (fun q _ h => hFc q h) hFc (fun r1799 u t H locs ht hvm hw1800 hB _ _ hS => ?_)
                  obtain ⟨hT, hF1⟩ := hB
                  rw [ht] at hT hF1
                  have m1801 := m1779.kept (hF1.arr hg1 skm_39 (by decide))
                  have m1802 := m1780.kept (hF1.arr hg2 skm_47 (by decide))
                  have m1803 := m1781.kept (hF1.arr hg3 skm_40 (by decide))
                  have m1804 := m1782.kept (hF1.arr hg4 skm_32 (by decide))
                  have m1805 := m1783.kept (hF1.arr hg5 skm_33 (by decide))
                  have m1806 := m1784.kept (hF1.arr hg6 skm_34 (by decide))
                  have m1807 := m1785.kept (hF1.arr hg7 skm_35 (by decide))
                  have m1808 := m1786.kept (hF1.arr hg8 skm_36 (by decide))
                  have m1809 := m1787.kept (hF1.arr hg9 skm_37 (by decide))
                  have m1810 := m1788.kept (hF1.arr hg10 skm_41 (by decide))
                  have m1811 := m1789.kept (hF1.arr hg13 skm_20 (by decide))
                  have m1812 := m1790.kept (hF1.arr hg14 skm_25 (by decide))
                  have m1813 := m1791.kept (hF1.arr hg15 skm_26 (by decide))
                  have m1814 := m1792.kept (hF1.arr hg16 skm_27 (by decide))
                  have m1815 := m1793.kept (hF1.arr hg17 skm_28 (by decide))
                  have m1816 := m1794.kept (hF1.arr hg18 skm_19 (by decide))
                  have m1817 := m1795.kept (hF1.arr hg19 skm_52 (by decide))
                  have m1818 := (hF1.fld hr_o0 skm_0 (k := 42) (by decide) (by decide)).trans m1796
                  have m1819 := (hF1.fld hr_o0 skm_0 (k := 47) (by decide) (by decide)).trans m1797
                  have hF := hF.more hF1 (by decide)
                  try dsimp only at hw1800
                  have h1820 := hw1800
                  refine lv_istore (lv' := [(5, .int r1799), (4, .int r1777), (3, .int (nI i1366)), (2, .int z1367), (0, .ref o0), (1, .int p0)]) hx hb dX12_choose_109 hl (by decide) rfl (fun ls hl => ?_)
                  refine lv_iload hx hb dX12_choose_111 (lv_at hl 1 rfl) ?_
                  refine lv_if_lt (tgt := 121) hx hb dX12_choose_113 (by decide) (fun c1821 => ?_) (fun c1821 => ?_)
                  · have t1822 : r1777.toInt < 0 := ti_lt c1821 rfl (by decide)
                    refine lv_iload_n hx hb dX12_choose_121 rfl (lv_at hl 3 rfl) ?_
                    exact W.iret (v := z1367) hx hb hr (fun t ht hW => ⟨⟨z1367, (V1368, V1370), rfl, (by exact (Or.inl ⟨hzb1654, ⟨by omega, by omega⟩, hfm1655, hno1656⟩)), by (try dsimp only); rw [ht]; exact ⟨hT, hF, m1801, m1802⟩⟩, hS.F ht⟩) hS.2.2 dX12_choose_122
                  · have t1823 : 0 ≤ r1777.toInt := ti_nlt c1821 rfl (by decide)
                    refine lv_iload hx hb dX12_choose_116 (lv_at hl 0 rfl) ?_
                    refine lv_if_ge (tgt := 123) hx hb dX12_choose_118 (by decide) (fun c1824 => ?_) (fun c1824 => ?_)
                    · have t1825 : 0 ≤ r1799.toInt := ti_le c1824 (by decide) rfl
                      refine lv_aload_n hx hb dX12_choose_123 rfl (lv_at hl 4 rfl) ?_
                      refine tw_get hx hb hts bF_X12 hown hK hT hr_o0 shm_0 rfl 51 (by decide) (ht_at hts 11 rfl) (fun _ h9 => h9) dX12_choose_124 (fun v9 m1826 h9 => ?_)
                      obtain ⟨rfl, hg1827⟩ := h9 _ rfl
                      refine lv_iload hx hb dX12_choose_127 (lv_at hl 1 rfl) ?_
                      refine lv_iconst (v := 0) hx hb dX12_choose_129 (by decide) ?_
                      refine tw_zast (i := r1777) (x := 0) hx hb hK hT hG hS hg19 shm_52 rfl (vin_t (a := r1777.toInt) rfl (by omega) (by omega)) (gi_z (rg_t (a := 0) (by decide) (by first | decide | omega) (by first | decide | omega)) (by decide) (by decide)) dX12_choose_130 (fun H locs hT oq m1828 oi hS => ?_)
                      have hF := hF.ast hg19 skm_52 oq (by decide)
                      have m1829 := m1801.kept (oq _ (gne hg1 hg19 (by decide)))
                      have m1830 := m1802.kept (oq _ (gne hg2 hg19 (by decide)))
                      have m1831 := m1803.kept (oq _ (gne hg3 hg19 (by decide)))
                      have m1832 := m1804.kept (oq _ (gne hg4 hg19 (by decide)))
                      have m1833 := m1805.kept (oq _ (gne hg5 hg19 (by decide)))
                      have m1834 := m1806.kept (oq _ (gne hg6 hg19 (by decide)))
                      have m1835 := m1807.kept (oq _ (gne hg7 hg19 (by decide)))
                      have m1836 := m1808.kept (oq _ (gne hg8 hg19 (by decide)))
                      have m1837 := m1809.kept (oq _ (gne hg9 hg19 (by decide)))
                      have m1838 := m1810.kept (oq _ (gne hg10 hg19 (by decide)))
                      have m1839 := m1811.kept (oq _ (gne hg13 hg19 (by decide)))
                      have m1840 := m1812.kept (oq _ (gne hg14 hg19 (by decide)))
                      have m1841 := m1813.kept (oq _ (gne hg15 hg19 (by decide)))
                      have m1842 := m1814.kept (oq _ (gne hg16 hg19 (by decide)))
                      have m1843 := m1815.kept (oq _ (gne hg17 hg19 (by decide)))
                      have m1844 := m1816.kept (oq _ (gne hg18 hg19 (by decide)))
                      have m1845 := m1817.put (show el H (q 51) _ = some (.int 0) from m1828) oi
                      have m1846 := (el_kept (oq _ (gne hr_o0 hg19 (by decide)))).trans m1818
                      have m1847 := (el_kept (oq _ (gne hr_o0 hg19 (by decide)))).trans m1819
                      refine lv_aload_n hx hb dX12_choose_131 rfl (lv_at hl 4 rfl) ?_
                      refine tw_get hx hb hts bF_X12 hown hK hT hr_o0 shm_0 rfl 38 (by decide) (ht_at hts 40 rfl) (fun _ h9 => h9) dX12_choose_132 (fun v9 m1848 h9 => ?_)
                      obtain ⟨rfl, hg1849⟩ := h9 _ rfl
                      refine lv_iload hx hb dX12_choose_135 (lv_at hl 1 rfl) ?_
                      refine lv_iload hx hb dX12_choose_137 (lv_at hl 0 rfl) ?_
                      refine tw_iast (i := r1777) (x := r1799) hx hb hK hT hG hS hg1 shm_39 rfl (vin_t (a := r1777.toInt) rfl (by omega) (by omega)) (gi_of (show r1799.toInt = r1799.toInt from rfl) (by omega) (by omega)) dX12_choose_139 (fun H locs hT oq m1850 oi hS => ?_)
                      have hF := hF.ast hg1 skm_39 oq (by decide)
                      have m1851 := m1829.put m1850 oi
                      have m1852 := m1830.kept (oq _ (gne hg2 hg1 (by decide)))
                      have m1853 := m1831.kept (oq _ (gne hg3 hg1 (by decide)))
                      have m1854 := m1832.kept (oq _ (gne hg4 hg1 (by decide)))
                      have m1855 := m1833.kept (oq _ (gne hg5 hg1 (by decide)))
                      have m1856 := m1834.kept (oq _ (gne hg6 hg1 (by decide)))
                      have m1857 := m1835.kept (oq _ (gne hg7 hg1 (by decide)))
                      have m1858 := m1836.kept (oq _ (gne hg8 hg1 (by decide)))
                      have m1859 := m1837.kept (oq _ (gne hg9 hg1 (by decide)))
                      have m1860 := m1838.kept (oq _ (gne hg10 hg1 (by decide)))
                      have m1861 := m1839.kept (oq _ (gne hg13 hg1 (by decide)))
                      have m1862 := m1840.kept (oq _ (gne hg14 hg1 (by decide)))
                      have m1863 := m1841.kept (oq _ (gne hg15 hg1 (by decide)))
                      have m1864 := m1842.kept (oq _ (gne hg16 hg1 (by decide)))
                      have m1865 := m1843.kept (oq _ (gne hg17 hg1 (by decide)))
                      have m1866 := m1844.kept (oq _ (gne hg18 hg1 (by decide)))
                      have m1867 := m1845.kept (oq _ (gne hg19 hg1 (by decide)))
                      have m1868 := (el_kept (oq _ (gne hr_o0 hg1 (by decide)))).trans m1846
                      have m1869 := (el_kept (oq _ (gne hr_o0 hg1 (by decide)))).trans m1847
                      refine lv_aload_n hx hb dX12_choose_140 rfl (lv_at hl 4 rfl) ?_
                      refine tw_get hx hb hts bF_X12 hown hK hT hr_o0 shm_0 rfl 46 (by decide) (ht_at hts 19 rfl) (fun _ h9 => h9) dX12_choose_141 (fun v9 m1870 h9 => ?_)
                      obtain ⟨rfl, hg1871⟩ := h9 _ rfl
                      refine lv_iload hx hb dX12_choose_144 (lv_at hl 0 rfl) ?_
                      refine lv_iload hx hb dX12_choose_146 (lv_at hl 1 rfl) ?_
                      refine tw_iast (i := r1799) (x := r1777) hx hb hK hT hG hS hg2 shm_47 rfl (vin_t (a := r1799.toInt) rfl (by omega) (by omega)) (gi_of (show r1777.toInt = r1777.toInt from rfl) (by omega) (by omega)) dX12_choose_148 (fun H locs hT oq m1872 oi hS => ?_)
                      have hF := hF.ast hg2 skm_47 oq (by decide)
                      have m1873 := m1851.kept (oq _ (gne hg1 hg2 (by decide)))
                      have m1874 := m1852.put m1872 oi
                      have m1875 := m1853.kept (oq _ (gne hg3 hg2 (by decide)))
                      have m1876 := m1854.kept (oq _ (gne hg4 hg2 (by decide)))
                      have m1877 := m1855.kept (oq _ (gne hg5 hg2 (by decide)))
                      have m1878 := m1856.kept (oq _ (gne hg6 hg2 (by decide)))
                      have m1879 := m1857.kept (oq _ (gne hg7 hg2 (by decide)))
                      have m1880 := m1858.kept (oq _ (gne hg8 hg2 (by decide)))
                      have m1881 := m1859.kept (oq _ (gne hg9 hg2 (by decide)))
                      have m1882 := m1860.kept (oq _ (gne hg10 hg2 (by decide)))
                      have m1883 := m1861.kept (oq _ (gne hg13 hg2 (by decide)))
                      have m1884 := m1862.kept (oq _ (gne hg14 hg2 (by decide)))
                      have m1885 := m1863.kept (oq _ (gne hg15 hg2 (by decide)))
                      have m1886 := m1864.kept (oq _ (gne hg16 hg2 (by decide)))
                      have m1887 := m1865.kept (oq _ (gne hg17 hg2 (by decide)))
                      have m1888 := m1866.kept (oq _ (gne hg18 hg2 (by decide)))
                      have m1889 := m1867.kept (oq _ (gne hg19 hg2 (by decide)))
                      have m1890 := (el_kept (oq _ (gne hr_o0 hg2 (by decide)))).trans m1868
                      have m1891 := (el_kept (oq _ (gne hr_o0 hg2 (by decide)))).trans m1869
                      have m1892 := (el_kept (oq _ (gne hg1 hg2 (by decide)))).trans m1850
                      obtain ⟨x1893, ex1893⟩ : ∃ y : Int32, y = z1367 + 1 := ⟨_, rfl⟩
                      refine lv_iinc (v := x1893) (lv' := [(2, .int x1893), (5, .int r1799), (4, .int r1777), (3, .int (nI i1366)), (0, .ref o0), (1, .int p0)]) hx hb dX12_choose_149 hl (k := 3) rfl (by first | (rw [ex1893]; done) | (rw [ex1893]; rfl)) (by decide) rfl (fun ls hl => ?_)
                      refine lv_iinc (v := nI (i1366 + 1)) (lv' := [(3, .int (nI (i1366 + 1))), (2, .int x1893), (5, .int r1799), (4, .int r1777), (0, .ref o0), (1, .int p0)]) hx hb dX12_choose_152 hl (k := 3) rfl (nI_add i1366 1) (by decide) rfl (fun ls hl => ?_)
                      refine lv_goto (tgt := 94) hx hb dX12_choose_155 (by decide) ?_
                      exact ih1641 (i1366 + 1) (by omega) (by omega) x1893 (cu V1368 r1777.toNatClampNeg r1799) (cu V1370 r1799.toNatClampNeg r1777) (cu V1386 r1777.toNatClampNeg (0 : Int32)) (Or.inr ⟨by omega, zHb_cu hzb1654 (by have := (show r1799.toInt = r1799.toInt from rfl); omega), hfm1655, hno1656⟩) _ _ hT hF hS m1873 m1874 m1875 m1876 m1877 m1878 m1879 m1880 m1881 m1882 m1883 m1884 m1885 m1886 m1887 m1888 m1889 m1890 m1891 ls (lv_sub hl [0, 1, 4, 5] rfl)
                    · have t1894 : r1799.toInt < 0 := ti_nle c1824 (by decide) rfl
                      refine lv_iload_n hx hb dX12_choose_121 rfl (lv_at hl 3 rfl) ?_
                      exact W.iret (v := z1367) hx hb hr (fun t ht hW => ⟨⟨z1367, (V1368, V1370), rfl, (by exact (Or.inl ⟨hzb1654, ⟨by omega, by omega⟩, hfm1655, hno1656⟩)), by (try dsimp only); rw [ht]; exact ⟨hT, hF, m1801, m1802⟩⟩, hS.F ht⟩) hS.2.2 dX12_choose_122
          exact key1641 (60 - 0) 0 (by omega) (Nat.le_refl _) 0 vH vR V118 (Or.inl ⟨by omega, rfl, rfl, by rw [show sn.toNatClampNeg = i101 from by have := tn_of (show sn.toInt = sn.toInt from rfl) (by omega); omega]; exact hj122⟩) _ _ hT hF hS m102 m103 m104 m105 m106 m107 m108 m109 m110 m111 m112 m113 m114 m115 m116 m117 m119 m120 m121 ls (lv_sub hl [0, 1, 2, 3] rfl)
        · have t1895 : ((i101 : Nat) : Int) < sn.toInt := ti_nle c1364 rfl (nI_toInt (by omega))
          refine lv_aload_n hx hb dX12_choose_40 rfl (lv_at hl 1 rfl) ?_
          refine tw_get hx hb hts bF_X12 hown hK hT hr_o0 shm_0 rfl 51 (by decide) (ht_at hts 11 rfl) (fun _ h9 => h9) dX12_choose_41 (fun v9 m1896 h9 => ?_)
          obtain ⟨rfl, hg1897⟩ := h9 _ rfl
          refine lv_iload_n hx hb dX12_choose_44 rfl (lv_at hl 0 rfl) ?_
          refine lv_aload_n hx hb dX12_choose_45 rfl (lv_at hl 1 rfl) ?_
          refine tw_get hx hb hts bF_X12 hown hK hT hr_o0 shm_0 rfl 38 (by decide) (ht_at hts 40 rfl) (fun _ h9 => h9) dX12_choose_46 (fun v9 m1898 h9 => ?_)
          obtain ⟨rfl, hg1899⟩ := h9 _ rfl
          refine lv_iload_n hx hb dX12_choose_49 rfl (lv_at hl 0 rfl) ?_
          refine tw_iald (i := (nI i101)) hx hb hK hT hg1 shm_39 rfl (vp_in_nI (by omega) (by decide)) dX12_choose_50 (fun v9 m1900 h9 => ?_)
          obtain ⟨x1901, rfl, gx1901, kx1901⟩ := h9
          have cx1901 := m102.at m1900 (by have q9 := tn_of (show (nI i101).toInt = ((i101 : Nat) : Int) from (nI_toInt (by omega))) (by omega); omega)
          have t1902 : x1901.toInt < 0 := (by rw [cx1901, tn_nI (by omega)]; exact hall i101 (by omega))
          refine lv_if_ge (tgt := 70) hx hb dX12_choose_51 (by decide) (fun c1903 => (by exfalso; have q9 : 0 ≤ x1901.toInt := ti_le c1903 (by decide) rfl; omega)) (fun c1903 => ?_)
          have t1904 : x1901.toInt < 0 := ti_nle c1903 (by decide) rfl
          refine lv_aload_n hx hb dX12_choose_54 rfl (lv_at hl 1 rfl) ?_
          refine lv_iload_n hx hb dX12_choose_55 rfl (lv_at hl 0 rfl) ?_
          refine lv_bipush (v := 6) hx hb dX12_choose_56 (by decide) ?_
          obtain ⟨V1905, m1906⟩ := ctl_of hT hg11 shm_31
          obtain ⟨V1907, m1908⟩ := ctl_of hT hg12 shm_30
          have hFc := gA_free hG hA hS
          refine va_calll (va_runV (As := [.int (nI i101), .int 6]) (rest := [.int (nI i101), .ref (q 51)]) ⟨hx, hb, hml, hown, hts⟩ (s_sumOut l dC dI kA adK adV G H q wZ wN wH wB wC wL wK wU wV PI im PM PT lS lB lE lN o0 (nI i101) vH vG vA vD vC vU vI vM vW V1905 V1907 vO vB vX vS vN vL A9 hT hr_o0 (rg_t (a := ((i101 : Nat) : Int)) (nI_toInt (by omega)) (by omega) (by omega)) (hall _ (by have := tn_of (show (nI i101).toInt = ((i101 : Nat) : Int) from (nI_toInt (by omega))) (by omega); omega)) hfo hzk m102 m104 m105 m106 m107 m108 m109 m110 m111 m1906 m1908 m112 m113 m114 m115 m116 m117 hgz hgn hgh hgb hgc hgi hgu) (cwV 2 hts (goodIn_app (goodIn_r _ [78, 79, 80, 5] rfl (by decide +kernel)) (goodIn_ca (goodIn_r _ [42, 43, 44, 45, 41, 46, 47, 48, 5, 49, 50, 51, 52, 53, 54, 55, 56, 57, 58, 59, 60, 61, 62, 63, 64, 65, 66, 67, 68, 69, 70, 71, 72, 27, 73, 74, 75, 76, 77] rfl (by decide +kernel)) (bs_in _ _))) rfl rfl rfl (by decide +kernel) ⟨(Nat.le_of_ble_eq_true rfl), (Nat.le_of_ble_eq_true rfl)⟩) ⟨fun a U g mk q => by obtain ⟨q0, q1, qK, qE⟩ := q; exact ⟨q0, q1, va_K.moved (u := U) (U := U.calling g mk a) (Vm.Alike.refl U.vm) qK, EVS.blind g mk a qE⟩, gH_rc hK hT hr_o0 shm_0 rfl, fun U hU hW => ⟨rfl, hU, va_K.moved hW.alike hK, hE.call hS hFc hU hW⟩⟩ rfl rfl hl.1 rfl (lv_room (Nat.le_of_ble_eq_true rfl)) dX12_choose_58 ⟨(Nat.le_of_ble_eq_true rfl), (Nat.le_of_ble_eq_true rfl)⟩) hS (fun q _ h => hFc q h) hFc (fun r1909 u t H locs ht hvm hw1910 hB _ _ hS => ?_)
          obtain ⟨hT, hF1⟩ := hB
          rw [ht] at hT hF1
          have m1911 := m102.kept (hF1.arr hg1 skm_39 (by decide))
          have m1912 := m103.kept (hF1.arr hg2 skm_47 (by decide))
          have m1913 := m104.kept (hF1.arr hg3 skm_40 (by decide))
          have m1914 := m105.kept (hF1.arr hg4 skm_32 (by decide))
          have m1915 := m106.kept (hF1.arr hg5 skm_33 (by decide))
          have m1916 := m107.kept (hF1.arr hg6 skm_34 (by decide))
          have m1917 := m108.kept (hF1.arr hg7 skm_35 (by decide))
          have m1918 := m109.kept (hF1.arr hg8 skm_36 (by decide))
          have m1919 := m110.kept (hF1.arr hg9 skm_37 (by decide))
          have m1920 := m111.kept (hF1.arr hg10 skm_41 (by decide))
          have m1921 := m112.kept (hF1.arr hg13 skm_20 (by decide))
          have m1922 := m113.kept (hF1.arr hg14 skm_25 (by decide))
          have m1923 := m114.kept (hF1.arr hg15 skm_26 (by decide))
          have m1924 := m115.kept (hF1.arr hg16 skm_27 (by decide))
          have m1925 := m116.kept (hF1.arr hg17 skm_28 (by decide))
          have m1926 := m117.kept (hF1.arr hg18 skm_19 (by decide))
          have m1927 := m119.kept (hF1.arr hg19 skm_52 (by decide))
          have m1928 := (hF1.fld hr_o0 skm_0 (k := 42) (by decide) (by decide)).trans m120
          have m1929 := (hF1.fld hr_o0 skm_0 (k := 47) (by decide) (by decide)).trans m121
          have m1930 := (el_kept (hF1.arr hg1 skm_39 (by decide))).trans m1900
          have hF := hF.more hF1 (by decide)
          try dsimp only at hw1910
          have hf1933 := hw1910
          refine lv_lconst (v := 0) hx hb dX12_choose_61 (by decide) ?_
          refine W.lcmp hx hb dX12_choose_62 ?_
          refine lv_topi (fun x1934 ex1934 => ?_)
          have t1935 : (r1909.toInt < 0 ∧ x1934.toInt = -1) ∨ (r1909.toInt = 0 ∧ x1934.toInt = 0) ∨ (0 < r1909.toInt ∧ x1934.toInt = 1) := tl_c ex1934 rfl (by decide)
          refine lv_if_ne (tgt := 70) hx hb dX12_choose_63 (by decide) (fun c1936 => ?_) (fun c1936 => ?_)
          · have t1937 : x1934.toInt ≠ 0 := ti_ne c1936 rfl (by decide)
            refine lv_iconst (v := 0) hx hb dX12_choose_70 (by decide) ?_
            refine tw_zast (i := (nI i101)) (x := 0) hx hb hK hT hG hS hg19 shm_52 rfl (vp_in_nI (by omega) (by decide)) (gi_z (rg_t (a := 0) (by decide) (by first | decide | omega) (by first | decide | omega)) (by decide) (by decide)) dX12_choose_71 (fun H locs hT oq m1938 oi hS => ?_)
            have hF := hF.ast hg19 skm_52 oq (by decide)
            have m1939 := m1911.kept (oq _ (gne hg1 hg19 (by decide)))
            have m1940 := m1912.kept (oq _ (gne hg2 hg19 (by decide)))
            have m1941 := m1913.kept (oq _ (gne hg3 hg19 (by decide)))
            have m1942 := m1914.kept (oq _ (gne hg4 hg19 (by decide)))
            have m1943 := m1915.kept (oq _ (gne hg5 hg19 (by decide)))
            have m1944 := m1916.kept (oq _ (gne hg6 hg19 (by decide)))
            have m1945 := m1917.kept (oq _ (gne hg7 hg19 (by decide)))
            have m1946 := m1918.kept (oq _ (gne hg8 hg19 (by decide)))
            have m1947 := m1919.kept (oq _ (gne hg9 hg19 (by decide)))
            have m1948 := m1920.kept (oq _ (gne hg10 hg19 (by decide)))
            have m1949 := m1921.kept (oq _ (gne hg13 hg19 (by decide)))
            have m1950 := m1922.kept (oq _ (gne hg14 hg19 (by decide)))
            have m1951 := m1923.kept (oq _ (gne hg15 hg19 (by decide)))
            have m1952 := m1924.kept (oq _ (gne hg16 hg19 (by decide)))
            have m1953 := m1925.kept (oq _ (gne hg17 hg19 (by decide)))
            have m1954 := m1926.kept (oq _ (gne hg18 hg19 (by decide)))
            have m1955 := m1927.put (show el H (q 51) _ = some (.int 0) from m1938) oi
            have m1956 := (el_kept (oq _ (gne hr_o0 hg19 (by decide)))).trans m1928
            have m1957 := (el_kept (oq _ (gne hr_o0 hg19 (by decide)))).trans m1929
            have m1958 := (el_kept (oq _ (gne hg1 hg19 (by decide)))).trans m1930
            refine lv_aload_n hx hb dX12_choose_72 rfl (lv_at hl 1 rfl) ?_
            refine tw_get hx hb hts bF_X12 hown hK hT hr_o0 shm_0 rfl 50 (by decide) (ht_at hts 12 rfl) (fun _ h9 => h9) dX12_choose_73 (fun v9 m1959 h9 => ?_)
            obtain ⟨rfl, hg1960⟩ := h9 _ rfl
            refine lv_iload_n hx hb dX12_choose_76 rfl (lv_at hl 0 rfl) ?_
            refine lv_aload_n hx hb dX12_choose_77 rfl (lv_at hl 1 rfl) ?_
            refine lv_iload_n hx hb dX12_choose_78 rfl (lv_at hl 0 rfl) ?_
            refine lv_iconst (v := 4) hx hb dX12_choose_79 (by decide) ?_
            have hFc := gA_free hG hA hS
            refine va_calll (va_runV (As := [.int (nI i101), .int 4]) (rest := [.int (nI i101), .ref (q 50)]) ⟨hx, hb, hml, hown, hts⟩ (s_sumOf l dC dI kA adK adV G H q wZ wN wH wB wC wL wK wU wV PI im PM PT lS lB lE lN o0 (nI i101) 4 hT hr_o0 (rg_t (a := ((i101 : Nat) : Int)) (nI_toInt (by omega)) (by omega) (by omega)) (by assumption) hgz hgn hgh hgb hgc hgi hgu) (cwV 2 hts (goodIn_app (goodIn_r _ [78, 79, 80, 5] rfl (by decide +kernel)) (goodIn_ca (goodIn_r _ [42, 43, 44, 45, 41, 22, 23, 24, 25, 26, 27, 28, 29, 30, 31, 2, 3, 4, 5, 32, 33, 46, 47, 48, 49, 50, 51, 52, 53, 54, 55, 56, 34, 81, 82, 83, 84, 85, 86, 87, 88, 89, 90, 91, 92, 93, 94, 95, 96, 97, 57, 58, 59, 60, 61, 62, 63, 64, 65, 66, 67, 68, 69, 70, 71, 72, 73, 74, 75, 76, 77, 98] rfl (by decide +kernel)) (bs_in _ _))) rfl rfl rfl (by decide +kernel) ⟨(Nat.le_of_ble_eq_true rfl), (Nat.le_of_ble_eq_true rfl)⟩) ⟨fun a U g mk q => by obtain ⟨q0, q1, qK, qE⟩ := q; exact ⟨q0, q1, va_K.moved (u := U) (U := U.calling g mk a) (Vm.Alike.refl U.vm) qK, EVS.blind g mk a qE⟩, gH_rc hK hT hr_o0 shm_0 rfl, fun U hU hW => ⟨rfl, hU, va_K.moved hW.alike hK, hE.call hS hFc hU hW⟩⟩ rfl rfl hl.1 rfl (lv_room (Nat.le_of_ble_eq_true rfl)) dX12_choose_80 ⟨(Nat.le_of_ble_eq_true rfl), (Nat.le_of_ble_eq_true rfl)⟩) hS (fun q _ h => hFc q h) hFc (fun r1961 u t H locs ht hvm hw1962 hB _ _ hS => ?_)
            obtain ⟨hT, hF1⟩ := hB
            rw [ht] at hT hF1
            have m1963 := m1939.kept (hF1.arr hg1 skm_39 (by decide))
            have m1964 := m1940.kept (hF1.arr hg2 skm_47 (by decide))
            have m1965 := m1941.kept (hF1.arr hg3 skm_40 (by decide))
            have m1966 := m1942.kept (hF1.arr hg4 skm_32 (by decide))
            have m1967 := m1943.kept (hF1.arr hg5 skm_33 (by decide))
            have m1968 := m1944.kept (hF1.arr hg6 skm_34 (by decide))
            have m1969 := m1945.kept (hF1.arr hg7 skm_35 (by decide))
            have m1970 := m1946.kept (hF1.arr hg8 skm_36 (by decide))
            have m1971 := m1947.kept (hF1.arr hg9 skm_37 (by decide))
            have m1972 := m1948.kept (hF1.arr hg10 skm_41 (by decide))
            have m1973 := m1949.kept (hF1.arr hg13 skm_20 (by decide))
            have m1974 := m1950.kept (hF1.arr hg14 skm_25 (by decide))
            have m1975 := m1951.kept (hF1.arr hg15 skm_26 (by decide))
            have m1976 := m1952.kept (hF1.arr hg16 skm_27 (by decide))
            have m1977 := m1953.kept (hF1.arr hg17 skm_28 (by decide))
            have m1978 := m1954.kept (hF1.arr hg18 skm_19 (by decide))
            have m1979 := m1955.kept (hF1.arr hg19 skm_52 (by decide))
            have m1980 := (hF1.fld hr_o0 skm_0 (k := 42) (by decide) (by decide)).trans m1956
            have m1981 := (hF1.fld hr_o0 skm_0 (k := 47) (by decide) (by decide)).trans m1957
            have m1982 := (el_kept (hF1.arr hg1 skm_39 (by decide))).trans m1958
            have hF := hF.more hF1 (by decide)
            try dsimp only at hw1962
            refine tw_last (i := (nI i101))  hx hb hK hT hG hS hg1960 shm_51 rfl (vp_in_nI (by omega) (by decide)) ⟨_, rfl⟩ dX12_choose_83 (fun H locs hT oq m1983 oi hS => ?_)
            have hF := hF.ast hg1960 skm_51 oq (by decide)
            have m1984 := m1963.kept (oq _ (gne hg1 hg1960 (by decide)))
            have m1985 := m1964.kept (oq _ (gne hg2 hg1960 (by decide)))
            have m1986 := m1965.kept (oq _ (gne hg3 hg1960 (by decide)))
            have m1987 := m1966.kept (oq _ (gne hg4 hg1960 (by decide)))
            have m1988 := m1967.kept (oq _ (gne hg5 hg1960 (by decide)))
            have m1989 := m1968.kept (oq _ (gne hg6 hg1960 (by decide)))
            have m1990 := m1969.kept (oq _ (gne hg7 hg1960 (by decide)))
            have m1991 := m1970.kept (oq _ (gne hg8 hg1960 (by decide)))
            have m1992 := m1971.kept (oq _ (gne hg9 hg1960 (by decide)))
            have m1993 := m1972.kept (oq _ (gne hg10 hg1960 (by decide)))
            have m1994 := m1973.kept (oq _ (gne hg13 hg1960 (by decide)))
            have m1995 := m1974.kept (oq _ (gne hg14 hg1960 (by decide)))
            have m1996 := m1975.kept (oq _ (gne hg15 hg1960 (by decide)))
            have m1997 := m1976.kept (oq _ (gne hg16 hg1960 (by decide)))
            have m1998 := m1977.kept (oq _ (gne hg17 hg1960 (by decide)))
            have m1999 := m1978.kept (oq _ (gne hg18 hg1960 (by decide)))
            have m2000 := m1979.kept (oq _ (gne hg19 hg1960 (by decide)))
            have m2001 := (el_kept (oq _ (gne hr_o0 hg1960 (by decide)))).trans m1980
            have m2002 := (el_kept (oq _ (gne hr_o0 hg1960 (by decide)))).trans m1981
            have m2003 := (el_kept (oq _ (gne hg1 hg1960 (by decide)))).trans m1982
            refine lv_iinc (v := nI (i101 + 1)) (lv' := [(2, .int (nI (i101 + 1))), (0, .ref o0), (1, .int p0)]) hx hb dX12_choose_84 hl (k := 0) rfl (nI_add i101 1) (by decide) rfl (fun ls hl => ?_)
            refine lv_goto (tgt := 32) hx hb dX12_choose_87 (by decide) ?_
            exact ih831 (i101 + 1) (by omega) (by omega) (cu V118 (nI i101).toNatClampNeg (0 : Int32)) ⟨(zPo_s hj122 (tn_nI (by omega)) (by have o9 := hf1933; rw [tn_nI (by omega)] at o9; have x9 := (show (0 : Int32).toInt = 0 from (by decide)); have y9 : r1909.toInt = r1909.toInt := rfl; rcases o9 with ⟨h8, h7⟩ | ⟨h8, h7⟩; (exact Or.inl ⟨by omega, h7⟩); exact Or.inr ⟨by omega, h7⟩)), (by omega)⟩ _ _ hT hF hS m1984 m1985 m1986 m1987 m1988 m1989 m1990 m1991 m1992 m1993 m1994 m1995 m1996 m1997 m1998 m1999 m2000 m2001 m2002 ls (lv_sub hl [0, 1, 2] rfl)
          · have t2004 : x1934.toInt = 0 := ti_eq c1936 rfl (by decide)
            refine lv_iconst (v := 1) hx hb dX12_choose_66 (by decide) ?_
            refine lv_goto (tgt := 71) hx hb dX12_choose_67 (by decide) ?_
            refine tw_zast (i := (nI i101)) (x := 1) hx hb hK hT hG hS hg19 shm_52 rfl (vp_in_nI (by omega) (by decide)) (gi_z (rg_t (a := 1) (by decide) (by first | decide | omega) (by first | decide | omega)) (by decide) (by decide)) dX12_choose_71 (fun H locs hT oq m2005 oi hS => ?_)
            have hF := hF.ast hg19 skm_52 oq (by decide)
            have m2006 := m1911.kept (oq _ (gne hg1 hg19 (by decide)))
            have m2007 := m1912.kept (oq _ (gne hg2 hg19 (by decide)))
            have m2008 := m1913.kept (oq _ (gne hg3 hg19 (by decide)))
            have m2009 := m1914.kept (oq _ (gne hg4 hg19 (by decide)))
            have m2010 := m1915.kept (oq _ (gne hg5 hg19 (by decide)))
            have m2011 := m1916.kept (oq _ (gne hg6 hg19 (by decide)))
            have m2012 := m1917.kept (oq _ (gne hg7 hg19 (by decide)))
            have m2013 := m1918.kept (oq _ (gne hg8 hg19 (by decide)))
            have m2014 := m1919.kept (oq _ (gne hg9 hg19 (by decide)))
            have m2015 := m1920.kept (oq _ (gne hg10 hg19 (by decide)))
            have m2016 := m1921.kept (oq _ (gne hg13 hg19 (by decide)))
            have m2017 := m1922.kept (oq _ (gne hg14 hg19 (by decide)))
            have m2018 := m1923.kept (oq _ (gne hg15 hg19 (by decide)))
            have m2019 := m1924.kept (oq _ (gne hg16 hg19 (by decide)))
            have m2020 := m1925.kept (oq _ (gne hg17 hg19 (by decide)))
            have m2021 := m1926.kept (oq _ (gne hg18 hg19 (by decide)))
            have m2022 := m1927.put (show el H (q 51) _ = some (.int 1) from m2005) oi
            have m2023 := (el_kept (oq _ (gne hr_o0 hg19 (by decide)))).trans m1928
            have m2024 := (el_kept (oq _ (gne hr_o0 hg19 (by decide)))).trans m1929
            have m2025 := (el_kept (oq _ (gne hg1 hg19 (by decide)))).trans m1930
            refine lv_aload_n hx hb dX12_choose_72 rfl (lv_at hl 1 rfl) ?_
            refine tw_get hx hb hts bF_X12 hown hK hT hr_o0 shm_0 rfl 50 (by decide) (ht_at hts 12 rfl) (fun _ h9 => h9) dX12_choose_73 (fun v9 m2026 h9 => ?_)
            obtain ⟨rfl, hg2027⟩ := h9 _ rfl
            refine lv_iload_n hx hb dX12_choose_76 rfl (lv_at hl 0 rfl) ?_
            refine lv_aload_n hx hb dX12_choose_77 rfl (lv_at hl 1 rfl) ?_
            refine lv_iload_n hx hb dX12_choose_78 rfl (lv_at hl 0 rfl) ?_
            refine lv_iconst (v := 4) hx hb dX12_choose_79 (by decide) ?_
            have hFc := gA_free hG hA hS
            refine va_calll (va_runV (As := [.int (nI i101), .int 4]) (rest := [.int (nI i101), .ref (q 50)]) ⟨hx, hb, hml, hown, hts⟩ (s_sumOf l dC dI kA adK adV G H q wZ wN wH wB wC wL wK wU wV PI im PM PT lS lB lE lN o0 (nI i101) 4 hT hr_o0 (rg_t (a := ((i101 : Nat) : Int)) (nI_toInt (by omega)) (by omega) (by omega)) (by assumption) hgz hgn hgh hgb hgc hgi hgu) (cwV 2 hts (goodIn_app (goodIn_r _ [78, 79, 80, 5] rfl (by decide +kernel)) (goodIn_ca (goodIn_r _ [42, 43, 44, 45, 41, 22, 23, 24, 25, 26, 27, 28, 29, 30, 31, 2, 3, 4, 5, 32, 33, 46, 47, 48, 49, 50, 51, 52, 53, 54, 55, 56, 34, 81, 82, 83, 84, 85, 86, 87, 88, 89, 90, 91, 92, 93, 94, 95, 96, 97, 57, 58, 59, 60, 61, 62, 63, 64, 65, 66, 67, 68, 69, 70, 71, 72, 73, 74, 75, 76, 77, 98] rfl (by decide +kernel)) (bs_in _ _))) rfl rfl rfl (by decide +kernel) ⟨(Nat.le_of_ble_eq_true rfl), (Nat.le_of_ble_eq_true rfl)⟩) ⟨fun a U g mk q => by obtain ⟨q0, q1, qK, qE⟩ := q; exact ⟨q0, q1, va_K.moved (u := U) (U := U.calling g mk a) (Vm.Alike.refl U.vm) qK, EVS.blind g mk a qE⟩, gH_rc hK hT hr_o0 shm_0 rfl, fun U hU hW => ⟨rfl, hU, va_K.moved hW.alike hK, hE.call hS hFc hU hW⟩⟩ rfl rfl hl.1 rfl (lv_room (Nat.le_of_ble_eq_true rfl)) dX12_choose_80 ⟨(Nat.le_of_ble_eq_true rfl), (Nat.le_of_ble_eq_true rfl)⟩) hS (fun q _ h => hFc q h) hFc (fun r2028 u t H locs ht hvm hw2029 hB _ _ hS => ?_)
            obtain ⟨hT, hF1⟩ := hB
            rw [ht] at hT hF1
            have m2030 := m2006.kept (hF1.arr hg1 skm_39 (by decide))
            have m2031 := m2007.kept (hF1.arr hg2 skm_47 (by decide))
            have m2032 := m2008.kept (hF1.arr hg3 skm_40 (by decide))
            have m2033 := m2009.kept (hF1.arr hg4 skm_32 (by decide))
            have m2034 := m2010.kept (hF1.arr hg5 skm_33 (by decide))
            have m2035 := m2011.kept (hF1.arr hg6 skm_34 (by decide))
            have m2036 := m2012.kept (hF1.arr hg7 skm_35 (by decide))
            have m2037 := m2013.kept (hF1.arr hg8 skm_36 (by decide))
            have m2038 := m2014.kept (hF1.arr hg9 skm_37 (by decide))
            have m2039 := m2015.kept (hF1.arr hg10 skm_41 (by decide))
            have m2040 := m2016.kept (hF1.arr hg13 skm_20 (by decide))
            have m2041 := m2017.kept (hF1.arr hg14 skm_25 (by decide))
            have m2042 := m2018.kept (hF1.arr hg15 skm_26 (by decide))
            have m2043 := m2019.kept (hF1.arr hg16 skm_27 (by decide))
            have m2044 := m2020.kept (hF1.arr hg17 skm_28 (by decide))
            have m2045 := m2021.kept (hF1.arr hg18 skm_19 (by decide))
            have m2046 := m2022.kept (hF1.arr hg19 skm_52 (by decide))
            have m2047 := (hF1.fld hr_o0 skm_0 (k := 42) (by decide) (by decide)).trans m2023
            have m2048 := (hF1.fld hr_o0 skm_0 (k := 47) (by decide) (by decide)).trans m2024
            have m2049 := (el_kept (hF1.arr hg1 skm_39 (by decide))).trans m2025
            have hF := hF.more hF1 (by decide)
            try dsimp only at hw2029
            refine tw_last (i := (nI i101))  hx hb hK hT hG hS hg2027 shm_51 rfl (vp_in_nI (by omega) (by decide)) ⟨_, rfl⟩ dX12_choose_83 (fun H locs hT oq m2050 oi hS => ?_)
            have hF := hF.ast hg2027 skm_51 oq (by decide)
            have m2051 := m2030.kept (oq _ (gne hg1 hg2027 (by decide)))
            have m2052 := m2031.kept (oq _ (gne hg2 hg2027 (by decide)))
            have m2053 := m2032.kept (oq _ (gne hg3 hg2027 (by decide)))
            have m2054 := m2033.kept (oq _ (gne hg4 hg2027 (by decide)))
            have m2055 := m2034.kept (oq _ (gne hg5 hg2027 (by decide)))
            have m2056 := m2035.kept (oq _ (gne hg6 hg2027 (by decide)))
            have m2057 := m2036.kept (oq _ (gne hg7 hg2027 (by decide)))
            have m2058 := m2037.kept (oq _ (gne hg8 hg2027 (by decide)))
            have m2059 := m2038.kept (oq _ (gne hg9 hg2027 (by decide)))
            have m2060 := m2039.kept (oq _ (gne hg10 hg2027 (by decide)))
            have m2061 := m2040.kept (oq _ (gne hg13 hg2027 (by decide)))
            have m2062 := m2041.kept (oq _ (gne hg14 hg2027 (by decide)))
            have m2063 := m2042.kept (oq _ (gne hg15 hg2027 (by decide)))
            have m2064 := m2043.kept (oq _ (gne hg16 hg2027 (by decide)))
            have m2065 := m2044.kept (oq _ (gne hg17 hg2027 (by decide)))
            have m2066 := m2045.kept (oq _ (gne hg18 hg2027 (by decide)))
            have m2067 := m2046.kept (oq _ (gne hg19 hg2027 (by decide)))
            have m2068 := (el_kept (oq _ (gne hr_o0 hg2027 (by decide)))).trans m2047
            have m2069 := (el_kept (oq _ (gne hr_o0 hg2027 (by decide)))).trans m2048
            have m2070 := (el_kept (oq _ (gne hg1 hg2027 (by decide)))).trans m2049
            refine lv_iinc (v := nI (i101 + 1)) (lv' := [(2, .int (nI (i101 + 1))), (0, .ref o0), (1, .int p0)]) hx hb dX12_choose_84 hl (k := 0) rfl (nI_add i101 1) (by decide) rfl (fun ls hl => ?_)
            refine lv_goto (tgt := 32) hx hb dX12_choose_87 (by decide) ?_
            exact ih831 (i101 + 1) (by omega) (by omega) (cu V118 (nI i101).toNatClampNeg (1 : Int32)) ⟨(zPo_s hj122 (tn_nI (by omega)) (by have o9 := hf1933; rw [tn_nI (by omega)] at o9; have x9 := (show (1 : Int32).toInt = 1 from (by decide)); have y9 : r1909.toInt = r1909.toInt := rfl; rcases o9 with ⟨h8, h7⟩ | ⟨h8, h7⟩; (exact Or.inl ⟨by omega, h7⟩); exact Or.inr ⟨by omega, h7⟩)), (by omega)⟩ _ _ hT hF hS m2051 m2052 m2053 m2054 m2055 m2056 m2057 m2058 m2059 m2060 m2061 m2062 m2063 m2064 m2065 m2066 m2067 m2068 m2069 ls (lv_sub hl [0, 1, 2] rfl)
    exact key831 (60 - 0) 0 (by omega) (Nat.le_refl _) vP ⟨zPo_0, (by omega)⟩ _ _ hT hF hS m78 m79 m80 m81 m82 m83 m84 m85 m86 m87 m90 m91 m92 m93 m94 m95 m96 m76 m77 ls (lv_sub hl [0, 1, 2] rfl)
  · have t2071 : r42.toInt = 0 := ti_eq c69 rfl (by decide)
    have t2072 : (0 : Int32).toInt = 0 := by decide
    have t2073 : (60 : Int32).toInt = 60 := by decide
    have t2074 : p0.toInt < (0 : Int32).toInt ∨ (60 : Int32).toInt < p0.toInt := hi68 c69
    refine lv_iconst (v := 1) hx hb dX12_choose_16 (by decide) ?_
    refine lv_goto (tgt := 21) hx hb dX12_choose_17 (by decide) ?_
    refine lv_iconst (v := 1) hx hb dX12_choose_21 (by decide) ?_
    have hFc := gA_free hG hA hS
    refine va_calli (va_runV (As := [.int 1, .int 1]) (rest := []) ⟨hx, hb, hml, hown, hts⟩ (s_throwsIf l dC dI kA adK adV G H q wZ wN wH wB wC wL wK wU wV PI im PM PT lS lB lE lN o0 1 1 hT hr_o0 (rg_t (a := 1) (by decide) (by first | decide | omega) (by first | decide | omega)) hgz hgn hgh hgb hgc hgi hgu) (cwV 2 hts (goodIn_app (goodIn_r _ [7, 8, 9, 5] rfl (by decide +kernel)) (goodIn_ca (goodIn_r _ [6, 1] rfl (by decide +kernel)) (bs_in _ _))) rfl rfl rfl (by decide +kernel) ⟨(Nat.le_of_ble_eq_true rfl), (Nat.le_of_ble_eq_true rfl)⟩) ⟨fun a U g mk q => by obtain ⟨q0, q1, qK, qE⟩ := q; exact ⟨q0, q1, va_K.moved (u := U) (U := U.calling g mk a) (Vm.Alike.refl U.vm) qK, EVS.blind g mk a qE⟩, gH_rc hK hT hr_o0 shm_0 rfl, fun U hU hW => ⟨rfl, hU, va_K.moved hW.alike hK, hE.call hS hFc hU hW⟩⟩ rfl rfl hl.1 rfl (lv_room (Nat.le_of_ble_eq_true rfl)) dX12_choose_22 ⟨(Nat.le_of_ble_eq_true rfl), (Nat.le_of_ble_eq_true rfl)⟩) hS (fun q _ h => hFc q h) hFc (fun r2075 u t H locs ht hvm hw2076 hB _ _ hS => ?_)
    obtain ⟨hT, hF1⟩ := hB
    rw [ht] at hT hF1
    have m2077 := (hF1.fld hr_o0 skm_0 (k := 42) (by decide) (by decide)).trans m44
    have m2078 := (hF1.fld hr_o0 skm_0 (k := 47) (by decide) (by decide)).trans m45
    have m2079 := m46.kept (hF1.arr hg1 skm_39 (by decide))
    have m2080 := m47.kept (hF1.arr hg2 skm_47 (by decide))
    have m2081 := m48.kept (hF1.arr hg3 skm_40 (by decide))
    have m2082 := m49.kept (hF1.arr hg4 skm_32 (by decide))
    have m2083 := m50.kept (hF1.arr hg5 skm_33 (by decide))
    have m2084 := m51.kept (hF1.arr hg6 skm_34 (by decide))
    have m2085 := m52.kept (hF1.arr hg7 skm_35 (by decide))
    have m2086 := m53.kept (hF1.arr hg8 skm_36 (by decide))
    have m2087 := m54.kept (hF1.arr hg9 skm_37 (by decide))
    have m2088 := m55.kept (hF1.arr hg10 skm_41 (by decide))
    have m2089 := m56.kept (hF1.arr hg11 skm_31 (by decide))
    have m2090 := m57.kept (hF1.arr hg12 skm_30 (by decide))
    have m2091 := m58.kept (hF1.arr hg13 skm_20 (by decide))
    have m2092 := m59.kept (hF1.arr hg14 skm_25 (by decide))
    have m2093 := m60.kept (hF1.arr hg15 skm_26 (by decide))
    have m2094 := m61.kept (hF1.arr hg16 skm_27 (by decide))
    have m2095 := m62.kept (hF1.arr hg17 skm_28 (by decide))
    have m2096 := m63.kept (hF1.arr hg18 skm_19 (by decide))
    have m2097 := m64.kept (hF1.arr hg19 skm_52 (by decide))
    have hF := hF.more hF1 (by decide)
    try dsimp only at hw2076
    obtain ⟨h2099, hd2100⟩ := hw2076
    obtain rfl : (1 : Int32) = r2075 := hd2100.symm
    refine lv_if_eq (tgt := 30) hx hb dX12_choose_25 (by decide) (fun c2101 => absurd c2101 (by decide)) (fun c2101 => ?_)
    refine lv_iconst (v := 0) hx hb dX12_choose_28 (by decide) ?_
    exact W.iret (v := 0) hx hb hr (fun t ht hW => ⟨⟨0, (vH, vR), rfl, (by exact (Or.inr ⟨⟨rfl, rfl⟩, fun h8 => by have := h8.1; omega⟩)), by (try dsimp only); rw [ht]; exact ⟨hT, hF, m2079, m2080⟩⟩, hS.F ht⟩) hS.2.2 dX12_choose_29
