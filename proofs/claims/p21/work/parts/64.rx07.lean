set_option maxHeartbeats 4000000 in
set_option maxRecDepth 100000 in
theorem s_looksAtZ (l : Launch) (dC : Nat → ClassId) (dI : Nat → Nat → Nat) (kA : Nat → ClassId) (adK adV : Nat → Nat) (G : gT) (H0 : Heap) (q : Nat → Nat) (wZ wN : Nat → Int) (wH wB wC : Int) (wL wK : Nat → Prop) (wU wV : Nat → Nat) (PI : Nat → Int → Prop) (im : Int) (PM PT : Nat → Int → Prop) (lS lB lE : Nat → Nat → Int → Prop) (lN : Nat → Int) (o0 : Nat) (pe : Int32) (vH : Nat → Int32) (vG : Nat → Int32) (vA : Nat → Int32) (vD : Nat → Int32) (vC : Nat → Int32) (vU : Nat → Int32) (vI : Nat → Int32) (vM : Nat → Int32) (vW : Nat → Int32) (fL : Nat → Int64)  (hT : gH (dC, dI) kA (SHm q (wP wZ wN wH wB wC wL wK wU wV) PI im PM PT lS lB lE lN) G H0) (hr_o0 : G o0 = some 0) (hq0 : 0 ≤ pe.toInt ∧ pe.toInt ≤ 59) (hno : (vH pe.toNatClampNeg).toInt < 0) (hc_vH : ct H0 (q 38) 60 vH) (hc_vG : ct H0 (q 39) 60 vG) (hc_vA : ct H0 (q 31) 60 vA) (hc_vD : ct H0 (q 32) 60 vD) (hc_vC : ct H0 (q 33) 60 vC) (hc_vU : ct H0 (q 34) 60 vU) (hc_vI : ct H0 (q 35) 60 vI) (hc_vM : ct H0 (q 36) 60 vM) (hc_vW : ct H0 (q 40) 60 vW) (hc_fL : ctl H0 (q 30) 10 fL) (hgz : ∀ i, 0 ≤ wZ i) (hgn : ∀ i, 6500000 ≤ wN i ∧ wN i ≤ 20200000) (hgh : 0 ≤ wH ∧ wH ≤ 40000) (hgb : 0 ≤ wB ∧ wB ≤ 3850000) (hgc : 0 ≤ wC ∧ wC ≤ 30) (hgi : 0 ≤ im ∧ im ≤ 1) (hgu : ∀ a t, G a = some (t + 1) → a = q t) : Met l yX12_looksAt w_s_looksAtZ ({ frames := 1, cells := 0, slots := 0, locals := 24 }) (va_Pc [.ref o0, .int pe] (fun U => U.heap = H0 ∧ va_K (dC, dI) vwCl (tyl kA) U ∧ EVS adK adV (gA G H0.size) U U.heap)) (va_Qv (fun (u : (Nat → Int64)) => (zfE [0, (vG pe.toNatClampNeg).toInt, (vA pe.toNatClampNeg).toInt, (vD pe.toNatClampNeg).toInt, (vC pe.toNatClampNeg).toInt, (vU pe.toNatClampNeg).toInt, (vI pe.toNatClampNeg).toInt, (vM pe.toNatClampNeg).toInt, 99, (vW pe.toNatClampNeg).toInt] u)) (fun (fL1 : (Nat → Int64)) (t : State) => gH (dC, dI) kA (SHm q (wP wZ wN wH wB wC wL wK wU wV) PI im PM PT lS lB lE lN) G t.heap ∧ gF (dC, dI) SKm G ([(31, 0)] : List (Nat × Nat)) H0 t.heap ∧ ctl t.heap (q 30) 10 fL1) (gA G H0.size)) 0 0 (gA G H0.size) := by
  refine Met.ofW (cc := cX12_looksAt) (maxL := 2) (ret := none) (by decide) rfl ?_
  intro p e s m args below meth c s₁ B hml hv
  obtain ⟨rfl, hH0, hK, hE⟩ := hv
  have hx := B.exec
  have hb := B.bytes
  have hr := B.returns
  have hts := atoms_spec (ws := w_s_looksAtZ) B.pre
  have hown : s.vm.findClass RX12 = some m.cls := findClass_of_methodNamed B.named
  have hlocks := B.notSynchronized
  subst hH0
  generalize hAe : gA G s.heap.size = A at hE ⊢
  have hA : ∀ q : Nat, s.heap.size ≤ q → A q := fun q h => by rw [← hAe]; exact Or.inr h
  have hG := gA_of hAe
  have hS : va_S A s.heap s.heap [] := va_S.rf
  have hF : gF (dC, dI) SKm G ([(31, 0)] : List (Nat × Nat)) s.heap s.heap := gF.rf
  have hl := lv_entry ([.ref o0, .int pe]) (n := 2) (Nat.le_of_ble_eq_true rfl)
  rw [lg_entry_eq]
  generalize (lg_sl ([.ref o0, .int pe]) ++ List.replicate (2 - (lg_sl ([.ref o0, .int pe])).length) Slot.unset).toArray = ls at hl ⊢
  have hl : lv_has ls 2 [(0, .ref o0), (1, .int pe)] := hl
  have hg1 : G (q 38) = some 39 := gx_of hT hr_o0 shm_0 (k := 38) (by decide) rfl
  have hg2 : G (q 39) = some 40 := gx_of hT hr_o0 shm_0 (k := 39) (by decide) rfl
  have hg3 : G (q 31) = some 32 := gx_of hT hr_o0 shm_0 (k := 31) (by decide) rfl
  have hg4 : G (q 32) = some 33 := gx_of hT hr_o0 shm_0 (k := 32) (by decide) rfl
  have hg5 : G (q 33) = some 34 := gx_of hT hr_o0 shm_0 (k := 33) (by decide) rfl
  have hg6 : G (q 34) = some 35 := gx_of hT hr_o0 shm_0 (k := 34) (by decide) rfl
  have hg7 : G (q 35) = some 36 := gx_of hT hr_o0 shm_0 (k := 35) (by decide) rfl
  have hg8 : G (q 36) = some 37 := gx_of hT hr_o0 shm_0 (k := 36) (by decide) rfl
  have hg9 : G (q 40) = some 41 := gx_of hT hr_o0 shm_0 (k := 40) (by decide) rfl
  have hg10 : G (q 30) = some 31 := gx_of hT hr_o0 shm_0 (k := 30) (by decide) rfl
  refine lv_aload_n hx hb dX12_looksAt_0 rfl (lv_at hl 0 rfl) ?_
  refine tw_get hx hb hts bF_X12 hown hK hT hr_o0 shm_0 rfl 30 (by decide) (ht_at hts 0 rfl) (fun _ h9 => h9) dX12_looksAt_1 (fun v9 m11 h9 => ?_)
  obtain ⟨rfl, hg12⟩ := h9 _ rfl
  refine lv_iconst (v := 0) hx hb dX12_looksAt_4 (by decide) ?_
  refine lv_aload_n hx hb dX12_looksAt_5 rfl (lv_at hl 0 rfl) ?_
  refine lv_iload_n hx hb dX12_looksAt_6 rfl (lv_at hl 1 rfl) ?_
  have hFc := gA_free hG hA hS
  refine va_calli (va_runV (As := [.int pe]) (rest := [.int 0, .ref (q 30)]) ⟨hx, hb, hml, hown, hts⟩ (s_acresZ l dC dI kA adK adV G s.heap q wZ wN wH wB wC wL wK wU wV PI im PM PT lS lB lE lN o0 pe vH hT hr_o0 (by have q8 := ti_all pe; omega) hno hc_vH hgz hgn hgh hgb hgc hgi hgu) (cwV 1 hts (goodIn_app (goodIn_r _ [4, 5, 6, 7] rfl (by decide +kernel)) (goodIn_ca (goodIn_r _ [2, 3] rfl (by decide +kernel)) (bs_in _ _))) rfl rfl rfl (by decide +kernel) ⟨(Nat.le_of_ble_eq_true rfl), (Nat.le_of_ble_eq_true rfl)⟩) ⟨fun a U g mk q => by obtain ⟨q0, q1, qK, qE⟩ := q; exact ⟨q0, q1, va_K.moved (u := U) (U := U.calling g mk a) (Vm.Alike.refl U.vm) qK, EVS.blind g mk a qE⟩, gH_rc hK hT hr_o0 shm_0 rfl, fun U hU hW => ⟨rfl, hU, va_K.moved hW.alike hK, hE.call hS hFc hU hW⟩⟩ rfl rfl hl.1 rfl (lv_room (Nat.le_of_ble_eq_true rfl)) dX12_looksAt_7 ⟨(Nat.le_of_ble_eq_true rfl), (Nat.le_of_ble_eq_true rfl)⟩) hS (fun q _ h => hFc q h) hFc (fun r13 u t H locs ht hvm hw14 hB _ _ hS => ?_)
  obtain ⟨hT, hF1⟩ := hB
  rw [ht] at hT hF1
  have m15 := hc_vH.kept (hF1.arr hg1 skm_39 (by decide))
  have m16 := hc_vG.kept (hF1.arr hg2 skm_40 (by decide))
  have m17 := hc_vA.kept (hF1.arr hg3 skm_32 (by decide))
  have m18 := hc_vD.kept (hF1.arr hg4 skm_33 (by decide))
  have m19 := hc_vC.kept (hF1.arr hg5 skm_34 (by decide))
  have m20 := hc_vU.kept (hF1.arr hg6 skm_35 (by decide))
  have m21 := hc_vI.kept (hF1.arr hg7 skm_36 (by decide))
  have m22 := hc_vM.kept (hF1.arr hg8 skm_37 (by decide))
  have m23 := hc_vW.kept (hF1.arr hg9 skm_41 (by decide))
  have m24 := hc_fL.kept (hF1.arr hg10 skm_31 (by decide))
  have hF := hF.more hF1 (by decide)
  try dsimp only at hw14
  obtain ⟨h25, hd26⟩ := hw14
  obtain rfl : (0 : Int32) = r13 := hd26.symm
  refine lv_i2l (v := 0) hx hb dX12_looksAt_10 (by decide) ?_
  refine tw_last (i := 0)  hx hb hK hT hG hS hg10 shm_31 rfl (by unfold vp_in; decide) ⟨_, rfl⟩ dX12_looksAt_11 (fun H locs hT oq m27 oi hS => ?_)
  have hF := hF.ast hg10 skm_31 oq (by decide)
  have m28 := m15.kept (oq _ (gne hg1 hg10 (by decide)))
  have m29 := m16.kept (oq _ (gne hg2 hg10 (by decide)))
  have m30 := m17.kept (oq _ (gne hg3 hg10 (by decide)))
  have m31 := m18.kept (oq _ (gne hg4 hg10 (by decide)))
  have m32 := m19.kept (oq _ (gne hg5 hg10 (by decide)))
  have m33 := m20.kept (oq _ (gne hg6 hg10 (by decide)))
  have m34 := m21.kept (oq _ (gne hg7 hg10 (by decide)))
  have m35 := m22.kept (oq _ (gne hg8 hg10 (by decide)))
  have m36 := m23.kept (oq _ (gne hg9 hg10 (by decide)))
  have m37 := m24.put m27 oi
  refine lv_aload_n hx hb dX12_looksAt_12 rfl (lv_at hl 0 rfl) ?_
  refine tw_get hx hb hts bF_X12 hown hK hT hr_o0 shm_0 rfl 30 (by decide) (ht_at hts 0 rfl) (fun _ h9 => h9) dX12_looksAt_13 (fun v9 m38 h9 => ?_)
  obtain ⟨rfl, hg39⟩ := h9 _ rfl
  refine lv_iconst (v := 1) hx hb dX12_looksAt_16 (by decide) ?_
  refine lv_aload_n hx hb dX12_looksAt_17 rfl (lv_at hl 0 rfl) ?_
  refine tw_get hx hb hts bF_X12 hown hK hT hr_o0 shm_0 rfl 39 (by decide) (ht_at hts 7 rfl) (fun _ h9 => h9) dX12_looksAt_18 (fun v9 m40 h9 => ?_)
  obtain ⟨rfl, hg41⟩ := h9 _ rfl
  refine lv_iload_n hx hb dX12_looksAt_21 rfl (lv_at hl 1 rfl) ?_
  refine tw_iald (i := pe) hx hb hK hT hg2 shm_40 rfl (vin_t (a := pe.toInt) rfl (by omega) (by omega)) dX12_looksAt_22 (fun v9 m42 h9 => ?_)
  obtain ⟨x43, rfl, gx43, kx43⟩ := h9
  have cx43 := m29.at m42 (by have q9 := tn_of (show pe.toInt = pe.toInt from rfl) (by omega); omega)
  refine lv_i2l (v := x43.toInt64) hx hb dX12_looksAt_23 rfl ?_
  refine tw_last (i := 1)  hx hb hK hT hG hS hg10 shm_31 rfl (by unfold vp_in; decide) ⟨_, rfl⟩ dX12_looksAt_24 (fun H locs hT oq m44 oi hS => ?_)
  have hF := hF.ast hg10 skm_31 oq (by decide)
  have m45 := m28.kept (oq _ (gne hg1 hg10 (by decide)))
  have m47 := m30.kept (oq _ (gne hg3 hg10 (by decide)))
  have m48 := m31.kept (oq _ (gne hg4 hg10 (by decide)))
  have m49 := m32.kept (oq _ (gne hg5 hg10 (by decide)))
  have m50 := m33.kept (oq _ (gne hg6 hg10 (by decide)))
  have m51 := m34.kept (oq _ (gne hg7 hg10 (by decide)))
  have m52 := m35.kept (oq _ (gne hg8 hg10 (by decide)))
  have m53 := m36.kept (oq _ (gne hg9 hg10 (by decide)))
  have m54 := m37.put m44 oi
  refine lv_aload_n hx hb dX12_looksAt_25 rfl (lv_at hl 0 rfl) ?_
  refine tw_get hx hb hts bF_X12 hown hK hT hr_o0 shm_0 rfl 30 (by decide) (ht_at hts 0 rfl) (fun _ h9 => h9) dX12_looksAt_26 (fun v9 m56 h9 => ?_)
  obtain ⟨rfl, hg57⟩ := h9 _ rfl
  refine lv_iconst (v := 2) hx hb dX12_looksAt_29 (by decide) ?_
  refine lv_aload_n hx hb dX12_looksAt_30 rfl (lv_at hl 0 rfl) ?_
  refine tw_get hx hb hts bF_X12 hown hK hT hr_o0 shm_0 rfl 31 (by decide) (ht_at hts 8 rfl) (fun _ h9 => h9) dX12_looksAt_31 (fun v9 m58 h9 => ?_)
  obtain ⟨rfl, hg59⟩ := h9 _ rfl
  refine lv_iload_n hx hb dX12_looksAt_34 rfl (lv_at hl 1 rfl) ?_
  refine tw_iald (i := pe) hx hb hK hT hg3 shm_32 rfl (vin_t (a := pe.toInt) rfl (by omega) (by omega)) dX12_looksAt_35 (fun v9 m60 h9 => ?_)
  obtain ⟨x61, rfl, gx61, kx61⟩ := h9
  have cx61 := m47.at m60 (by have q9 := tn_of (show pe.toInt = pe.toInt from rfl) (by omega); omega)
  refine lv_i2l (v := x61.toInt64) hx hb dX12_looksAt_36 rfl ?_
  refine tw_last (i := 2)  hx hb hK hT hG hS hg10 shm_31 rfl (by unfold vp_in; decide) ⟨_, rfl⟩ dX12_looksAt_37 (fun H locs hT oq m62 oi hS => ?_)
  have hF := hF.ast hg10 skm_31 oq (by decide)
  have m63 := m45.kept (oq _ (gne hg1 hg10 (by decide)))
  have m66 := m48.kept (oq _ (gne hg4 hg10 (by decide)))
  have m67 := m49.kept (oq _ (gne hg5 hg10 (by decide)))
  have m68 := m50.kept (oq _ (gne hg6 hg10 (by decide)))
  have m69 := m51.kept (oq _ (gne hg7 hg10 (by decide)))
  have m70 := m52.kept (oq _ (gne hg8 hg10 (by decide)))
  have m71 := m53.kept (oq _ (gne hg9 hg10 (by decide)))
  have m72 := m54.put m62 oi
  refine lv_aload_n hx hb dX12_looksAt_38 rfl (lv_at hl 0 rfl) ?_
  refine tw_get hx hb hts bF_X12 hown hK hT hr_o0 shm_0 rfl 30 (by decide) (ht_at hts 0 rfl) (fun _ h9 => h9) dX12_looksAt_39 (fun v9 m75 h9 => ?_)
  obtain ⟨rfl, hg76⟩ := h9 _ rfl
  refine lv_iconst (v := 3) hx hb dX12_looksAt_42 (by decide) ?_
  refine lv_aload_n hx hb dX12_looksAt_43 rfl (lv_at hl 0 rfl) ?_
  refine tw_get hx hb hts bF_X12 hown hK hT hr_o0 shm_0 rfl 32 (by decide) (ht_at hts 9 rfl) (fun _ h9 => h9) dX12_looksAt_44 (fun v9 m77 h9 => ?_)
  obtain ⟨rfl, hg78⟩ := h9 _ rfl
  refine lv_iload_n hx hb dX12_looksAt_47 rfl (lv_at hl 1 rfl) ?_
  refine tw_iald (i := pe) hx hb hK hT hg4 shm_33 rfl (vin_t (a := pe.toInt) rfl (by omega) (by omega)) dX12_looksAt_48 (fun v9 m79 h9 => ?_)
  obtain ⟨x80, rfl, gx80, kx80⟩ := h9
  have cx80 := m66.at m79 (by have q9 := tn_of (show pe.toInt = pe.toInt from rfl) (by omega); omega)
  refine lv_i2l (v := x80.toInt64) hx hb dX12_looksAt_49 rfl ?_
  refine tw_last (i := 3)  hx hb hK hT hG hS hg10 shm_31 rfl (by unfold vp_in; decide) ⟨_, rfl⟩ dX12_looksAt_50 (fun H locs hT oq m81 oi hS => ?_)
  have hF := hF.ast hg10 skm_31 oq (by decide)
  have m82 := m63.kept (oq _ (gne hg1 hg10 (by decide)))
  have m86 := m67.kept (oq _ (gne hg5 hg10 (by decide)))
  have m87 := m68.kept (oq _ (gne hg6 hg10 (by decide)))
  have m88 := m69.kept (oq _ (gne hg7 hg10 (by decide)))
  have m89 := m70.kept (oq _ (gne hg8 hg10 (by decide)))
  have m90 := m71.kept (oq _ (gne hg9 hg10 (by decide)))
  have m91 := m72.put m81 oi
  refine lv_aload_n hx hb dX12_looksAt_51 rfl (lv_at hl 0 rfl) ?_
  refine tw_get hx hb hts bF_X12 hown hK hT hr_o0 shm_0 rfl 30 (by decide) (ht_at hts 0 rfl) (fun _ h9 => h9) dX12_looksAt_52 (fun v9 m95 h9 => ?_)
  obtain ⟨rfl, hg96⟩ := h9 _ rfl
  refine lv_iconst (v := 4) hx hb dX12_looksAt_55 (by decide) ?_
  refine lv_aload_n hx hb dX12_looksAt_56 rfl (lv_at hl 0 rfl) ?_
  refine tw_get hx hb hts bF_X12 hown hK hT hr_o0 shm_0 rfl 33 (by decide) (ht_at hts 10 rfl) (fun _ h9 => h9) dX12_looksAt_57 (fun v9 m97 h9 => ?_)
  obtain ⟨rfl, hg98⟩ := h9 _ rfl
  refine lv_iload_n hx hb dX12_looksAt_60 rfl (lv_at hl 1 rfl) ?_
  refine tw_iald (i := pe) hx hb hK hT hg5 shm_34 rfl (vin_t (a := pe.toInt) rfl (by omega) (by omega)) dX12_looksAt_61 (fun v9 m99 h9 => ?_)
  obtain ⟨x100, rfl, gx100, kx100⟩ := h9
  have cx100 := m86.at m99 (by have q9 := tn_of (show pe.toInt = pe.toInt from rfl) (by omega); omega)
  refine lv_i2l (v := x100.toInt64) hx hb dX12_looksAt_62 rfl ?_
  refine tw_last (i := 4)  hx hb hK hT hG hS hg10 shm_31 rfl (by unfold vp_in; decide) ⟨_, rfl⟩ dX12_looksAt_63 (fun H locs hT oq m101 oi hS => ?_)
  have hF := hF.ast hg10 skm_31 oq (by decide)
  have m102 := m82.kept (oq _ (gne hg1 hg10 (by decide)))
  have m107 := m87.kept (oq _ (gne hg6 hg10 (by decide)))
  have m108 := m88.kept (oq _ (gne hg7 hg10 (by decide)))
  have m109 := m89.kept (oq _ (gne hg8 hg10 (by decide)))
  have m110 := m90.kept (oq _ (gne hg9 hg10 (by decide)))
  have m111 := m91.put m101 oi
  refine lv_aload_n hx hb dX12_looksAt_64 rfl (lv_at hl 0 rfl) ?_
  refine tw_get hx hb hts bF_X12 hown hK hT hr_o0 shm_0 rfl 30 (by decide) (ht_at hts 0 rfl) (fun _ h9 => h9) dX12_looksAt_65 (fun v9 m116 h9 => ?_)
  obtain ⟨rfl, hg117⟩ := h9 _ rfl
  refine lv_iconst (v := 5) hx hb dX12_looksAt_68 (by decide) ?_
  refine lv_aload_n hx hb dX12_looksAt_69 rfl (lv_at hl 0 rfl) ?_
  refine tw_get hx hb hts bF_X12 hown hK hT hr_o0 shm_0 rfl 34 (by decide) (ht_at hts 11 rfl) (fun _ h9 => h9) dX12_looksAt_70 (fun v9 m118 h9 => ?_)
  obtain ⟨rfl, hg119⟩ := h9 _ rfl
  refine lv_iload_n hx hb dX12_looksAt_73 rfl (lv_at hl 1 rfl) ?_
  refine tw_iald (i := pe) hx hb hK hT hg6 shm_35 rfl (vin_t (a := pe.toInt) rfl (by omega) (by omega)) dX12_looksAt_74 (fun v9 m120 h9 => ?_)
  obtain ⟨x121, rfl, gx121, kx121⟩ := h9
  have cx121 := m107.at m120 (by have q9 := tn_of (show pe.toInt = pe.toInt from rfl) (by omega); omega)
  refine lv_i2l (v := x121.toInt64) hx hb dX12_looksAt_75 rfl ?_
  refine tw_last (i := 5)  hx hb hK hT hG hS hg10 shm_31 rfl (by unfold vp_in; decide) ⟨_, rfl⟩ dX12_looksAt_76 (fun H locs hT oq m122 oi hS => ?_)
  have hF := hF.ast hg10 skm_31 oq (by decide)
  have m123 := m102.kept (oq _ (gne hg1 hg10 (by decide)))
  have m129 := m108.kept (oq _ (gne hg7 hg10 (by decide)))
  have m130 := m109.kept (oq _ (gne hg8 hg10 (by decide)))
  have m131 := m110.kept (oq _ (gne hg9 hg10 (by decide)))
  have m132 := m111.put m122 oi
  refine lv_aload_n hx hb dX12_looksAt_77 rfl (lv_at hl 0 rfl) ?_
  refine tw_get hx hb hts bF_X12 hown hK hT hr_o0 shm_0 rfl 30 (by decide) (ht_at hts 0 rfl) (fun _ h9 => h9) dX12_looksAt_78 (fun v9 m138 h9 => ?_)
  obtain ⟨rfl, hg139⟩ := h9 _ rfl
  refine lv_bipush (v := 6) hx hb dX12_looksAt_81 (by decide) ?_
  refine lv_aload_n hx hb dX12_looksAt_83 rfl (lv_at hl 0 rfl) ?_
  refine tw_get hx hb hts bF_X12 hown hK hT hr_o0 shm_0 rfl 35 (by decide) (ht_at hts 12 rfl) (fun _ h9 => h9) dX12_looksAt_84 (fun v9 m140 h9 => ?_)
  obtain ⟨rfl, hg141⟩ := h9 _ rfl
  refine lv_iload_n hx hb dX12_looksAt_87 rfl (lv_at hl 1 rfl) ?_
  refine tw_zald (i := pe) hx hb hK hT hg7 shm_36 rfl (vin_t (a := pe.toInt) rfl (by omega) (by omega)) dX12_looksAt_88 (fun v9 m142 h9 => ?_)
  obtain ⟨x143, rfl, gx143, kx143⟩ := h9
  have cx143 := m129.at m142 (by have q9 := tn_of (show pe.toInt = pe.toInt from rfl) (by omega); omega)
  refine lv_if_eq (tgt := 96) hx hb dX12_looksAt_89 (by decide) (fun c144 => ?_) (fun c144 => ?_)
  · have t145 : x143.toInt = 0 := ti_eq c144 rfl (by decide)
    refine lv_lconst (v := 0) hx hb dX12_looksAt_96 (by decide) ?_
    refine tw_last (i := 6)  hx hb hK hT hG hS hg10 shm_31 rfl (by unfold vp_in; decide) ⟨_, rfl⟩ dX12_looksAt_97 (fun H locs hT oq m146 oi hS => ?_)
    have hF := hF.ast hg10 skm_31 oq (by decide)
    have m147 := m123.kept (oq _ (gne hg1 hg10 (by decide)))
    have m154 := m130.kept (oq _ (gne hg8 hg10 (by decide)))
    have m155 := m131.kept (oq _ (gne hg9 hg10 (by decide)))
    have m156 := m132.put m146 oi
    refine lv_aload_n hx hb dX12_looksAt_98 rfl (lv_at hl 0 rfl) ?_
    refine tw_get hx hb hts bF_X12 hown hK hT hr_o0 shm_0 rfl 30 (by decide) (ht_at hts 0 rfl) (fun _ h9 => h9) dX12_looksAt_99 (fun v9 m163 h9 => ?_)
    obtain ⟨rfl, hg164⟩ := h9 _ rfl
    refine lv_bipush (v := 7) hx hb dX12_looksAt_102 (by decide) ?_
    refine lv_aload_n hx hb dX12_looksAt_104 rfl (lv_at hl 0 rfl) ?_
    refine tw_get hx hb hts bF_X12 hown hK hT hr_o0 shm_0 rfl 36 (by decide) (ht_at hts 13 rfl) (fun _ h9 => h9) dX12_looksAt_105 (fun v9 m165 h9 => ?_)
    obtain ⟨rfl, hg166⟩ := h9 _ rfl
    refine lv_iload_n hx hb dX12_looksAt_108 rfl (lv_at hl 1 rfl) ?_
    refine tw_zald (i := pe) hx hb hK hT hg8 shm_37 rfl (vin_t (a := pe.toInt) rfl (by omega) (by omega)) dX12_looksAt_109 (fun v9 m167 h9 => ?_)
    obtain ⟨x168, rfl, gx168, kx168⟩ := h9
    have cx168 := m154.at m167 (by have q9 := tn_of (show pe.toInt = pe.toInt from rfl) (by omega); omega)
    refine lv_if_eq (tgt := 117) hx hb dX12_looksAt_110 (by decide) (fun c169 => ?_) (fun c169 => ?_)
    · have t170 : x168.toInt = 0 := ti_eq c169 rfl (by decide)
      refine lv_lconst (v := 0) hx hb dX12_looksAt_117 (by decide) ?_
      refine tw_last (i := 7)  hx hb hK hT hG hS hg10 shm_31 rfl (by unfold vp_in; decide) ⟨_, rfl⟩ dX12_looksAt_118 (fun H locs hT oq m171 oi hS => ?_)
      have hF := hF.ast hg10 skm_31 oq (by decide)
      have m172 := m147.kept (oq _ (gne hg1 hg10 (by decide)))
      have m180 := m155.kept (oq _ (gne hg9 hg10 (by decide)))
      have m181 := m156.put m171 oi
      refine lv_aload_n hx hb dX12_looksAt_119 rfl (lv_at hl 0 rfl) ?_
      refine tw_get hx hb hts bF_X12 hown hK hT hr_o0 shm_0 rfl 30 (by decide) (ht_at hts 0 rfl) (fun _ h9 => h9) dX12_looksAt_120 (fun v9 m189 h9 => ?_)
      obtain ⟨rfl, hg190⟩ := h9 _ rfl
      refine lv_bipush (v := 8) hx hb dX12_looksAt_123 (by decide) ?_
      refine lv_aload_n hx hb dX12_looksAt_125 rfl (lv_at hl 0 rfl) ?_
      refine lv_iload_n hx hb dX12_looksAt_126 rfl (lv_at hl 1 rfl) ?_
      have hFc := gA_free hG hA hS
      refine va_calli (va_runV (As := [.int pe]) (rest := [.int 8, .ref (q 30)]) ⟨hx, hb, hml, hown, hts⟩ (s_nearZ l dC dI kA adK adV G H q wZ wN wH wB wC wL wK wU wV PI im PM PT lS lB lE lN o0 pe vH hT hr_o0 (by have q8 := ti_all pe; omega) hno m172 hgz hgn hgh hgb hgc hgi hgu) (cwV 1 hts (goodIn_app (goodIn_r _ [16, 17, 18, 7] rfl (by decide +kernel)) (goodIn_ca (goodIn_r _ [15, 3] rfl (by decide +kernel)) (bs_in _ _))) rfl rfl rfl (by decide +kernel) ⟨(Nat.le_of_ble_eq_true rfl), (Nat.le_of_ble_eq_true rfl)⟩) ⟨fun a U g mk q => by obtain ⟨q0, q1, qK, qE⟩ := q; exact ⟨q0, q1, va_K.moved (u := U) (U := U.calling g mk a) (Vm.Alike.refl U.vm) qK, EVS.blind g mk a qE⟩, gH_rc hK hT hr_o0 shm_0 rfl, fun U hU hW => ⟨rfl, hU, va_K.moved hW.alike hK, hE.call hS hFc hU hW⟩⟩ rfl rfl hl.1 rfl (lv_room (Nat.le_of_ble_eq_true rfl)) dX12_looksAt_127 ⟨(Nat.le_of_ble_eq_true rfl), (Nat.le_of_ble_eq_true rfl)⟩) hS (fun q _ h => hFc q h) hFc (fun r191 u t H locs ht hvm hw192 hB _ _ hS => ?_)
      obtain ⟨hT, hF1⟩ := hB
      rw [ht] at hT hF1
      have m201 := m180.kept (hF1.arr hg9 skm_41 (by decide))
      have m202 := m181.kept (hF1.arr hg10 skm_31 (by decide))
      have hF := hF.more hF1 (by decide)
      try dsimp only at hw192
      obtain ⟨h210, hd211⟩ := hw192
      obtain rfl : (99 : Int32) = r191 := hd211.symm
      refine lv_i2l (v := 99) hx hb dX12_looksAt_130 (by decide) ?_
      refine tw_last (i := 8)  hx hb hK hT hG hS hg10 shm_31 rfl (by unfold vp_in; decide) ⟨_, rfl⟩ dX12_looksAt_131 (fun H locs hT oq m212 oi hS => ?_)
      have hF := hF.ast hg10 skm_31 oq (by decide)
      have m221 := m201.kept (oq _ (gne hg9 hg10 (by decide)))
      have m222 := m202.put m212 oi
      refine lv_aload_n hx hb dX12_looksAt_132 rfl (lv_at hl 0 rfl) ?_
      refine tw_get hx hb hts bF_X12 hown hK hT hr_o0 shm_0 rfl 30 (by decide) (ht_at hts 0 rfl) (fun _ h9 => h9) dX12_looksAt_133 (fun v9 m230 h9 => ?_)
      obtain ⟨rfl, hg231⟩ := h9 _ rfl
      refine lv_bipush (v := 9) hx hb dX12_looksAt_136 (by decide) ?_
      refine lv_aload_n hx hb dX12_looksAt_138 rfl (lv_at hl 0 rfl) ?_
      refine tw_get hx hb hts bF_X12 hown hK hT hr_o0 shm_0 rfl 40 (by decide) (ht_at hts 18 rfl) (fun _ h9 => h9) dX12_looksAt_139 (fun v9 m232 h9 => ?_)
      obtain ⟨rfl, hg233⟩ := h9 _ rfl
      refine lv_iload_n hx hb dX12_looksAt_142 rfl (lv_at hl 1 rfl) ?_
      refine tw_iald (i := pe) hx hb hK hT hg9 shm_41 rfl (vin_t (a := pe.toInt) rfl (by omega) (by omega)) dX12_looksAt_143 (fun v9 m234 h9 => ?_)
      obtain ⟨x235, rfl, gx235, kx235⟩ := h9
      have cx235 := m221.at m234 (by have q9 := tn_of (show pe.toInt = pe.toInt from rfl) (by omega); omega)
      refine lv_i2l (v := x235.toInt64) hx hb dX12_looksAt_144 rfl ?_
      refine tw_last (i := 9)  hx hb hK hT hG hS hg10 shm_31 rfl (by unfold vp_in; decide) ⟨_, rfl⟩ dX12_looksAt_145 (fun H locs hT oq m236 oi hS => ?_)
      have hF := hF.ast hg10 skm_31 oq (by decide)
      have m246 := m222.put m236 oi
      exact W.vret hx hb hr (fun t ht hW => ⟨⟨(cul (cul (cul (cul (cul (cul (cul (cul (cul (cul fL (0 : Int32).toNatClampNeg (0 : Int64)) (1 : Int32).toNatClampNeg x43.toInt64) (2 : Int32).toNatClampNeg x61.toInt64) (3 : Int32).toNatClampNeg x80.toInt64) (4 : Int32).toNatClampNeg x100.toInt64) (5 : Int32).toNatClampNeg x121.toInt64) (6 : Int32).toNatClampNeg (0 : Int64)) (7 : Int32).toNatClampNeg (0 : Int64)) (8 : Int32).toNatClampNeg (99 : Int64)) (9 : Int32).toNatClampNeg x235.toInt64), rfl, (by exact (by intro k hk; (try dsimp only); rcases (show k = 0 ∨ k = 1 ∨ k = 2 ∨ k = 3 ∨ k = 4 ∨ k = 5 ∨ k = 6 ∨ k = 7 ∨ k = 8 ∨ k = 9 by omega) with rfl | rfl | rfl | rfl | rfl | rfl | rfl | rfl | rfl | rfl; (rw [cul_o (show (0 : Nat) ≠ (9 : Int32).toNatClampNeg from by decide), cul_o (show (0 : Nat) ≠ (8 : Int32).toNatClampNeg from by decide), cul_o (show (0 : Nat) ≠ (7 : Int32).toNatClampNeg from by decide), cul_o (show (0 : Nat) ≠ (6 : Int32).toNatClampNeg from by decide), cul_o (show (0 : Nat) ≠ (5 : Int32).toNatClampNeg from by decide), cul_o (show (0 : Nat) ≠ (4 : Int32).toNatClampNeg from by decide), cul_o (show (0 : Nat) ≠ (3 : Int32).toNatClampNeg from by decide), cul_o (show (0 : Nat) ≠ (2 : Int32).toNatClampNeg from by decide), cul_o (show (0 : Nat) ≠ (1 : Int32).toNatClampNeg from by decide), cul_s (show (0 : Nat) = (0 : Int32).toNatClampNeg from by decide)]; show _ = Int64.ofInt 0; decide); (rw [cul_o (show (1 : Nat) ≠ (9 : Int32).toNatClampNeg from by decide), cul_o (show (1 : Nat) ≠ (8 : Int32).toNatClampNeg from by decide), cul_o (show (1 : Nat) ≠ (7 : Int32).toNatClampNeg from by decide), cul_o (show (1 : Nat) ≠ (6 : Int32).toNatClampNeg from by decide), cul_o (show (1 : Nat) ≠ (5 : Int32).toNatClampNeg from by decide), cul_o (show (1 : Nat) ≠ (4 : Int32).toNatClampNeg from by decide), cul_o (show (1 : Nat) ≠ (3 : Int32).toNatClampNeg from by decide), cul_o (show (1 : Nat) ≠ (2 : Int32).toNatClampNeg from by decide), cul_s (show (1 : Nat) = (1 : Int32).toNatClampNeg from by decide)]; rw [i2l_of, cx43]; rfl); (rw [cul_o (show (2 : Nat) ≠ (9 : Int32).toNatClampNeg from by decide), cul_o (show (2 : Nat) ≠ (8 : Int32).toNatClampNeg from by decide), cul_o (show (2 : Nat) ≠ (7 : Int32).toNatClampNeg from by decide), cul_o (show (2 : Nat) ≠ (6 : Int32).toNatClampNeg from by decide), cul_o (show (2 : Nat) ≠ (5 : Int32).toNatClampNeg from by decide), cul_o (show (2 : Nat) ≠ (4 : Int32).toNatClampNeg from by decide), cul_o (show (2 : Nat) ≠ (3 : Int32).toNatClampNeg from by decide), cul_s (show (2 : Nat) = (2 : Int32).toNatClampNeg from by decide)]; rw [i2l_of, cx61]; rfl); (rw [cul_o (show (3 : Nat) ≠ (9 : Int32).toNatClampNeg from by decide), cul_o (show (3 : Nat) ≠ (8 : Int32).toNatClampNeg from by decide), cul_o (show (3 : Nat) ≠ (7 : Int32).toNatClampNeg from by decide), cul_o (show (3 : Nat) ≠ (6 : Int32).toNatClampNeg from by decide), cul_o (show (3 : Nat) ≠ (5 : Int32).toNatClampNeg from by decide), cul_o (show (3 : Nat) ≠ (4 : Int32).toNatClampNeg from by decide), cul_s (show (3 : Nat) = (3 : Int32).toNatClampNeg from by decide)]; rw [i2l_of, cx80]; rfl); (rw [cul_o (show (4 : Nat) ≠ (9 : Int32).toNatClampNeg from by decide), cul_o (show (4 : Nat) ≠ (8 : Int32).toNatClampNeg from by decide), cul_o (show (4 : Nat) ≠ (7 : Int32).toNatClampNeg from by decide), cul_o (show (4 : Nat) ≠ (6 : Int32).toNatClampNeg from by decide), cul_o (show (4 : Nat) ≠ (5 : Int32).toNatClampNeg from by decide), cul_s (show (4 : Nat) = (4 : Int32).toNatClampNeg from by decide)]; rw [i2l_of, cx100]; rfl); (rw [cul_o (show (5 : Nat) ≠ (9 : Int32).toNatClampNeg from by decide), cul_o (show (5 : Nat) ≠ (8 : Int32).toNatClampNeg from by decide), cul_o (show (5 : Nat) ≠ (7 : Int32).toNatClampNeg from by decide), cul_o (show (5 : Nat) ≠ (6 : Int32).toNatClampNeg from by decide), cul_s (show (5 : Nat) = (5 : Int32).toNatClampNeg from by decide)]; rw [i2l_of, cx121]; rfl); (rw [cul_o (show (6 : Nat) ≠ (9 : Int32).toNatClampNeg from by decide), cul_o (show (6 : Nat) ≠ (8 : Int32).toNatClampNeg from by decide), cul_o (show (6 : Nat) ≠ (7 : Int32).toNatClampNeg from by decide), cul_s (show (6 : Nat) = (6 : Int32).toNatClampNeg from by decide)]; show _ = Int64.ofInt (vI pe.toNatClampNeg).toInt; rw [show (vI pe.toNatClampNeg).toInt = 0 from by rw [← cx143]; omega]; decide); (rw [cul_o (show (7 : Nat) ≠ (9 : Int32).toNatClampNeg from by decide), cul_o (show (7 : Nat) ≠ (8 : Int32).toNatClampNeg from by decide), cul_s (show (7 : Nat) = (7 : Int32).toNatClampNeg from by decide)]; show _ = Int64.ofInt (vM pe.toNatClampNeg).toInt; rw [show (vM pe.toNatClampNeg).toInt = 0 from by rw [← cx168]; omega]; decide); (rw [cul_o (show (8 : Nat) ≠ (9 : Int32).toNatClampNeg from by decide), cul_s (show (8 : Nat) = (8 : Int32).toNatClampNeg from by decide)]; show _ = Int64.ofInt 99; decide); (rw [cul_s (show (9 : Nat) = (9 : Int32).toNatClampNeg from by decide)]; rw [i2l_of, cx235]; rfl))), by (try dsimp only); rw [ht]; exact ⟨hT, hF, m246⟩⟩, hS.F ht⟩) hS.2.2 dX12_looksAt_146
    · have t255 : x168.toInt ≠ 0 := ti_ne c169 rfl (by decide)
      refine lv_lconst (v := 1) hx hb dX12_looksAt_113 (by decide) ?_
      refine lv_goto (tgt := 118) hx hb dX12_looksAt_114 (by decide) ?_
      refine tw_last (i := 7)  hx hb hK hT hG hS hg10 shm_31 rfl (by unfold vp_in; decide) ⟨_, rfl⟩ dX12_looksAt_118 (fun H locs hT oq m256 oi hS => ?_)
      have hF := hF.ast hg10 skm_31 oq (by decide)
      have m257 := m147.kept (oq _ (gne hg1 hg10 (by decide)))
      have m265 := m155.kept (oq _ (gne hg9 hg10 (by decide)))
      have m266 := m156.put m256 oi
      refine lv_aload_n hx hb dX12_looksAt_119 rfl (lv_at hl 0 rfl) ?_
      refine tw_get hx hb hts bF_X12 hown hK hT hr_o0 shm_0 rfl 30 (by decide) (ht_at hts 0 rfl) (fun _ h9 => h9) dX12_looksAt_120 (fun v9 m274 h9 => ?_)
      obtain ⟨rfl, hg275⟩ := h9 _ rfl
      refine lv_bipush (v := 8) hx hb dX12_looksAt_123 (by decide) ?_
      refine lv_aload_n hx hb dX12_looksAt_125 rfl (lv_at hl 0 rfl) ?_
      refine lv_iload_n hx hb dX12_looksAt_126 rfl (lv_at hl 1 rfl) ?_
      have hFc := gA_free hG hA hS
      refine va_calli (va_runV (As := [.int pe]) (rest := [.int 8, .ref (q 30)]) ⟨hx, hb, hml, hown, hts⟩ (s_nearZ l dC dI kA adK adV G H q wZ wN wH wB wC wL wK wU wV PI im PM PT lS lB lE lN o0 pe vH hT hr_o0 (by have q8 := ti_all pe; omega) hno m257 hgz hgn hgh hgb hgc hgi hgu) (cwV 1 hts (goodIn_app (goodIn_r _ [16, 17, 18, 7] rfl (by decide +kernel)) (goodIn_ca (goodIn_r _ [15, 3] rfl (by decide +kernel)) (bs_in _ _))) rfl rfl rfl (by decide +kernel) ⟨(Nat.le_of_ble_eq_true rfl), (Nat.le_of_ble_eq_true rfl)⟩) ⟨fun a U g mk q => by obtain ⟨q0, q1, qK, qE⟩ := q; exact ⟨q0, q1, va_K.moved (u := U) (U := U.calling g mk a) (Vm.Alike.refl U.vm) qK, EVS.blind g mk a qE⟩, gH_rc hK hT hr_o0 shm_0 rfl, fun U hU hW => ⟨rfl, hU, va_K.moved hW.alike hK, hE.call hS hFc hU hW⟩⟩ rfl rfl hl.1 rfl (lv_room (Nat.le_of_ble_eq_true rfl)) dX12_looksAt_127 ⟨(Nat.le_of_ble_eq_true rfl), (Nat.le_of_ble_eq_true rfl)⟩) hS (fun q _ h => hFc q h) hFc (fun r276 u t H locs ht hvm hw277 hB _ _ hS => ?_)
      obtain ⟨hT, hF1⟩ := hB
      rw [ht] at hT hF1
      have m286 := m265.kept (hF1.arr hg9 skm_41 (by decide))
      have m287 := m266.kept (hF1.arr hg10 skm_31 (by decide))
      have hF := hF.more hF1 (by decide)
      try dsimp only at hw277
      obtain ⟨h295, hd296⟩ := hw277
      obtain rfl : (99 : Int32) = r276 := hd296.symm
      refine lv_i2l (v := 99) hx hb dX12_looksAt_130 (by decide) ?_
      refine tw_last (i := 8)  hx hb hK hT hG hS hg10 shm_31 rfl (by unfold vp_in; decide) ⟨_, rfl⟩ dX12_looksAt_131 (fun H locs hT oq m297 oi hS => ?_)
      have hF := hF.ast hg10 skm_31 oq (by decide)
      have m306 := m286.kept (oq _ (gne hg9 hg10 (by decide)))
      have m307 := m287.put m297 oi
      refine lv_aload_n hx hb dX12_looksAt_132 rfl (lv_at hl 0 rfl) ?_
      refine tw_get hx hb hts bF_X12 hown hK hT hr_o0 shm_0 rfl 30 (by decide) (ht_at hts 0 rfl) (fun _ h9 => h9) dX12_looksAt_133 (fun v9 m315 h9 => ?_)
      obtain ⟨rfl, hg316⟩ := h9 _ rfl
      refine lv_bipush (v := 9) hx hb dX12_looksAt_136 (by decide) ?_
      refine lv_aload_n hx hb dX12_looksAt_138 rfl (lv_at hl 0 rfl) ?_
      refine tw_get hx hb hts bF_X12 hown hK hT hr_o0 shm_0 rfl 40 (by decide) (ht_at hts 18 rfl) (fun _ h9 => h9) dX12_looksAt_139 (fun v9 m317 h9 => ?_)
      obtain ⟨rfl, hg318⟩ := h9 _ rfl
      refine lv_iload_n hx hb dX12_looksAt_142 rfl (lv_at hl 1 rfl) ?_
      refine tw_iald (i := pe) hx hb hK hT hg9 shm_41 rfl (vin_t (a := pe.toInt) rfl (by omega) (by omega)) dX12_looksAt_143 (fun v9 m319 h9 => ?_)
      obtain ⟨x320, rfl, gx320, kx320⟩ := h9
      have cx320 := m306.at m319 (by have q9 := tn_of (show pe.toInt = pe.toInt from rfl) (by omega); omega)
      refine lv_i2l (v := x320.toInt64) hx hb dX12_looksAt_144 rfl ?_
      refine tw_last (i := 9)  hx hb hK hT hG hS hg10 shm_31 rfl (by unfold vp_in; decide) ⟨_, rfl⟩ dX12_looksAt_145 (fun H locs hT oq m321 oi hS => ?_)
      have hF := hF.ast hg10 skm_31 oq (by decide)
      have m331 := m307.put m321 oi
      exact W.vret hx hb hr (fun t ht hW => ⟨⟨(cul (cul (cul (cul (cul (cul (cul (cul (cul (cul fL (0 : Int32).toNatClampNeg (0 : Int64)) (1 : Int32).toNatClampNeg x43.toInt64) (2 : Int32).toNatClampNeg x61.toInt64) (3 : Int32).toNatClampNeg x80.toInt64) (4 : Int32).toNatClampNeg x100.toInt64) (5 : Int32).toNatClampNeg x121.toInt64) (6 : Int32).toNatClampNeg (0 : Int64)) (7 : Int32).toNatClampNeg (1 : Int64)) (8 : Int32).toNatClampNeg (99 : Int64)) (9 : Int32).toNatClampNeg x320.toInt64), rfl, (by exact (by intro k hk; (try dsimp only); rcases (show k = 0 ∨ k = 1 ∨ k = 2 ∨ k = 3 ∨ k = 4 ∨ k = 5 ∨ k = 6 ∨ k = 7 ∨ k = 8 ∨ k = 9 by omega) with rfl | rfl | rfl | rfl | rfl | rfl | rfl | rfl | rfl | rfl; (rw [cul_o (show (0 : Nat) ≠ (9 : Int32).toNatClampNeg from by decide), cul_o (show (0 : Nat) ≠ (8 : Int32).toNatClampNeg from by decide), cul_o (show (0 : Nat) ≠ (7 : Int32).toNatClampNeg from by decide), cul_o (show (0 : Nat) ≠ (6 : Int32).toNatClampNeg from by decide), cul_o (show (0 : Nat) ≠ (5 : Int32).toNatClampNeg from by decide), cul_o (show (0 : Nat) ≠ (4 : Int32).toNatClampNeg from by decide), cul_o (show (0 : Nat) ≠ (3 : Int32).toNatClampNeg from by decide), cul_o (show (0 : Nat) ≠ (2 : Int32).toNatClampNeg from by decide), cul_o (show (0 : Nat) ≠ (1 : Int32).toNatClampNeg from by decide), cul_s (show (0 : Nat) = (0 : Int32).toNatClampNeg from by decide)]; show _ = Int64.ofInt 0; decide); (rw [cul_o (show (1 : Nat) ≠ (9 : Int32).toNatClampNeg from by decide), cul_o (show (1 : Nat) ≠ (8 : Int32).toNatClampNeg from by decide), cul_o (show (1 : Nat) ≠ (7 : Int32).toNatClampNeg from by decide), cul_o (show (1 : Nat) ≠ (6 : Int32).toNatClampNeg from by decide), cul_o (show (1 : Nat) ≠ (5 : Int32).toNatClampNeg from by decide), cul_o (show (1 : Nat) ≠ (4 : Int32).toNatClampNeg from by decide), cul_o (show (1 : Nat) ≠ (3 : Int32).toNatClampNeg from by decide), cul_o (show (1 : Nat) ≠ (2 : Int32).toNatClampNeg from by decide), cul_s (show (1 : Nat) = (1 : Int32).toNatClampNeg from by decide)]; rw [i2l_of, cx43]; rfl); (rw [cul_o (show (2 : Nat) ≠ (9 : Int32).toNatClampNeg from by decide), cul_o (show (2 : Nat) ≠ (8 : Int32).toNatClampNeg from by decide), cul_o (show (2 : Nat) ≠ (7 : Int32).toNatClampNeg from by decide), cul_o (show (2 : Nat) ≠ (6 : Int32).toNatClampNeg from by decide), cul_o (show (2 : Nat) ≠ (5 : Int32).toNatClampNeg from by decide), cul_o (show (2 : Nat) ≠ (4 : Int32).toNatClampNeg from by decide), cul_o (show (2 : Nat) ≠ (3 : Int32).toNatClampNeg from by decide), cul_s (show (2 : Nat) = (2 : Int32).toNatClampNeg from by decide)]; rw [i2l_of, cx61]; rfl); (rw [cul_o (show (3 : Nat) ≠ (9 : Int32).toNatClampNeg from by decide), cul_o (show (3 : Nat) ≠ (8 : Int32).toNatClampNeg from by decide), cul_o (show (3 : Nat) ≠ (7 : Int32).toNatClampNeg from by decide), cul_o (show (3 : Nat) ≠ (6 : Int32).toNatClampNeg from by decide), cul_o (show (3 : Nat) ≠ (5 : Int32).toNatClampNeg from by decide), cul_o (show (3 : Nat) ≠ (4 : Int32).toNatClampNeg from by decide), cul_s (show (3 : Nat) = (3 : Int32).toNatClampNeg from by decide)]; rw [i2l_of, cx80]; rfl); (rw [cul_o (show (4 : Nat) ≠ (9 : Int32).toNatClampNeg from by decide), cul_o (show (4 : Nat) ≠ (8 : Int32).toNatClampNeg from by decide), cul_o (show (4 : Nat) ≠ (7 : Int32).toNatClampNeg from by decide), cul_o (show (4 : Nat) ≠ (6 : Int32).toNatClampNeg from by decide), cul_o (show (4 : Nat) ≠ (5 : Int32).toNatClampNeg from by decide), cul_s (show (4 : Nat) = (4 : Int32).toNatClampNeg from by decide)]; rw [i2l_of, cx100]; rfl); (rw [cul_o (show (5 : Nat) ≠ (9 : Int32).toNatClampNeg from by decide), cul_o (show (5 : Nat) ≠ (8 : Int32).toNatClampNeg from by decide), cul_o (show (5 : Nat) ≠ (7 : Int32).toNatClampNeg from by decide), cul_o (show (5 : Nat) ≠ (6 : Int32).toNatClampNeg from by decide), cul_s (show (5 : Nat) = (5 : Int32).toNatClampNeg from by decide)]; rw [i2l_of, cx121]; rfl); (rw [cul_o (show (6 : Nat) ≠ (9 : Int32).toNatClampNeg from by decide), cul_o (show (6 : Nat) ≠ (8 : Int32).toNatClampNeg from by decide), cul_o (show (6 : Nat) ≠ (7 : Int32).toNatClampNeg from by decide), cul_s (show (6 : Nat) = (6 : Int32).toNatClampNeg from by decide)]; show _ = Int64.ofInt (vI pe.toNatClampNeg).toInt; rw [show (vI pe.toNatClampNeg).toInt = 0 from by rw [← cx143]; omega]; decide); (rw [cul_o (show (7 : Nat) ≠ (9 : Int32).toNatClampNeg from by decide), cul_o (show (7 : Nat) ≠ (8 : Int32).toNatClampNeg from by decide), cul_s (show (7 : Nat) = (7 : Int32).toNatClampNeg from by decide)]; show _ = Int64.ofInt (vM pe.toNatClampNeg).toInt; rw [show (vM pe.toNatClampNeg).toInt = 1 from by rw [← cx168]; omega]; decide); (rw [cul_o (show (8 : Nat) ≠ (9 : Int32).toNatClampNeg from by decide), cul_s (show (8 : Nat) = (8 : Int32).toNatClampNeg from by decide)]; show _ = Int64.ofInt 99; decide); (rw [cul_s (show (9 : Nat) = (9 : Int32).toNatClampNeg from by decide)]; rw [i2l_of, cx320]; rfl))), by (try dsimp only); rw [ht]; exact ⟨hT, hF, m331⟩⟩, hS.F ht⟩) hS.2.2 dX12_looksAt_146
  · have t340 : x143.toInt ≠ 0 := ti_ne c144 rfl (by decide)
    refine lv_lconst (v := 1) hx hb dX12_looksAt_92 (by decide) ?_
    refine lv_goto (tgt := 97) hx hb dX12_looksAt_93 (by decide) ?_
    refine tw_last (i := 6)  hx hb hK hT hG hS hg10 shm_31 rfl (by unfold vp_in; decide) ⟨_, rfl⟩ dX12_looksAt_97 (fun H locs hT oq m341 oi hS => ?_)
    have hF := hF.ast hg10 skm_31 oq (by decide)
    have m342 := m123.kept (oq _ (gne hg1 hg10 (by decide)))
    have m349 := m130.kept (oq _ (gne hg8 hg10 (by decide)))
    have m350 := m131.kept (oq _ (gne hg9 hg10 (by decide)))
    have m351 := m132.put m341 oi
    refine lv_aload_n hx hb dX12_looksAt_98 rfl (lv_at hl 0 rfl) ?_
    refine tw_get hx hb hts bF_X12 hown hK hT hr_o0 shm_0 rfl 30 (by decide) (ht_at hts 0 rfl) (fun _ h9 => h9) dX12_looksAt_99 (fun v9 m358 h9 => ?_)
    obtain ⟨rfl, hg359⟩ := h9 _ rfl
    refine lv_bipush (v := 7) hx hb dX12_looksAt_102 (by decide) ?_
    refine lv_aload_n hx hb dX12_looksAt_104 rfl (lv_at hl 0 rfl) ?_
    refine tw_get hx hb hts bF_X12 hown hK hT hr_o0 shm_0 rfl 36 (by decide) (ht_at hts 13 rfl) (fun _ h9 => h9) dX12_looksAt_105 (fun v9 m360 h9 => ?_)
    obtain ⟨rfl, hg361⟩ := h9 _ rfl
    refine lv_iload_n hx hb dX12_looksAt_108 rfl (lv_at hl 1 rfl) ?_
    refine tw_zald (i := pe) hx hb hK hT hg8 shm_37 rfl (vin_t (a := pe.toInt) rfl (by omega) (by omega)) dX12_looksAt_109 (fun v9 m362 h9 => ?_)
    obtain ⟨x363, rfl, gx363, kx363⟩ := h9
    have cx363 := m349.at m362 (by have q9 := tn_of (show pe.toInt = pe.toInt from rfl) (by omega); omega)
    refine lv_if_eq (tgt := 117) hx hb dX12_looksAt_110 (by decide) (fun c364 => ?_) (fun c364 => ?_)
    · have t365 : x363.toInt = 0 := ti_eq c364 rfl (by decide)
      refine lv_lconst (v := 0) hx hb dX12_looksAt_117 (by decide) ?_
      refine tw_last (i := 7)  hx hb hK hT hG hS hg10 shm_31 rfl (by unfold vp_in; decide) ⟨_, rfl⟩ dX12_looksAt_118 (fun H locs hT oq m366 oi hS => ?_)
      have hF := hF.ast hg10 skm_31 oq (by decide)
      have m367 := m342.kept (oq _ (gne hg1 hg10 (by decide)))
      have m375 := m350.kept (oq _ (gne hg9 hg10 (by decide)))
      have m376 := m351.put m366 oi
      refine lv_aload_n hx hb dX12_looksAt_119 rfl (lv_at hl 0 rfl) ?_
      refine tw_get hx hb hts bF_X12 hown hK hT hr_o0 shm_0 rfl 30 (by decide) (ht_at hts 0 rfl) (fun _ h9 => h9) dX12_looksAt_120 (fun v9 m384 h9 => ?_)
      obtain ⟨rfl, hg385⟩ := h9 _ rfl
      refine lv_bipush (v := 8) hx hb dX12_looksAt_123 (by decide) ?_
      refine lv_aload_n hx hb dX12_looksAt_125 rfl (lv_at hl 0 rfl) ?_
      refine lv_iload_n hx hb dX12_looksAt_126 rfl (lv_at hl 1 rfl) ?_
      have hFc := gA_free hG hA hS
      refine va_calli (va_runV (As := [.int pe]) (rest := [.int 8, .ref (q 30)]) ⟨hx, hb, hml, hown, hts⟩ (s_nearZ l dC dI kA adK adV G H q wZ wN wH wB wC wL wK wU wV PI im PM PT lS lB lE lN o0 pe vH hT hr_o0 (by have q8 := ti_all pe; omega) hno m367 hgz hgn hgh hgb hgc hgi hgu) (cwV 1 hts (goodIn_app (goodIn_r _ [16, 17, 18, 7] rfl (by decide +kernel)) (goodIn_ca (goodIn_r _ [15, 3] rfl (by decide +kernel)) (bs_in _ _))) rfl rfl rfl (by decide +kernel) ⟨(Nat.le_of_ble_eq_true rfl), (Nat.le_of_ble_eq_true rfl)⟩) ⟨fun a U g mk q => by obtain ⟨q0, q1, qK, qE⟩ := q; exact ⟨q0, q1, va_K.moved (u := U) (U := U.calling g mk a) (Vm.Alike.refl U.vm) qK, EVS.blind g mk a qE⟩, gH_rc hK hT hr_o0 shm_0 rfl, fun U hU hW => ⟨rfl, hU, va_K.moved hW.alike hK, hE.call hS hFc hU hW⟩⟩ rfl rfl hl.1 rfl (lv_room (Nat.le_of_ble_eq_true rfl)) dX12_looksAt_127 ⟨(Nat.le_of_ble_eq_true rfl), (Nat.le_of_ble_eq_true rfl)⟩) hS (fun q _ h => hFc q h) hFc (fun r386 u t H locs ht hvm hw387 hB _ _ hS => ?_)
      obtain ⟨hT, hF1⟩ := hB
      rw [ht] at hT hF1
      have m396 := m375.kept (hF1.arr hg9 skm_41 (by decide))
      have m397 := m376.kept (hF1.arr hg10 skm_31 (by decide))
      have hF := hF.more hF1 (by decide)
      try dsimp only at hw387
      obtain ⟨h405, hd406⟩ := hw387
      obtain rfl : (99 : Int32) = r386 := hd406.symm
      refine lv_i2l (v := 99) hx hb dX12_looksAt_130 (by decide) ?_
      refine tw_last (i := 8)  hx hb hK hT hG hS hg10 shm_31 rfl (by unfold vp_in; decide) ⟨_, rfl⟩ dX12_looksAt_131 (fun H locs hT oq m407 oi hS => ?_)
      have hF := hF.ast hg10 skm_31 oq (by decide)
      have m416 := m396.kept (oq _ (gne hg9 hg10 (by decide)))
      have m417 := m397.put m407 oi
      refine lv_aload_n hx hb dX12_looksAt_132 rfl (lv_at hl 0 rfl) ?_
      refine tw_get hx hb hts bF_X12 hown hK hT hr_o0 shm_0 rfl 30 (by decide) (ht_at hts 0 rfl) (fun _ h9 => h9) dX12_looksAt_133 (fun v9 m425 h9 => ?_)
      obtain ⟨rfl, hg426⟩ := h9 _ rfl
      refine lv_bipush (v := 9) hx hb dX12_looksAt_136 (by decide) ?_
      refine lv_aload_n hx hb dX12_looksAt_138 rfl (lv_at hl 0 rfl) ?_
      refine tw_get hx hb hts bF_X12 hown hK hT hr_o0 shm_0 rfl 40 (by decide) (ht_at hts 18 rfl) (fun _ h9 => h9) dX12_looksAt_139 (fun v9 m427 h9 => ?_)
      obtain ⟨rfl, hg428⟩ := h9 _ rfl
      refine lv_iload_n hx hb dX12_looksAt_142 rfl (lv_at hl 1 rfl) ?_
      refine tw_iald (i := pe) hx hb hK hT hg9 shm_41 rfl (vin_t (a := pe.toInt) rfl (by omega) (by omega)) dX12_looksAt_143 (fun v9 m429 h9 => ?_)
      obtain ⟨x430, rfl, gx430, kx430⟩ := h9
      have cx430 := m416.at m429 (by have q9 := tn_of (show pe.toInt = pe.toInt from rfl) (by omega); omega)
      refine lv_i2l (v := x430.toInt64) hx hb dX12_looksAt_144 rfl ?_
      refine tw_last (i := 9)  hx hb hK hT hG hS hg10 shm_31 rfl (by unfold vp_in; decide) ⟨_, rfl⟩ dX12_looksAt_145 (fun H locs hT oq m431 oi hS => ?_)
      have hF := hF.ast hg10 skm_31 oq (by decide)
      have m441 := m417.put m431 oi
      exact W.vret hx hb hr (fun t ht hW => ⟨⟨(cul (cul (cul (cul (cul (cul (cul (cul (cul (cul fL (0 : Int32).toNatClampNeg (0 : Int64)) (1 : Int32).toNatClampNeg x43.toInt64) (2 : Int32).toNatClampNeg x61.toInt64) (3 : Int32).toNatClampNeg x80.toInt64) (4 : Int32).toNatClampNeg x100.toInt64) (5 : Int32).toNatClampNeg x121.toInt64) (6 : Int32).toNatClampNeg (1 : Int64)) (7 : Int32).toNatClampNeg (0 : Int64)) (8 : Int32).toNatClampNeg (99 : Int64)) (9 : Int32).toNatClampNeg x430.toInt64), rfl, (by exact (by intro k hk; (try dsimp only); rcases (show k = 0 ∨ k = 1 ∨ k = 2 ∨ k = 3 ∨ k = 4 ∨ k = 5 ∨ k = 6 ∨ k = 7 ∨ k = 8 ∨ k = 9 by omega) with rfl | rfl | rfl | rfl | rfl | rfl | rfl | rfl | rfl | rfl; (rw [cul_o (show (0 : Nat) ≠ (9 : Int32).toNatClampNeg from by decide), cul_o (show (0 : Nat) ≠ (8 : Int32).toNatClampNeg from by decide), cul_o (show (0 : Nat) ≠ (7 : Int32).toNatClampNeg from by decide), cul_o (show (0 : Nat) ≠ (6 : Int32).toNatClampNeg from by decide), cul_o (show (0 : Nat) ≠ (5 : Int32).toNatClampNeg from by decide), cul_o (show (0 : Nat) ≠ (4 : Int32).toNatClampNeg from by decide), cul_o (show (0 : Nat) ≠ (3 : Int32).toNatClampNeg from by decide), cul_o (show (0 : Nat) ≠ (2 : Int32).toNatClampNeg from by decide), cul_o (show (0 : Nat) ≠ (1 : Int32).toNatClampNeg from by decide), cul_s (show (0 : Nat) = (0 : Int32).toNatClampNeg from by decide)]; show _ = Int64.ofInt 0; decide); (rw [cul_o (show (1 : Nat) ≠ (9 : Int32).toNatClampNeg from by decide), cul_o (show (1 : Nat) ≠ (8 : Int32).toNatClampNeg from by decide), cul_o (show (1 : Nat) ≠ (7 : Int32).toNatClampNeg from by decide), cul_o (show (1 : Nat) ≠ (6 : Int32).toNatClampNeg from by decide), cul_o (show (1 : Nat) ≠ (5 : Int32).toNatClampNeg from by decide), cul_o (show (1 : Nat) ≠ (4 : Int32).toNatClampNeg from by decide), cul_o (show (1 : Nat) ≠ (3 : Int32).toNatClampNeg from by decide), cul_o (show (1 : Nat) ≠ (2 : Int32).toNatClampNeg from by decide), cul_s (show (1 : Nat) = (1 : Int32).toNatClampNeg from by decide)]; rw [i2l_of, cx43]; rfl); (rw [cul_o (show (2 : Nat) ≠ (9 : Int32).toNatClampNeg from by decide), cul_o (show (2 : Nat) ≠ (8 : Int32).toNatClampNeg from by decide), cul_o (show (2 : Nat) ≠ (7 : Int32).toNatClampNeg from by decide), cul_o (show (2 : Nat) ≠ (6 : Int32).toNatClampNeg from by decide), cul_o (show (2 : Nat) ≠ (5 : Int32).toNatClampNeg from by decide), cul_o (show (2 : Nat) ≠ (4 : Int32).toNatClampNeg from by decide), cul_o (show (2 : Nat) ≠ (3 : Int32).toNatClampNeg from by decide), cul_s (show (2 : Nat) = (2 : Int32).toNatClampNeg from by decide)]; rw [i2l_of, cx61]; rfl); (rw [cul_o (show (3 : Nat) ≠ (9 : Int32).toNatClampNeg from by decide), cul_o (show (3 : Nat) ≠ (8 : Int32).toNatClampNeg from by decide), cul_o (show (3 : Nat) ≠ (7 : Int32).toNatClampNeg from by decide), cul_o (show (3 : Nat) ≠ (6 : Int32).toNatClampNeg from by decide), cul_o (show (3 : Nat) ≠ (5 : Int32).toNatClampNeg from by decide), cul_o (show (3 : Nat) ≠ (4 : Int32).toNatClampNeg from by decide), cul_s (show (3 : Nat) = (3 : Int32).toNatClampNeg from by decide)]; rw [i2l_of, cx80]; rfl); (rw [cul_o (show (4 : Nat) ≠ (9 : Int32).toNatClampNeg from by decide), cul_o (show (4 : Nat) ≠ (8 : Int32).toNatClampNeg from by decide), cul_o (show (4 : Nat) ≠ (7 : Int32).toNatClampNeg from by decide), cul_o (show (4 : Nat) ≠ (6 : Int32).toNatClampNeg from by decide), cul_o (show (4 : Nat) ≠ (5 : Int32).toNatClampNeg from by decide), cul_s (show (4 : Nat) = (4 : Int32).toNatClampNeg from by decide)]; rw [i2l_of, cx100]; rfl); (rw [cul_o (show (5 : Nat) ≠ (9 : Int32).toNatClampNeg from by decide), cul_o (show (5 : Nat) ≠ (8 : Int32).toNatClampNeg from by decide), cul_o (show (5 : Nat) ≠ (7 : Int32).toNatClampNeg from by decide), cul_o (show (5 : Nat) ≠ (6 : Int32).toNatClampNeg from by decide), cul_s (show (5 : Nat) = (5 : Int32).toNatClampNeg from by decide)]; rw [i2l_of, cx121]; rfl); (rw [cul_o (show (6 : Nat) ≠ (9 : Int32).toNatClampNeg from by decide), cul_o (show (6 : Nat) ≠ (8 : Int32).toNatClampNeg from by decide), cul_o (show (6 : Nat) ≠ (7 : Int32).toNatClampNeg from by decide), cul_s (show (6 : Nat) = (6 : Int32).toNatClampNeg from by decide)]; show _ = Int64.ofInt (vI pe.toNatClampNeg).toInt; rw [show (vI pe.toNatClampNeg).toInt = 1 from by rw [← cx143]; omega]; decide); (rw [cul_o (show (7 : Nat) ≠ (9 : Int32).toNatClampNeg from by decide), cul_o (show (7 : Nat) ≠ (8 : Int32).toNatClampNeg from by decide), cul_s (show (7 : Nat) = (7 : Int32).toNatClampNeg from by decide)]; show _ = Int64.ofInt (vM pe.toNatClampNeg).toInt; rw [show (vM pe.toNatClampNeg).toInt = 0 from by rw [← cx363]; omega]; decide); (rw [cul_o (show (8 : Nat) ≠ (9 : Int32).toNatClampNeg from by decide), cul_s (show (8 : Nat) = (8 : Int32).toNatClampNeg from by decide)]; show _ = Int64.ofInt 99; decide); (rw [cul_s (show (9 : Nat) = (9 : Int32).toNatClampNeg from by decide)]; rw [i2l_of, cx430]; rfl))), by (try dsimp only); rw [ht]; exact ⟨hT, hF, m441⟩⟩, hS.F ht⟩) hS.2.2 dX12_looksAt_146
    · have t450 : x363.toInt ≠ 0 := ti_ne c364 rfl (by decide)
      refine lv_lconst (v := 1) hx hb dX12_looksAt_113 (by decide) ?_
      refine lv_goto (tgt := 118) hx hb dX12_looksAt_114 (by decide) ?_
      refine tw_last (i := 7)  hx hb hK hT hG hS hg10 shm_31 rfl (by unfold vp_in; decide) ⟨_, rfl⟩ dX12_looksAt_118 (fun H locs hT oq m451 oi hS => ?_)
      have hF := hF.ast hg10 skm_31 oq (by decide)
      have m452 := m342.kept (oq _ (gne hg1 hg10 (by decide)))
      have m460 := m350.kept (oq _ (gne hg9 hg10 (by decide)))
      have m461 := m351.put m451 oi
      refine lv_aload_n hx hb dX12_looksAt_119 rfl (lv_at hl 0 rfl) ?_
      refine tw_get hx hb hts bF_X12 hown hK hT hr_o0 shm_0 rfl 30 (by decide) (ht_at hts 0 rfl) (fun _ h9 => h9) dX12_looksAt_120 (fun v9 m469 h9 => ?_)
      obtain ⟨rfl, hg470⟩ := h9 _ rfl
      refine lv_bipush (v := 8) hx hb dX12_looksAt_123 (by decide) ?_
      refine lv_aload_n hx hb dX12_looksAt_125 rfl (lv_at hl 0 rfl) ?_
      refine lv_iload_n hx hb dX12_looksAt_126 rfl (lv_at hl 1 rfl) ?_
      have hFc := gA_free hG hA hS
      refine va_calli (va_runV (As := [.int pe]) (rest := [.int 8, .ref (q 30)]) ⟨hx, hb, hml, hown, hts⟩ (s_nearZ l dC dI kA adK adV G H q wZ wN wH wB wC wL wK wU wV PI im PM PT lS lB lE lN o0 pe vH hT hr_o0 (by have q8 := ti_all pe; omega) hno m452 hgz hgn hgh hgb hgc hgi hgu) (cwV 1 hts (goodIn_app (goodIn_r _ [16, 17, 18, 7] rfl (by decide +kernel)) (goodIn_ca (goodIn_r _ [15, 3] rfl (by decide +kernel)) (bs_in _ _))) rfl rfl rfl (by decide +kernel) ⟨(Nat.le_of_ble_eq_true rfl), (Nat.le_of_ble_eq_true rfl)⟩) ⟨fun a U g mk q => by obtain ⟨q0, q1, qK, qE⟩ := q; exact ⟨q0, q1, va_K.moved (u := U) (U := U.calling g mk a) (Vm.Alike.refl U.vm) qK, EVS.blind g mk a qE⟩, gH_rc hK hT hr_o0 shm_0 rfl, fun U hU hW => ⟨rfl, hU, va_K.moved hW.alike hK, hE.call hS hFc hU hW⟩⟩ rfl rfl hl.1 rfl (lv_room (Nat.le_of_ble_eq_true rfl)) dX12_looksAt_127 ⟨(Nat.le_of_ble_eq_true rfl), (Nat.le_of_ble_eq_true rfl)⟩) hS (fun q _ h => hFc q h) hFc (fun r471 u t H locs ht hvm hw472 hB _ _ hS => ?_)
      obtain ⟨hT, hF1⟩ := hB
      rw [ht] at hT hF1
      have m481 := m460.kept (hF1.arr hg9 skm_41 (by decide))
      have m482 := m461.kept (hF1.arr hg10 skm_31 (by decide))
      have hF := hF.more hF1 (by decide)
      try dsimp only at hw472
      obtain ⟨h490, hd491⟩ := hw472
      obtain rfl : (99 : Int32) = r471 := hd491.symm
      refine lv_i2l (v := 99) hx hb dX12_looksAt_130 (by decide) ?_
      refine tw_last (i := 8)  hx hb hK hT hG hS hg10 shm_31 rfl (by unfold vp_in; decide) ⟨_, rfl⟩ dX12_looksAt_131 (fun H locs hT oq m492 oi hS => ?_)
      have hF := hF.ast hg10 skm_31 oq (by decide)
      have m501 := m481.kept (oq _ (gne hg9 hg10 (by decide)))
      have m502 := m482.put m492 oi
      refine lv_aload_n hx hb dX12_looksAt_132 rfl (lv_at hl 0 rfl) ?_
      refine tw_get hx hb hts bF_X12 hown hK hT hr_o0 shm_0 rfl 30 (by decide) (ht_at hts 0 rfl) (fun _ h9 => h9) dX12_looksAt_133 (fun v9 m510 h9 => ?_)
      obtain ⟨rfl, hg511⟩ := h9 _ rfl
      refine lv_bipush (v := 9) hx hb dX12_looksAt_136 (by decide) ?_
      refine lv_aload_n hx hb dX12_looksAt_138 rfl (lv_at hl 0 rfl) ?_
      refine tw_get hx hb hts bF_X12 hown hK hT hr_o0 shm_0 rfl 40 (by decide) (ht_at hts 18 rfl) (fun _ h9 => h9) dX12_looksAt_139 (fun v9 m512 h9 => ?_)
      obtain ⟨rfl, hg513⟩ := h9 _ rfl
      refine lv_iload_n hx hb dX12_looksAt_142 rfl (lv_at hl 1 rfl) ?_
      refine tw_iald (i := pe) hx hb hK hT hg9 shm_41 rfl (vin_t (a := pe.toInt) rfl (by omega) (by omega)) dX12_looksAt_143 (fun v9 m514 h9 => ?_)
      obtain ⟨x515, rfl, gx515, kx515⟩ := h9
      have cx515 := m501.at m514 (by have q9 := tn_of (show pe.toInt = pe.toInt from rfl) (by omega); omega)
      refine lv_i2l (v := x515.toInt64) hx hb dX12_looksAt_144 rfl ?_
      refine tw_last (i := 9)  hx hb hK hT hG hS hg10 shm_31 rfl (by unfold vp_in; decide) ⟨_, rfl⟩ dX12_looksAt_145 (fun H locs hT oq m516 oi hS => ?_)
      have hF := hF.ast hg10 skm_31 oq (by decide)
      have m526 := m502.put m516 oi
      exact W.vret hx hb hr (fun t ht hW => ⟨⟨(cul (cul (cul (cul (cul (cul (cul (cul (cul (cul fL (0 : Int32).toNatClampNeg (0 : Int64)) (1 : Int32).toNatClampNeg x43.toInt64) (2 : Int32).toNatClampNeg x61.toInt64) (3 : Int32).toNatClampNeg x80.toInt64) (4 : Int32).toNatClampNeg x100.toInt64) (5 : Int32).toNatClampNeg x121.toInt64) (6 : Int32).toNatClampNeg (1 : Int64)) (7 : Int32).toNatClampNeg (1 : Int64)) (8 : Int32).toNatClampNeg (99 : Int64)) (9 : Int32).toNatClampNeg x515.toInt64), rfl, (by exact (by intro k hk; (try dsimp only); rcases (show k = 0 ∨ k = 1 ∨ k = 2 ∨ k = 3 ∨ k = 4 ∨ k = 5 ∨ k = 6 ∨ k = 7 ∨ k = 8 ∨ k = 9 by omega) with rfl | rfl | rfl | rfl | rfl | rfl | rfl | rfl | rfl | rfl; (rw [cul_o (show (0 : Nat) ≠ (9 : Int32).toNatClampNeg from by decide), cul_o (show (0 : Nat) ≠ (8 : Int32).toNatClampNeg from by decide), cul_o (show (0 : Nat) ≠ (7 : Int32).toNatClampNeg from by decide), cul_o (show (0 : Nat) ≠ (6 : Int32).toNatClampNeg from by decide), cul_o (show (0 : Nat) ≠ (5 : Int32).toNatClampNeg from by decide), cul_o (show (0 : Nat) ≠ (4 : Int32).toNatClampNeg from by decide), cul_o (show (0 : Nat) ≠ (3 : Int32).toNatClampNeg from by decide), cul_o (show (0 : Nat) ≠ (2 : Int32).toNatClampNeg from by decide), cul_o (show (0 : Nat) ≠ (1 : Int32).toNatClampNeg from by decide), cul_s (show (0 : Nat) = (0 : Int32).toNatClampNeg from by decide)]; show _ = Int64.ofInt 0; decide); (rw [cul_o (show (1 : Nat) ≠ (9 : Int32).toNatClampNeg from by decide), cul_o (show (1 : Nat) ≠ (8 : Int32).toNatClampNeg from by decide), cul_o (show (1 : Nat) ≠ (7 : Int32).toNatClampNeg from by decide), cul_o (show (1 : Nat) ≠ (6 : Int32).toNatClampNeg from by decide), cul_o (show (1 : Nat) ≠ (5 : Int32).toNatClampNeg from by decide), cul_o (show (1 : Nat) ≠ (4 : Int32).toNatClampNeg from by decide), cul_o (show (1 : Nat) ≠ (3 : Int32).toNatClampNeg from by decide), cul_o (show (1 : Nat) ≠ (2 : Int32).toNatClampNeg from by decide), cul_s (show (1 : Nat) = (1 : Int32).toNatClampNeg from by decide)]; rw [i2l_of, cx43]; rfl); (rw [cul_o (show (2 : Nat) ≠ (9 : Int32).toNatClampNeg from by decide), cul_o (show (2 : Nat) ≠ (8 : Int32).toNatClampNeg from by decide), cul_o (show (2 : Nat) ≠ (7 : Int32).toNatClampNeg from by decide), cul_o (show (2 : Nat) ≠ (6 : Int32).toNatClampNeg from by decide), cul_o (show (2 : Nat) ≠ (5 : Int32).toNatClampNeg from by decide), cul_o (show (2 : Nat) ≠ (4 : Int32).toNatClampNeg from by decide), cul_o (show (2 : Nat) ≠ (3 : Int32).toNatClampNeg from by decide), cul_s (show (2 : Nat) = (2 : Int32).toNatClampNeg from by decide)]; rw [i2l_of, cx61]; rfl); (rw [cul_o (show (3 : Nat) ≠ (9 : Int32).toNatClampNeg from by decide), cul_o (show (3 : Nat) ≠ (8 : Int32).toNatClampNeg from by decide), cul_o (show (3 : Nat) ≠ (7 : Int32).toNatClampNeg from by decide), cul_o (show (3 : Nat) ≠ (6 : Int32).toNatClampNeg from by decide), cul_o (show (3 : Nat) ≠ (5 : Int32).toNatClampNeg from by decide), cul_o (show (3 : Nat) ≠ (4 : Int32).toNatClampNeg from by decide), cul_s (show (3 : Nat) = (3 : Int32).toNatClampNeg from by decide)]; rw [i2l_of, cx80]; rfl); (rw [cul_o (show (4 : Nat) ≠ (9 : Int32).toNatClampNeg from by decide), cul_o (show (4 : Nat) ≠ (8 : Int32).toNatClampNeg from by decide), cul_o (show (4 : Nat) ≠ (7 : Int32).toNatClampNeg from by decide), cul_o (show (4 : Nat) ≠ (6 : Int32).toNatClampNeg from by decide), cul_o (show (4 : Nat) ≠ (5 : Int32).toNatClampNeg from by decide), cul_s (show (4 : Nat) = (4 : Int32).toNatClampNeg from by decide)]; rw [i2l_of, cx100]; rfl); (rw [cul_o (show (5 : Nat) ≠ (9 : Int32).toNatClampNeg from by decide), cul_o (show (5 : Nat) ≠ (8 : Int32).toNatClampNeg from by decide), cul_o (show (5 : Nat) ≠ (7 : Int32).toNatClampNeg from by decide), cul_o (show (5 : Nat) ≠ (6 : Int32).toNatClampNeg from by decide), cul_s (show (5 : Nat) = (5 : Int32).toNatClampNeg from by decide)]; rw [i2l_of, cx121]; rfl); (rw [cul_o (show (6 : Nat) ≠ (9 : Int32).toNatClampNeg from by decide), cul_o (show (6 : Nat) ≠ (8 : Int32).toNatClampNeg from by decide), cul_o (show (6 : Nat) ≠ (7 : Int32).toNatClampNeg from by decide), cul_s (show (6 : Nat) = (6 : Int32).toNatClampNeg from by decide)]; show _ = Int64.ofInt (vI pe.toNatClampNeg).toInt; rw [show (vI pe.toNatClampNeg).toInt = 1 from by rw [← cx143]; omega]; decide); (rw [cul_o (show (7 : Nat) ≠ (9 : Int32).toNatClampNeg from by decide), cul_o (show (7 : Nat) ≠ (8 : Int32).toNatClampNeg from by decide), cul_s (show (7 : Nat) = (7 : Int32).toNatClampNeg from by decide)]; show _ = Int64.ofInt (vM pe.toNatClampNeg).toInt; rw [show (vM pe.toNatClampNeg).toInt = 1 from by rw [← cx363]; omega]; decide); (rw [cul_o (show (8 : Nat) ≠ (9 : Int32).toNatClampNeg from by decide), cul_s (show (8 : Nat) = (8 : Int32).toNatClampNeg from by decide)]; show _ = Int64.ofInt 99; decide); (rw [cul_s (show (9 : Nat) = (9 : Int32).toNatClampNeg from by decide)]; rw [i2l_of, cx515]; rfl))), by (try dsimp only); rw [ht]; exact ⟨hT, hF, m526⟩⟩, hS.F ht⟩) hS.2.2 dX12_looksAt_146
def w_s_sumOut : List Cond := .code yX12_sumOf cX12_sumOf 6 (some .long) :: (HAppend.hAppend (α := List Cond) (β := List Cond) (γ := List Cond) [.code yX12_looksAt cX12_looksAt 2 none, .fieldLink RX12 76 "SeaLandModel" "facts" "[J", .code yX12_acres cX12_acres 4 (some .int), .fieldLink RX12 101 "SeaLandModel" "holds" "[I", .methodLink RX12 467 yX12_acres, .instanceMethod yX12_acres, .selects RX12 yX12_acres yX12_acres, .initialized RX12, .fieldLink RX12 104 "SeaLandModel" "gain" "[I", .fieldLink RX12 79 "SeaLandModel" "age" "[I", .fieldLink RX12 82 "SeaLandModel" "sons" "[I", .fieldLink RX12 85 "SeaLandModel" "coin" "[I", .fieldLink RX12 88 "SeaLandModel" "cattle" "[I", .fieldLink RX12 91 "SeaLandModel" "isKin" "[Z", .fieldLink RX12 95 "SeaLandModel" "isBoard" "[Z", .code yX12_near cX12_near 5 (some .int), .methodLink RX12 469 yX12_near, .instanceMethod yX12_near, .selects RX12 yX12_near yX12_near, .fieldLink RX12 107 "SeaLandModel" "owes" "[I", .methodLink RX12 474 yX12_looksAt, .instanceMethod yX12_looksAt, .selects RX12 yX12_looksAt yX12_looksAt, .fieldLink RX12 42 "SeaLandModel" "lines" "[I", .fieldLink RX12 45 "SeaLandModel" "sort" "[I", .code yX12_holds cX12_holds 9 (some .boolean), .fieldLink RX12 60 "SeaLandModel" "begins" "[I", .fieldLink RX12 63 "SeaLandModel" "ends" "[I", .fieldLink RX12 66 "SeaLandModel" "step" "[I", .fieldLink RX12 72 "SeaLandModel" "value" "[J", .methodLink RX12 471 Lib.MathLoose.max_long.x, .static Lib.MathLoose.max_long.x, .initialized "java/lang/Math", .code Lib.MathLoose.max_long.x Lib.MathLoose.max_long.code 4 (some .long), .fieldLink RX12 69 "SeaLandModel" "than" "[I", .methodLink RX12 478 yX12_holds, .instanceMethod yX12_holds, .selects RX12 yX12_holds yX12_holds] bs)
