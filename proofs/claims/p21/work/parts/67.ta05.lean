set_option maxHeartbeats 4000000 in
set_option maxRecDepth 100000 in
theorem c_gatherFactsZ (l : Launch) (dC : Nat → ClassId) (dI : Nat → Nat → Nat) (kA : Nat → ClassId) (adK adV : Nat → Nat) (G : gT) (H0 : Heap) (nC nS : Int) (o0 : Nat) (p0 : Nat) (p1 : Nat) (fa9 : Nat) (fmv : Int32) (gG : Int32) (gA9 : Int32) (gD9 : Int32) (gC9 : Int32) (gU9 : Int32) (gI9 : Int32) (gM9 : Int32) (gW9 : Int32) (fL : Nat → Int64)  (hT : gH (dC, dI) kA (SHc nC nS) G H0) (hr_p0 : G p0 = some 10) (hr_p1 : G p1 = some 6) (hr_o0 : G o0 = some 3) (hm_fa9 : el H0 o0 (dI 3 5) = some (.ref fa9)) (hr_fa9 : G fa9 = some 56) (hm_fmv : el H0 p0 (dI 10 7) = some (.int fmv)) (hm_gG : el H0 p0 (dI 10 8) = some (.int gG)) (hm_gA9 : el H0 p0 (dI 10 0) = some (.int gA9)) (hm_gD9 : el H0 p0 (dI 10 1) = some (.int gD9)) (hm_gC9 : el H0 p0 (dI 10 6) = some (.int gC9)) (hm_gU9 : el H0 p0 (dI 10 2) = some (.int gU9)) (hm_gI9 : el H0 p0 (dI 10 3) = some (.int gI9)) (hm_gM9 : el H0 p0 (dI 10 4) = some (.int gM9)) (hm_gW9 : el H0 p0 (dI 10 9) = some (.int gW9)) (hq0 : -1 ≤ fmv.toInt ∧ fmv.toInt ≤ -1) (hq1 : 0 ≤ gI9.toInt ∧ gI9.toInt ≤ 1) (hq2 : 0 ≤ gM9.toInt ∧ gM9.toInt ≤ 1) (hc_fL : ctl H0 fa9 10 fL) (hgC : 0 ≤ nC ∧ nC ≤ 40) (hgS : 0 ≤ nS ∧ nS ≤ 60) : Met l yX0_gatherFacts w_c_gatherFactsZ ({ frames := 1, cells := 0, slots := 0, locals := 24 }) (va_Pc [.ref o0, .ref p0, .ref p1] (fun U => U.heap = H0 ∧ va_K (dC, dI) vwCl (tyl kA) U ∧ EVC adK adV (gA G H0.size) U U.heap)) (va_Qv (fun (u : (Nat → Int64)) => (zfE [0, gG.toInt, gA9.toInt, gD9.toInt, gC9.toInt, gU9.toInt, gI9.toInt, gM9.toInt, 99, gW9.toInt] u)) (fun (fL1 : (Nat → Int64)) (t : State) => gH (dC, dI) kA (SHc nC nS) G t.heap ∧ gF (dC, dI) SKc G ([(56, 0)] : List (Nat × Nat)) H0 t.heap ∧ ctl t.heap fa9 10 fL1) (gA G H0.size)) 0 0 (gA G H0.size) := by
  refine Met.ofW (cc := cX0_gatherFacts) (maxL := 3) (ret := none) (by decide) rfl ?_
  intro p e s m args below meth c s₁ B hml hv
  obtain ⟨rfl, hH0, hK, hE⟩ := hv
  have hx := B.exec
  have hb := B.bytes
  have hr := B.returns
  have hts := atoms_spec (ws := w_c_gatherFactsZ) B.pre
  have hown : s.vm.findClass RX0 = some m.cls := findClass_of_methodNamed B.named
  have hlocks := B.notSynchronized
  subst hH0
  generalize hAe : gA G s.heap.size = A at hE ⊢
  have hA : ∀ q : Nat, s.heap.size ≤ q → A q := fun q h => by rw [← hAe]; exact Or.inr h
  have hG := gA_of hAe
  have hS : va_S A s.heap s.heap [] := va_S.rf
  have hF : gF (dC, dI) SKc G ([(56, 0)] : List (Nat × Nat)) s.heap s.heap := gF.rf
  have hl := lv_entry ([.ref o0, .ref p0, .ref p1]) (n := 3) (Nat.le_of_ble_eq_true rfl)
  rw [lg_entry_eq]
  generalize (lg_sl ([.ref o0, .ref p0, .ref p1]) ++ List.replicate (3 - (lg_sl ([.ref o0, .ref p0, .ref p1])).length) Slot.unset).toArray = ls at hl ⊢
  have hl : lv_has ls 3 [(0, .ref o0), (1, .ref p0), (2, .ref p1)] := hl
  refine lv_aload_n hx hb dX0_gatherFacts_0 rfl (lv_at hl 0 rfl) ?_
  refine tw_getM (v := .ref fa9) hx hb hts bF2_X0 hown hK hT hr_o0 shc_3 rfl 5 (by decide) (ht_at2 hts 0 rfl) (fun _ h9 => h9) hm_fa9 dX0_gatherFacts_1 ?_
  refine lv_iconst (v := 0) hx hb dX0_gatherFacts_4 (by decide) ?_
  refine lv_aload_n hx hb dX0_gatherFacts_5 rfl (lv_at hl 0 rfl) ?_
  refine lv_aload_n hx hb dX0_gatherFacts_6 rfl (lv_at hl 1 rfl) ?_
  have hFc := gA_free hG hA hS
  refine va_calli (va_runV (As := [.ref p0]) (rest := [.int 0, .ref fa9]) ⟨hx, hb, hml, hown, hts⟩ (c_acresOfZ l dC dI kA adK adV G s.heap nC nS o0 p0 fmv hT hr_p0 hr_o0 hm_fmv (by have q8 := ti_all fmv; omega) (by omega) (by omega)) (cwV 1 hts (goodIn_app (goodIn_r _ [3, 4, 5, 6] rfl (by decide +kernel)) (goodIn_ca (goodIn_r _ [2] rfl (by decide +kernel)) (bs2_in _ _))) rfl rfl rfl (by decide +kernel) ⟨(Nat.le_of_ble_eq_true rfl), (Nat.le_of_ble_eq_true rfl)⟩) ⟨fun a U g mk q => by obtain ⟨q0, q1, qK, qE⟩ := q; exact ⟨q0, q1, va_K.moved (u := U) (U := U.calling g mk a) (Vm.Alike.refl U.vm) qK, EVC.blind g mk a qE⟩, gH_rc hK hT hr_o0 shc_3 rfl, fun U hU hW => ⟨rfl, hU, va_K.moved hW.alike hK, hE.call hS hFc hU hW⟩⟩ rfl rfl hl.1 rfl (lv_room (Nat.le_of_ble_eq_true rfl)) dX0_gatherFacts_7 ⟨(Nat.le_of_ble_eq_true rfl), (Nat.le_of_ble_eq_true rfl)⟩) hS (fun q _ h => hFc q h) hFc (fun r1 u t H locs ht hvm hw2 hB _ _ hS => ?_)
  obtain ⟨hT, hF1⟩ := hB
  rw [ht] at hT hF1
  have m3 := (hF1.fld hr_o0 skc_3 (k := 5) (by decide) (by decide)).trans hm_fa9
  have m4 := (hF1.fld hr_p0 skc_10 (k := 7) (by decide) (by decide)).trans hm_fmv
  have m5 := (hF1.fld hr_p0 skc_10 (k := 8) (by decide) (by decide)).trans hm_gG
  have m6 := (hF1.fld hr_p0 skc_10 (k := 0) (by decide) (by decide)).trans hm_gA9
  have m7 := (hF1.fld hr_p0 skc_10 (k := 1) (by decide) (by decide)).trans hm_gD9
  have m8 := (hF1.fld hr_p0 skc_10 (k := 6) (by decide) (by decide)).trans hm_gC9
  have m9 := (hF1.fld hr_p0 skc_10 (k := 2) (by decide) (by decide)).trans hm_gU9
  have m10 := (hF1.fld hr_p0 skc_10 (k := 3) (by decide) (by decide)).trans hm_gI9
  have m11 := (hF1.fld hr_p0 skc_10 (k := 4) (by decide) (by decide)).trans hm_gM9
  have m12 := (hF1.fld hr_p0 skc_10 (k := 9) (by decide) (by decide)).trans hm_gW9
  have m13 := hc_fL.kept (hF1.arr hr_fa9 skc_56 (by decide))
  have hF := hF.more hF1 (by decide)
  try dsimp only at hw2
  obtain ⟨h14, hd15⟩ := hw2
  obtain rfl : (0 : Int32) = r1 := hd15.symm
  refine lv_i2l (v := 0) hx hb dX0_gatherFacts_10 (by decide) ?_
  refine tw_last (i := 0)  hx hb hK hT hG hS hr_fa9 shc_56 rfl (by unfold vp_in; decide) ⟨_, rfl⟩ dX0_gatherFacts_11 (fun H locs hT oq m16 oi hS => ?_)
  have hF := hF.ast hr_fa9 skc_56 oq (by decide)
  have m17 := (el_kept (oq _ (gne hr_o0 hr_fa9 (by decide)))).trans m3
  have m18 := (el_kept (oq _ (gne hr_p0 hr_fa9 (by decide)))).trans m4
  have m19 := (el_kept (oq _ (gne hr_p0 hr_fa9 (by decide)))).trans m5
  have m20 := (el_kept (oq _ (gne hr_p0 hr_fa9 (by decide)))).trans m6
  have m21 := (el_kept (oq _ (gne hr_p0 hr_fa9 (by decide)))).trans m7
  have m22 := (el_kept (oq _ (gne hr_p0 hr_fa9 (by decide)))).trans m8
  have m23 := (el_kept (oq _ (gne hr_p0 hr_fa9 (by decide)))).trans m9
  have m24 := (el_kept (oq _ (gne hr_p0 hr_fa9 (by decide)))).trans m10
  have m25 := (el_kept (oq _ (gne hr_p0 hr_fa9 (by decide)))).trans m11
  have m26 := (el_kept (oq _ (gne hr_p0 hr_fa9 (by decide)))).trans m12
  have m27 := m13.put m16 oi
  refine lv_aload_n hx hb dX0_gatherFacts_12 rfl (lv_at hl 0 rfl) ?_
  refine tw_getM (v := .ref fa9) hx hb hts bF2_X0 hown hK hT hr_o0 shc_3 rfl 5 (by decide) (ht_at2 hts 0 rfl) (fun _ h9 => h9) m17 dX0_gatherFacts_13 ?_
  refine lv_iconst (v := 1) hx hb dX0_gatherFacts_16 (by decide) ?_
  refine lv_aload_n hx hb dX0_gatherFacts_17 rfl (lv_at hl 1 rfl) ?_
  refine tw_getNM (v := .int gG) hx hb hts bF2_X7 hown hK hT hr_p0 shc_10 rfl 8 (by decide) (hE.nw 62 rfl) (fun _ h9 => h9) m19 dX0_gatherFacts_18 ?_
  refine lv_i2l (v := gG.toInt64) hx hb dX0_gatherFacts_21 rfl ?_
  refine tw_last (i := 1)  hx hb hK hT hG hS hr_fa9 shc_56 rfl (by unfold vp_in; decide) ⟨_, rfl⟩ dX0_gatherFacts_22 (fun H locs hT oq m28 oi hS => ?_)
  have hF := hF.ast hr_fa9 skc_56 oq (by decide)
  have m29 := (el_kept (oq _ (gne hr_o0 hr_fa9 (by decide)))).trans m17
  have m30 := (el_kept (oq _ (gne hr_p0 hr_fa9 (by decide)))).trans m18
  have m32 := (el_kept (oq _ (gne hr_p0 hr_fa9 (by decide)))).trans m20
  have m33 := (el_kept (oq _ (gne hr_p0 hr_fa9 (by decide)))).trans m21
  have m34 := (el_kept (oq _ (gne hr_p0 hr_fa9 (by decide)))).trans m22
  have m35 := (el_kept (oq _ (gne hr_p0 hr_fa9 (by decide)))).trans m23
  have m36 := (el_kept (oq _ (gne hr_p0 hr_fa9 (by decide)))).trans m24
  have m37 := (el_kept (oq _ (gne hr_p0 hr_fa9 (by decide)))).trans m25
  have m38 := (el_kept (oq _ (gne hr_p0 hr_fa9 (by decide)))).trans m26
  have m39 := m27.put m28 oi
  refine lv_aload_n hx hb dX0_gatherFacts_23 rfl (lv_at hl 0 rfl) ?_
  refine tw_getM (v := .ref fa9) hx hb hts bF2_X0 hown hK hT hr_o0 shc_3 rfl 5 (by decide) (ht_at2 hts 0 rfl) (fun _ h9 => h9) m29 dX0_gatherFacts_24 ?_
  refine lv_iconst (v := 2) hx hb dX0_gatherFacts_27 (by decide) ?_
  refine lv_aload_n hx hb dX0_gatherFacts_28 rfl (lv_at hl 1 rfl) ?_
  refine tw_getNM (v := .int gA9) hx hb hts bF2_X7 hown hK hT hr_p0 shc_10 rfl 0 (by decide) (hE.nw 63 rfl) (fun _ h9 => h9) m32 dX0_gatherFacts_29 ?_
  refine lv_i2l (v := gA9.toInt64) hx hb dX0_gatherFacts_32 rfl ?_
  refine tw_last (i := 2)  hx hb hK hT hG hS hr_fa9 shc_56 rfl (by unfold vp_in; decide) ⟨_, rfl⟩ dX0_gatherFacts_33 (fun H locs hT oq m40 oi hS => ?_)
  have hF := hF.ast hr_fa9 skc_56 oq (by decide)
  have m41 := (el_kept (oq _ (gne hr_o0 hr_fa9 (by decide)))).trans m29
  have m42 := (el_kept (oq _ (gne hr_p0 hr_fa9 (by decide)))).trans m30
  have m45 := (el_kept (oq _ (gne hr_p0 hr_fa9 (by decide)))).trans m33
  have m46 := (el_kept (oq _ (gne hr_p0 hr_fa9 (by decide)))).trans m34
  have m47 := (el_kept (oq _ (gne hr_p0 hr_fa9 (by decide)))).trans m35
  have m48 := (el_kept (oq _ (gne hr_p0 hr_fa9 (by decide)))).trans m36
  have m49 := (el_kept (oq _ (gne hr_p0 hr_fa9 (by decide)))).trans m37
  have m50 := (el_kept (oq _ (gne hr_p0 hr_fa9 (by decide)))).trans m38
  have m51 := m39.put m40 oi
  refine lv_aload_n hx hb dX0_gatherFacts_34 rfl (lv_at hl 0 rfl) ?_
  refine tw_getM (v := .ref fa9) hx hb hts bF2_X0 hown hK hT hr_o0 shc_3 rfl 5 (by decide) (ht_at2 hts 0 rfl) (fun _ h9 => h9) m41 dX0_gatherFacts_35 ?_
  refine lv_iconst (v := 3) hx hb dX0_gatherFacts_38 (by decide) ?_
  refine lv_aload_n hx hb dX0_gatherFacts_39 rfl (lv_at hl 1 rfl) ?_
  refine tw_getNM (v := .int gD9) hx hb hts bF2_X7 hown hK hT hr_p0 shc_10 rfl 1 (by decide) (hE.nw 64 rfl) (fun _ h9 => h9) m45 dX0_gatherFacts_40 ?_
  refine lv_i2l (v := gD9.toInt64) hx hb dX0_gatherFacts_43 rfl ?_
  refine tw_last (i := 3)  hx hb hK hT hG hS hr_fa9 shc_56 rfl (by unfold vp_in; decide) ⟨_, rfl⟩ dX0_gatherFacts_44 (fun H locs hT oq m52 oi hS => ?_)
  have hF := hF.ast hr_fa9 skc_56 oq (by decide)
  have m53 := (el_kept (oq _ (gne hr_o0 hr_fa9 (by decide)))).trans m41
  have m54 := (el_kept (oq _ (gne hr_p0 hr_fa9 (by decide)))).trans m42
  have m58 := (el_kept (oq _ (gne hr_p0 hr_fa9 (by decide)))).trans m46
  have m59 := (el_kept (oq _ (gne hr_p0 hr_fa9 (by decide)))).trans m47
  have m60 := (el_kept (oq _ (gne hr_p0 hr_fa9 (by decide)))).trans m48
  have m61 := (el_kept (oq _ (gne hr_p0 hr_fa9 (by decide)))).trans m49
  have m62 := (el_kept (oq _ (gne hr_p0 hr_fa9 (by decide)))).trans m50
  have m63 := m51.put m52 oi
  refine lv_aload_n hx hb dX0_gatherFacts_45 rfl (lv_at hl 0 rfl) ?_
  refine tw_getM (v := .ref fa9) hx hb hts bF2_X0 hown hK hT hr_o0 shc_3 rfl 5 (by decide) (ht_at2 hts 0 rfl) (fun _ h9 => h9) m53 dX0_gatherFacts_46 ?_
  refine lv_iconst (v := 4) hx hb dX0_gatherFacts_49 (by decide) ?_
  refine lv_aload_n hx hb dX0_gatherFacts_50 rfl (lv_at hl 1 rfl) ?_
  refine tw_getNM (v := .int gC9) hx hb hts bF2_X7 hown hK hT hr_p0 shc_10 rfl 6 (by decide) (hE.nw 65 rfl) (fun _ h9 => h9) m58 dX0_gatherFacts_51 ?_
  refine lv_i2l (v := gC9.toInt64) hx hb dX0_gatherFacts_54 rfl ?_
  refine tw_last (i := 4)  hx hb hK hT hG hS hr_fa9 shc_56 rfl (by unfold vp_in; decide) ⟨_, rfl⟩ dX0_gatherFacts_55 (fun H locs hT oq m64 oi hS => ?_)
  have hF := hF.ast hr_fa9 skc_56 oq (by decide)
  have m65 := (el_kept (oq _ (gne hr_o0 hr_fa9 (by decide)))).trans m53
  have m66 := (el_kept (oq _ (gne hr_p0 hr_fa9 (by decide)))).trans m54
  have m71 := (el_kept (oq _ (gne hr_p0 hr_fa9 (by decide)))).trans m59
  have m72 := (el_kept (oq _ (gne hr_p0 hr_fa9 (by decide)))).trans m60
  have m73 := (el_kept (oq _ (gne hr_p0 hr_fa9 (by decide)))).trans m61
  have m74 := (el_kept (oq _ (gne hr_p0 hr_fa9 (by decide)))).trans m62
  have m75 := m63.put m64 oi
  refine lv_aload_n hx hb dX0_gatherFacts_56 rfl (lv_at hl 0 rfl) ?_
  refine tw_getM (v := .ref fa9) hx hb hts bF2_X0 hown hK hT hr_o0 shc_3 rfl 5 (by decide) (ht_at2 hts 0 rfl) (fun _ h9 => h9) m65 dX0_gatherFacts_57 ?_
  refine lv_iconst (v := 5) hx hb dX0_gatherFacts_60 (by decide) ?_
  refine lv_aload_n hx hb dX0_gatherFacts_61 rfl (lv_at hl 1 rfl) ?_
  refine tw_getNM (v := .int gU9) hx hb hts bF2_X7 hown hK hT hr_p0 shc_10 rfl 2 (by decide) (hE.nw 66 rfl) (fun _ h9 => h9) m71 dX0_gatherFacts_62 ?_
  refine lv_i2l (v := gU9.toInt64) hx hb dX0_gatherFacts_65 rfl ?_
  refine tw_last (i := 5)  hx hb hK hT hG hS hr_fa9 shc_56 rfl (by unfold vp_in; decide) ⟨_, rfl⟩ dX0_gatherFacts_66 (fun H locs hT oq m76 oi hS => ?_)
  have hF := hF.ast hr_fa9 skc_56 oq (by decide)
  have m77 := (el_kept (oq _ (gne hr_o0 hr_fa9 (by decide)))).trans m65
  have m78 := (el_kept (oq _ (gne hr_p0 hr_fa9 (by decide)))).trans m66
  have m84 := (el_kept (oq _ (gne hr_p0 hr_fa9 (by decide)))).trans m72
  have m85 := (el_kept (oq _ (gne hr_p0 hr_fa9 (by decide)))).trans m73
  have m86 := (el_kept (oq _ (gne hr_p0 hr_fa9 (by decide)))).trans m74
  have m87 := m75.put m76 oi
  refine lv_aload_n hx hb dX0_gatherFacts_67 rfl (lv_at hl 0 rfl) ?_
  refine tw_getM (v := .ref fa9) hx hb hts bF2_X0 hown hK hT hr_o0 shc_3 rfl 5 (by decide) (ht_at2 hts 0 rfl) (fun _ h9 => h9) m77 dX0_gatherFacts_68 ?_
  refine lv_bipush (v := 6) hx hb dX0_gatherFacts_71 (by decide) ?_
  refine lv_aload_n hx hb dX0_gatherFacts_73 rfl (lv_at hl 1 rfl) ?_
  refine tw_getNM (v := .int gI9) hx hb hts bF2_X7 hown hK hT hr_p0 shc_10 rfl 3 (by decide) (hE.nw 67 rfl) (fun _ h9 => h9) m84 dX0_gatherFacts_74 ?_
  refine lv_if_eq (tgt := 84) hx hb dX0_gatherFacts_77 (by decide) (fun c88 => ?_) (fun c88 => ?_)
  · have t89 : gI9.toInt = 0 := ti_eq c88 rfl (by decide)
    refine lv_lconst (v := 0) hx hb dX0_gatherFacts_84 (by decide) ?_
    refine tw_last (i := 6)  hx hb hK hT hG hS hr_fa9 shc_56 rfl (by unfold vp_in; decide) ⟨_, rfl⟩ dX0_gatherFacts_85 (fun H locs hT oq m90 oi hS => ?_)
    have hF := hF.ast hr_fa9 skc_56 oq (by decide)
    have m91 := (el_kept (oq _ (gne hr_o0 hr_fa9 (by decide)))).trans m77
    have m92 := (el_kept (oq _ (gne hr_p0 hr_fa9 (by decide)))).trans m78
    have m99 := (el_kept (oq _ (gne hr_p0 hr_fa9 (by decide)))).trans m85
    have m100 := (el_kept (oq _ (gne hr_p0 hr_fa9 (by decide)))).trans m86
    have m101 := m87.put m90 oi
    refine lv_aload_n hx hb dX0_gatherFacts_86 rfl (lv_at hl 0 rfl) ?_
    refine tw_getM (v := .ref fa9) hx hb hts bF2_X0 hown hK hT hr_o0 shc_3 rfl 5 (by decide) (ht_at2 hts 0 rfl) (fun _ h9 => h9) m91 dX0_gatherFacts_87 ?_
    refine lv_bipush (v := 7) hx hb dX0_gatherFacts_90 (by decide) ?_
    refine lv_aload_n hx hb dX0_gatherFacts_92 rfl (lv_at hl 1 rfl) ?_
    refine tw_getNM (v := .int gM9) hx hb hts bF2_X7 hown hK hT hr_p0 shc_10 rfl 4 (by decide) (hE.nw 68 rfl) (fun _ h9 => h9) m99 dX0_gatherFacts_93 ?_
    refine lv_if_eq (tgt := 103) hx hb dX0_gatherFacts_96 (by decide) (fun c102 => ?_) (fun c102 => ?_)
    · have t103 : gM9.toInt = 0 := ti_eq c102 rfl (by decide)
      refine lv_lconst (v := 0) hx hb dX0_gatherFacts_103 (by decide) ?_
      refine tw_last (i := 7)  hx hb hK hT hG hS hr_fa9 shc_56 rfl (by unfold vp_in; decide) ⟨_, rfl⟩ dX0_gatherFacts_104 (fun H locs hT oq m104 oi hS => ?_)
      have hF := hF.ast hr_fa9 skc_56 oq (by decide)
      have m105 := (el_kept (oq _ (gne hr_o0 hr_fa9 (by decide)))).trans m91
      have m106 := (el_kept (oq _ (gne hr_p0 hr_fa9 (by decide)))).trans m92
      have m114 := (el_kept (oq _ (gne hr_p0 hr_fa9 (by decide)))).trans m100
      have m115 := m101.put m104 oi
      refine lv_aload_n hx hb dX0_gatherFacts_105 rfl (lv_at hl 0 rfl) ?_
      refine tw_getM (v := .ref fa9) hx hb hts bF2_X0 hown hK hT hr_o0 shc_3 rfl 5 (by decide) (ht_at2 hts 0 rfl) (fun _ h9 => h9) m105 dX0_gatherFacts_106 ?_
      refine lv_bipush (v := 8) hx hb dX0_gatherFacts_109 (by decide) ?_
      refine lv_aload_n hx hb dX0_gatherFacts_111 rfl (lv_at hl 0 rfl) ?_
      refine lv_aload_n hx hb dX0_gatherFacts_112 rfl (lv_at hl 1 rfl) ?_
      refine lv_aload_n hx hb dX0_gatherFacts_113 rfl (lv_at hl 2 rfl) ?_
      have hFc := gA_free hG hA hS
      refine va_calli (va_runV (As := [.ref p0, .ref p1]) (rest := [.int 8, .ref fa9]) ⟨hx, hb, hml, hown, hts⟩ (c_nearOfZ l dC dI kA adK adV G H nC nS o0 p0 p1 fmv hT hr_p0 hr_p1 hr_o0 m106 (by have q8 := ti_all fmv; omega) (by omega) (by omega)) (cwV 2 hts (goodIn_app (goodIn_r _ [8, 9, 10, 6] rfl (by decide +kernel)) (goodIn_ca (goodIn_r _ [7] rfl (by decide +kernel)) (bs2_in _ _))) rfl rfl rfl (by decide +kernel) ⟨(Nat.le_of_ble_eq_true rfl), (Nat.le_of_ble_eq_true rfl)⟩) ⟨fun a U g mk q => by obtain ⟨q0, q1, qK, qE⟩ := q; exact ⟨q0, q1, va_K.moved (u := U) (U := U.calling g mk a) (Vm.Alike.refl U.vm) qK, EVC.blind g mk a qE⟩, gH_rc hK hT hr_o0 shc_3 rfl, fun U hU hW => ⟨rfl, hU, va_K.moved hW.alike hK, hE.call hS hFc hU hW⟩⟩ rfl rfl hl.1 rfl (lv_room (Nat.le_of_ble_eq_true rfl)) dX0_gatherFacts_114 ⟨(Nat.le_of_ble_eq_true rfl), (Nat.le_of_ble_eq_true rfl)⟩) hS (fun q _ h => hFc q h) hFc (fun r116 u t H locs ht hvm hw117 hB _ _ hS => ?_)
      obtain ⟨hT, hF1⟩ := hB
      rw [ht] at hT hF1
      have m118 := (hF1.fld hr_o0 skc_3 (k := 5) (by decide) (by decide)).trans m105
      have m127 := (hF1.fld hr_p0 skc_10 (k := 9) (by decide) (by decide)).trans m114
      have m128 := m115.kept (hF1.arr hr_fa9 skc_56 (by decide))
      have hF := hF.more hF1 (by decide)
      try dsimp only at hw117
      obtain ⟨h129, hd130⟩ := hw117
      obtain rfl : (99 : Int32) = r116 := hd130.symm
      refine lv_i2l (v := 99) hx hb dX0_gatherFacts_117 (by decide) ?_
      refine tw_last (i := 8)  hx hb hK hT hG hS hr_fa9 shc_56 rfl (by unfold vp_in; decide) ⟨_, rfl⟩ dX0_gatherFacts_118 (fun H locs hT oq m131 oi hS => ?_)
      have hF := hF.ast hr_fa9 skc_56 oq (by decide)
      have m132 := (el_kept (oq _ (gne hr_o0 hr_fa9 (by decide)))).trans m118
      have m141 := (el_kept (oq _ (gne hr_p0 hr_fa9 (by decide)))).trans m127
      have m142 := m128.put m131 oi
      refine lv_aload_n hx hb dX0_gatherFacts_119 rfl (lv_at hl 0 rfl) ?_
      refine tw_getM (v := .ref fa9) hx hb hts bF2_X0 hown hK hT hr_o0 shc_3 rfl 5 (by decide) (ht_at2 hts 0 rfl) (fun _ h9 => h9) m132 dX0_gatherFacts_120 ?_
      refine lv_bipush (v := 9) hx hb dX0_gatherFacts_123 (by decide) ?_
      refine lv_aload_n hx hb dX0_gatherFacts_125 rfl (lv_at hl 1 rfl) ?_
      refine tw_getNM (v := .int gW9) hx hb hts bF2_X7 hown hK hT hr_p0 shc_10 rfl 9 (by decide) (hE.nw 69 rfl) (fun _ h9 => h9) m141 dX0_gatherFacts_126 ?_
      refine lv_i2l (v := gW9.toInt64) hx hb dX0_gatherFacts_129 rfl ?_
      refine tw_last (i := 9)  hx hb hK hT hG hS hr_fa9 shc_56 rfl (by unfold vp_in; decide) ⟨_, rfl⟩ dX0_gatherFacts_130 (fun H locs hT oq m143 oi hS => ?_)
      have hF := hF.ast hr_fa9 skc_56 oq (by decide)
      have m154 := m142.put m143 oi
      exact W.vret hx hb hr (fun t ht hW => ⟨⟨(cul (cul (cul (cul (cul (cul (cul (cul (cul (cul fL (0 : Int32).toNatClampNeg (0 : Int64)) (1 : Int32).toNatClampNeg gG.toInt64) (2 : Int32).toNatClampNeg gA9.toInt64) (3 : Int32).toNatClampNeg gD9.toInt64) (4 : Int32).toNatClampNeg gC9.toInt64) (5 : Int32).toNatClampNeg gU9.toInt64) (6 : Int32).toNatClampNeg (0 : Int64)) (7 : Int32).toNatClampNeg (0 : Int64)) (8 : Int32).toNatClampNeg (99 : Int64)) (9 : Int32).toNatClampNeg gW9.toInt64), rfl, (by exact (by intro k hk; (try dsimp only); rcases (show k = 0 ∨ k = 1 ∨ k = 2 ∨ k = 3 ∨ k = 4 ∨ k = 5 ∨ k = 6 ∨ k = 7 ∨ k = 8 ∨ k = 9 by omega) with rfl | rfl | rfl | rfl | rfl | rfl | rfl | rfl | rfl | rfl; (rw [cul_o (show (0 : Nat) ≠ (9 : Int32).toNatClampNeg from by decide), cul_o (show (0 : Nat) ≠ (8 : Int32).toNatClampNeg from by decide), cul_o (show (0 : Nat) ≠ (7 : Int32).toNatClampNeg from by decide), cul_o (show (0 : Nat) ≠ (6 : Int32).toNatClampNeg from by decide), cul_o (show (0 : Nat) ≠ (5 : Int32).toNatClampNeg from by decide), cul_o (show (0 : Nat) ≠ (4 : Int32).toNatClampNeg from by decide), cul_o (show (0 : Nat) ≠ (3 : Int32).toNatClampNeg from by decide), cul_o (show (0 : Nat) ≠ (2 : Int32).toNatClampNeg from by decide), cul_o (show (0 : Nat) ≠ (1 : Int32).toNatClampNeg from by decide), cul_s (show (0 : Nat) = (0 : Int32).toNatClampNeg from by decide)]; show _ = Int64.ofInt 0; decide); (rw [cul_o (show (1 : Nat) ≠ (9 : Int32).toNatClampNeg from by decide), cul_o (show (1 : Nat) ≠ (8 : Int32).toNatClampNeg from by decide), cul_o (show (1 : Nat) ≠ (7 : Int32).toNatClampNeg from by decide), cul_o (show (1 : Nat) ≠ (6 : Int32).toNatClampNeg from by decide), cul_o (show (1 : Nat) ≠ (5 : Int32).toNatClampNeg from by decide), cul_o (show (1 : Nat) ≠ (4 : Int32).toNatClampNeg from by decide), cul_o (show (1 : Nat) ≠ (3 : Int32).toNatClampNeg from by decide), cul_o (show (1 : Nat) ≠ (2 : Int32).toNatClampNeg from by decide), cul_s (show (1 : Nat) = (1 : Int32).toNatClampNeg from by decide)]; rw [i2l_of]; rfl); (rw [cul_o (show (2 : Nat) ≠ (9 : Int32).toNatClampNeg from by decide), cul_o (show (2 : Nat) ≠ (8 : Int32).toNatClampNeg from by decide), cul_o (show (2 : Nat) ≠ (7 : Int32).toNatClampNeg from by decide), cul_o (show (2 : Nat) ≠ (6 : Int32).toNatClampNeg from by decide), cul_o (show (2 : Nat) ≠ (5 : Int32).toNatClampNeg from by decide), cul_o (show (2 : Nat) ≠ (4 : Int32).toNatClampNeg from by decide), cul_o (show (2 : Nat) ≠ (3 : Int32).toNatClampNeg from by decide), cul_s (show (2 : Nat) = (2 : Int32).toNatClampNeg from by decide)]; rw [i2l_of]; rfl); (rw [cul_o (show (3 : Nat) ≠ (9 : Int32).toNatClampNeg from by decide), cul_o (show (3 : Nat) ≠ (8 : Int32).toNatClampNeg from by decide), cul_o (show (3 : Nat) ≠ (7 : Int32).toNatClampNeg from by decide), cul_o (show (3 : Nat) ≠ (6 : Int32).toNatClampNeg from by decide), cul_o (show (3 : Nat) ≠ (5 : Int32).toNatClampNeg from by decide), cul_o (show (3 : Nat) ≠ (4 : Int32).toNatClampNeg from by decide), cul_s (show (3 : Nat) = (3 : Int32).toNatClampNeg from by decide)]; rw [i2l_of]; rfl); (rw [cul_o (show (4 : Nat) ≠ (9 : Int32).toNatClampNeg from by decide), cul_o (show (4 : Nat) ≠ (8 : Int32).toNatClampNeg from by decide), cul_o (show (4 : Nat) ≠ (7 : Int32).toNatClampNeg from by decide), cul_o (show (4 : Nat) ≠ (6 : Int32).toNatClampNeg from by decide), cul_o (show (4 : Nat) ≠ (5 : Int32).toNatClampNeg from by decide), cul_s (show (4 : Nat) = (4 : Int32).toNatClampNeg from by decide)]; rw [i2l_of]; rfl); (rw [cul_o (show (5 : Nat) ≠ (9 : Int32).toNatClampNeg from by decide), cul_o (show (5 : Nat) ≠ (8 : Int32).toNatClampNeg from by decide), cul_o (show (5 : Nat) ≠ (7 : Int32).toNatClampNeg from by decide), cul_o (show (5 : Nat) ≠ (6 : Int32).toNatClampNeg from by decide), cul_s (show (5 : Nat) = (5 : Int32).toNatClampNeg from by decide)]; rw [i2l_of]; rfl); (rw [cul_o (show (6 : Nat) ≠ (9 : Int32).toNatClampNeg from by decide), cul_o (show (6 : Nat) ≠ (8 : Int32).toNatClampNeg from by decide), cul_o (show (6 : Nat) ≠ (7 : Int32).toNatClampNeg from by decide), cul_s (show (6 : Nat) = (6 : Int32).toNatClampNeg from by decide)]; show _ = Int64.ofInt gI9.toInt; rw [show gI9.toInt = 0 from by omega]; decide); (rw [cul_o (show (7 : Nat) ≠ (9 : Int32).toNatClampNeg from by decide), cul_o (show (7 : Nat) ≠ (8 : Int32).toNatClampNeg from by decide), cul_s (show (7 : Nat) = (7 : Int32).toNatClampNeg from by decide)]; show _ = Int64.ofInt gM9.toInt; rw [show gM9.toInt = 0 from by omega]; decide); (rw [cul_o (show (8 : Nat) ≠ (9 : Int32).toNatClampNeg from by decide), cul_s (show (8 : Nat) = (8 : Int32).toNatClampNeg from by decide)]; show _ = Int64.ofInt 99; decide); (rw [cul_s (show (9 : Nat) = (9 : Int32).toNatClampNeg from by decide)]; rw [i2l_of]; rfl))), by (try dsimp only); rw [ht]; exact ⟨hT, hF, m154⟩⟩, hS.F ht⟩) hS.2.2 dX0_gatherFacts_131
    · have t155 : gM9.toInt ≠ 0 := ti_ne c102 rfl (by decide)
      refine lv_lconst (v := 1) hx hb dX0_gatherFacts_99 (by decide) ?_
      refine lv_goto (tgt := 104) hx hb dX0_gatherFacts_100 (by decide) ?_
      refine tw_last (i := 7)  hx hb hK hT hG hS hr_fa9 shc_56 rfl (by unfold vp_in; decide) ⟨_, rfl⟩ dX0_gatherFacts_104 (fun H locs hT oq m156 oi hS => ?_)
      have hF := hF.ast hr_fa9 skc_56 oq (by decide)
      have m157 := (el_kept (oq _ (gne hr_o0 hr_fa9 (by decide)))).trans m91
      have m158 := (el_kept (oq _ (gne hr_p0 hr_fa9 (by decide)))).trans m92
      have m166 := (el_kept (oq _ (gne hr_p0 hr_fa9 (by decide)))).trans m100
      have m167 := m101.put m156 oi
      refine lv_aload_n hx hb dX0_gatherFacts_105 rfl (lv_at hl 0 rfl) ?_
      refine tw_getM (v := .ref fa9) hx hb hts bF2_X0 hown hK hT hr_o0 shc_3 rfl 5 (by decide) (ht_at2 hts 0 rfl) (fun _ h9 => h9) m157 dX0_gatherFacts_106 ?_
      refine lv_bipush (v := 8) hx hb dX0_gatherFacts_109 (by decide) ?_
      refine lv_aload_n hx hb dX0_gatherFacts_111 rfl (lv_at hl 0 rfl) ?_
      refine lv_aload_n hx hb dX0_gatherFacts_112 rfl (lv_at hl 1 rfl) ?_
      refine lv_aload_n hx hb dX0_gatherFacts_113 rfl (lv_at hl 2 rfl) ?_
      have hFc := gA_free hG hA hS
      refine va_calli (va_runV (As := [.ref p0, .ref p1]) (rest := [.int 8, .ref fa9]) ⟨hx, hb, hml, hown, hts⟩ (c_nearOfZ l dC dI kA adK adV G H nC nS o0 p0 p1 fmv hT hr_p0 hr_p1 hr_o0 m158 (by have q8 := ti_all fmv; omega) (by omega) (by omega)) (cwV 2 hts (goodIn_app (goodIn_r _ [8, 9, 10, 6] rfl (by decide +kernel)) (goodIn_ca (goodIn_r _ [7] rfl (by decide +kernel)) (bs2_in _ _))) rfl rfl rfl (by decide +kernel) ⟨(Nat.le_of_ble_eq_true rfl), (Nat.le_of_ble_eq_true rfl)⟩) ⟨fun a U g mk q => by obtain ⟨q0, q1, qK, qE⟩ := q; exact ⟨q0, q1, va_K.moved (u := U) (U := U.calling g mk a) (Vm.Alike.refl U.vm) qK, EVC.blind g mk a qE⟩, gH_rc hK hT hr_o0 shc_3 rfl, fun U hU hW => ⟨rfl, hU, va_K.moved hW.alike hK, hE.call hS hFc hU hW⟩⟩ rfl rfl hl.1 rfl (lv_room (Nat.le_of_ble_eq_true rfl)) dX0_gatherFacts_114 ⟨(Nat.le_of_ble_eq_true rfl), (Nat.le_of_ble_eq_true rfl)⟩) hS (fun q _ h => hFc q h) hFc (fun r168 u t H locs ht hvm hw169 hB _ _ hS => ?_)
      obtain ⟨hT, hF1⟩ := hB
      rw [ht] at hT hF1
      have m170 := (hF1.fld hr_o0 skc_3 (k := 5) (by decide) (by decide)).trans m157
      have m179 := (hF1.fld hr_p0 skc_10 (k := 9) (by decide) (by decide)).trans m166
      have m180 := m167.kept (hF1.arr hr_fa9 skc_56 (by decide))
      have hF := hF.more hF1 (by decide)
      try dsimp only at hw169
      obtain ⟨h181, hd182⟩ := hw169
      obtain rfl : (99 : Int32) = r168 := hd182.symm
      refine lv_i2l (v := 99) hx hb dX0_gatherFacts_117 (by decide) ?_
      refine tw_last (i := 8)  hx hb hK hT hG hS hr_fa9 shc_56 rfl (by unfold vp_in; decide) ⟨_, rfl⟩ dX0_gatherFacts_118 (fun H locs hT oq m183 oi hS => ?_)
      have hF := hF.ast hr_fa9 skc_56 oq (by decide)
      have m184 := (el_kept (oq _ (gne hr_o0 hr_fa9 (by decide)))).trans m170
      have m193 := (el_kept (oq _ (gne hr_p0 hr_fa9 (by decide)))).trans m179
      have m194 := m180.put m183 oi
      refine lv_aload_n hx hb dX0_gatherFacts_119 rfl (lv_at hl 0 rfl) ?_
      refine tw_getM (v := .ref fa9) hx hb hts bF2_X0 hown hK hT hr_o0 shc_3 rfl 5 (by decide) (ht_at2 hts 0 rfl) (fun _ h9 => h9) m184 dX0_gatherFacts_120 ?_
      refine lv_bipush (v := 9) hx hb dX0_gatherFacts_123 (by decide) ?_
      refine lv_aload_n hx hb dX0_gatherFacts_125 rfl (lv_at hl 1 rfl) ?_
      refine tw_getNM (v := .int gW9) hx hb hts bF2_X7 hown hK hT hr_p0 shc_10 rfl 9 (by decide) (hE.nw 69 rfl) (fun _ h9 => h9) m193 dX0_gatherFacts_126 ?_
      refine lv_i2l (v := gW9.toInt64) hx hb dX0_gatherFacts_129 rfl ?_
      refine tw_last (i := 9)  hx hb hK hT hG hS hr_fa9 shc_56 rfl (by unfold vp_in; decide) ⟨_, rfl⟩ dX0_gatherFacts_130 (fun H locs hT oq m195 oi hS => ?_)
      have hF := hF.ast hr_fa9 skc_56 oq (by decide)
      have m206 := m194.put m195 oi
      exact W.vret hx hb hr (fun t ht hW => ⟨⟨(cul (cul (cul (cul (cul (cul (cul (cul (cul (cul fL (0 : Int32).toNatClampNeg (0 : Int64)) (1 : Int32).toNatClampNeg gG.toInt64) (2 : Int32).toNatClampNeg gA9.toInt64) (3 : Int32).toNatClampNeg gD9.toInt64) (4 : Int32).toNatClampNeg gC9.toInt64) (5 : Int32).toNatClampNeg gU9.toInt64) (6 : Int32).toNatClampNeg (0 : Int64)) (7 : Int32).toNatClampNeg (1 : Int64)) (8 : Int32).toNatClampNeg (99 : Int64)) (9 : Int32).toNatClampNeg gW9.toInt64), rfl, (by exact (by intro k hk; (try dsimp only); rcases (show k = 0 ∨ k = 1 ∨ k = 2 ∨ k = 3 ∨ k = 4 ∨ k = 5 ∨ k = 6 ∨ k = 7 ∨ k = 8 ∨ k = 9 by omega) with rfl | rfl | rfl | rfl | rfl | rfl | rfl | rfl | rfl | rfl; (rw [cul_o (show (0 : Nat) ≠ (9 : Int32).toNatClampNeg from by decide), cul_o (show (0 : Nat) ≠ (8 : Int32).toNatClampNeg from by decide), cul_o (show (0 : Nat) ≠ (7 : Int32).toNatClampNeg from by decide), cul_o (show (0 : Nat) ≠ (6 : Int32).toNatClampNeg from by decide), cul_o (show (0 : Nat) ≠ (5 : Int32).toNatClampNeg from by decide), cul_o (show (0 : Nat) ≠ (4 : Int32).toNatClampNeg from by decide), cul_o (show (0 : Nat) ≠ (3 : Int32).toNatClampNeg from by decide), cul_o (show (0 : Nat) ≠ (2 : Int32).toNatClampNeg from by decide), cul_o (show (0 : Nat) ≠ (1 : Int32).toNatClampNeg from by decide), cul_s (show (0 : Nat) = (0 : Int32).toNatClampNeg from by decide)]; show _ = Int64.ofInt 0; decide); (rw [cul_o (show (1 : Nat) ≠ (9 : Int32).toNatClampNeg from by decide), cul_o (show (1 : Nat) ≠ (8 : Int32).toNatClampNeg from by decide), cul_o (show (1 : Nat) ≠ (7 : Int32).toNatClampNeg from by decide), cul_o (show (1 : Nat) ≠ (6 : Int32).toNatClampNeg from by decide), cul_o (show (1 : Nat) ≠ (5 : Int32).toNatClampNeg from by decide), cul_o (show (1 : Nat) ≠ (4 : Int32).toNatClampNeg from by decide), cul_o (show (1 : Nat) ≠ (3 : Int32).toNatClampNeg from by decide), cul_o (show (1 : Nat) ≠ (2 : Int32).toNatClampNeg from by decide), cul_s (show (1 : Nat) = (1 : Int32).toNatClampNeg from by decide)]; rw [i2l_of]; rfl); (rw [cul_o (show (2 : Nat) ≠ (9 : Int32).toNatClampNeg from by decide), cul_o (show (2 : Nat) ≠ (8 : Int32).toNatClampNeg from by decide), cul_o (show (2 : Nat) ≠ (7 : Int32).toNatClampNeg from by decide), cul_o (show (2 : Nat) ≠ (6 : Int32).toNatClampNeg from by decide), cul_o (show (2 : Nat) ≠ (5 : Int32).toNatClampNeg from by decide), cul_o (show (2 : Nat) ≠ (4 : Int32).toNatClampNeg from by decide), cul_o (show (2 : Nat) ≠ (3 : Int32).toNatClampNeg from by decide), cul_s (show (2 : Nat) = (2 : Int32).toNatClampNeg from by decide)]; rw [i2l_of]; rfl); (rw [cul_o (show (3 : Nat) ≠ (9 : Int32).toNatClampNeg from by decide), cul_o (show (3 : Nat) ≠ (8 : Int32).toNatClampNeg from by decide), cul_o (show (3 : Nat) ≠ (7 : Int32).toNatClampNeg from by decide), cul_o (show (3 : Nat) ≠ (6 : Int32).toNatClampNeg from by decide), cul_o (show (3 : Nat) ≠ (5 : Int32).toNatClampNeg from by decide), cul_o (show (3 : Nat) ≠ (4 : Int32).toNatClampNeg from by decide), cul_s (show (3 : Nat) = (3 : Int32).toNatClampNeg from by decide)]; rw [i2l_of]; rfl); (rw [cul_o (show (4 : Nat) ≠ (9 : Int32).toNatClampNeg from by decide), cul_o (show (4 : Nat) ≠ (8 : Int32).toNatClampNeg from by decide), cul_o (show (4 : Nat) ≠ (7 : Int32).toNatClampNeg from by decide), cul_o (show (4 : Nat) ≠ (6 : Int32).toNatClampNeg from by decide), cul_o (show (4 : Nat) ≠ (5 : Int32).toNatClampNeg from by decide), cul_s (show (4 : Nat) = (4 : Int32).toNatClampNeg from by decide)]; rw [i2l_of]; rfl); (rw [cul_o (show (5 : Nat) ≠ (9 : Int32).toNatClampNeg from by decide), cul_o (show (5 : Nat) ≠ (8 : Int32).toNatClampNeg from by decide), cul_o (show (5 : Nat) ≠ (7 : Int32).toNatClampNeg from by decide), cul_o (show (5 : Nat) ≠ (6 : Int32).toNatClampNeg from by decide), cul_s (show (5 : Nat) = (5 : Int32).toNatClampNeg from by decide)]; rw [i2l_of]; rfl); (rw [cul_o (show (6 : Nat) ≠ (9 : Int32).toNatClampNeg from by decide), cul_o (show (6 : Nat) ≠ (8 : Int32).toNatClampNeg from by decide), cul_o (show (6 : Nat) ≠ (7 : Int32).toNatClampNeg from by decide), cul_s (show (6 : Nat) = (6 : Int32).toNatClampNeg from by decide)]; show _ = Int64.ofInt gI9.toInt; rw [show gI9.toInt = 0 from by omega]; decide); (rw [cul_o (show (7 : Nat) ≠ (9 : Int32).toNatClampNeg from by decide), cul_o (show (7 : Nat) ≠ (8 : Int32).toNatClampNeg from by decide), cul_s (show (7 : Nat) = (7 : Int32).toNatClampNeg from by decide)]; show _ = Int64.ofInt gM9.toInt; rw [show gM9.toInt = 1 from by omega]; decide); (rw [cul_o (show (8 : Nat) ≠ (9 : Int32).toNatClampNeg from by decide), cul_s (show (8 : Nat) = (8 : Int32).toNatClampNeg from by decide)]; show _ = Int64.ofInt 99; decide); (rw [cul_s (show (9 : Nat) = (9 : Int32).toNatClampNeg from by decide)]; rw [i2l_of]; rfl))), by (try dsimp only); rw [ht]; exact ⟨hT, hF, m206⟩⟩, hS.F ht⟩) hS.2.2 dX0_gatherFacts_131
  · have t207 : gI9.toInt ≠ 0 := ti_ne c88 rfl (by decide)
    refine lv_lconst (v := 1) hx hb dX0_gatherFacts_80 (by decide) ?_
    refine lv_goto (tgt := 85) hx hb dX0_gatherFacts_81 (by decide) ?_
    refine tw_last (i := 6)  hx hb hK hT hG hS hr_fa9 shc_56 rfl (by unfold vp_in; decide) ⟨_, rfl⟩ dX0_gatherFacts_85 (fun H locs hT oq m208 oi hS => ?_)
    have hF := hF.ast hr_fa9 skc_56 oq (by decide)
    have m209 := (el_kept (oq _ (gne hr_o0 hr_fa9 (by decide)))).trans m77
    have m210 := (el_kept (oq _ (gne hr_p0 hr_fa9 (by decide)))).trans m78
    have m217 := (el_kept (oq _ (gne hr_p0 hr_fa9 (by decide)))).trans m85
    have m218 := (el_kept (oq _ (gne hr_p0 hr_fa9 (by decide)))).trans m86
    have m219 := m87.put m208 oi
    refine lv_aload_n hx hb dX0_gatherFacts_86 rfl (lv_at hl 0 rfl) ?_
    refine tw_getM (v := .ref fa9) hx hb hts bF2_X0 hown hK hT hr_o0 shc_3 rfl 5 (by decide) (ht_at2 hts 0 rfl) (fun _ h9 => h9) m209 dX0_gatherFacts_87 ?_
    refine lv_bipush (v := 7) hx hb dX0_gatherFacts_90 (by decide) ?_
    refine lv_aload_n hx hb dX0_gatherFacts_92 rfl (lv_at hl 1 rfl) ?_
    refine tw_getNM (v := .int gM9) hx hb hts bF2_X7 hown hK hT hr_p0 shc_10 rfl 4 (by decide) (hE.nw 68 rfl) (fun _ h9 => h9) m217 dX0_gatherFacts_93 ?_
    refine lv_if_eq (tgt := 103) hx hb dX0_gatherFacts_96 (by decide) (fun c220 => ?_) (fun c220 => ?_)
    · have t221 : gM9.toInt = 0 := ti_eq c220 rfl (by decide)
      refine lv_lconst (v := 0) hx hb dX0_gatherFacts_103 (by decide) ?_
      refine tw_last (i := 7)  hx hb hK hT hG hS hr_fa9 shc_56 rfl (by unfold vp_in; decide) ⟨_, rfl⟩ dX0_gatherFacts_104 (fun H locs hT oq m222 oi hS => ?_)
      have hF := hF.ast hr_fa9 skc_56 oq (by decide)
      have m223 := (el_kept (oq _ (gne hr_o0 hr_fa9 (by decide)))).trans m209
      have m224 := (el_kept (oq _ (gne hr_p0 hr_fa9 (by decide)))).trans m210
      have m232 := (el_kept (oq _ (gne hr_p0 hr_fa9 (by decide)))).trans m218
      have m233 := m219.put m222 oi
      refine lv_aload_n hx hb dX0_gatherFacts_105 rfl (lv_at hl 0 rfl) ?_
      refine tw_getM (v := .ref fa9) hx hb hts bF2_X0 hown hK hT hr_o0 shc_3 rfl 5 (by decide) (ht_at2 hts 0 rfl) (fun _ h9 => h9) m223 dX0_gatherFacts_106 ?_
      refine lv_bipush (v := 8) hx hb dX0_gatherFacts_109 (by decide) ?_
      refine lv_aload_n hx hb dX0_gatherFacts_111 rfl (lv_at hl 0 rfl) ?_
      refine lv_aload_n hx hb dX0_gatherFacts_112 rfl (lv_at hl 1 rfl) ?_
      refine lv_aload_n hx hb dX0_gatherFacts_113 rfl (lv_at hl 2 rfl) ?_
      have hFc := gA_free hG hA hS
      refine va_calli (va_runV (As := [.ref p0, .ref p1]) (rest := [.int 8, .ref fa9]) ⟨hx, hb, hml, hown, hts⟩ (c_nearOfZ l dC dI kA adK adV G H nC nS o0 p0 p1 fmv hT hr_p0 hr_p1 hr_o0 m224 (by have q8 := ti_all fmv; omega) (by omega) (by omega)) (cwV 2 hts (goodIn_app (goodIn_r _ [8, 9, 10, 6] rfl (by decide +kernel)) (goodIn_ca (goodIn_r _ [7] rfl (by decide +kernel)) (bs2_in _ _))) rfl rfl rfl (by decide +kernel) ⟨(Nat.le_of_ble_eq_true rfl), (Nat.le_of_ble_eq_true rfl)⟩) ⟨fun a U g mk q => by obtain ⟨q0, q1, qK, qE⟩ := q; exact ⟨q0, q1, va_K.moved (u := U) (U := U.calling g mk a) (Vm.Alike.refl U.vm) qK, EVC.blind g mk a qE⟩, gH_rc hK hT hr_o0 shc_3 rfl, fun U hU hW => ⟨rfl, hU, va_K.moved hW.alike hK, hE.call hS hFc hU hW⟩⟩ rfl rfl hl.1 rfl (lv_room (Nat.le_of_ble_eq_true rfl)) dX0_gatherFacts_114 ⟨(Nat.le_of_ble_eq_true rfl), (Nat.le_of_ble_eq_true rfl)⟩) hS (fun q _ h => hFc q h) hFc (fun r234 u t H locs ht hvm hw235 hB _ _ hS => ?_)
      obtain ⟨hT, hF1⟩ := hB
      rw [ht] at hT hF1
      have m236 := (hF1.fld hr_o0 skc_3 (k := 5) (by decide) (by decide)).trans m223
      have m245 := (hF1.fld hr_p0 skc_10 (k := 9) (by decide) (by decide)).trans m232
      have m246 := m233.kept (hF1.arr hr_fa9 skc_56 (by decide))
      have hF := hF.more hF1 (by decide)
      try dsimp only at hw235
      obtain ⟨h247, hd248⟩ := hw235
      obtain rfl : (99 : Int32) = r234 := hd248.symm
      refine lv_i2l (v := 99) hx hb dX0_gatherFacts_117 (by decide) ?_
      refine tw_last (i := 8)  hx hb hK hT hG hS hr_fa9 shc_56 rfl (by unfold vp_in; decide) ⟨_, rfl⟩ dX0_gatherFacts_118 (fun H locs hT oq m249 oi hS => ?_)
      have hF := hF.ast hr_fa9 skc_56 oq (by decide)
      have m250 := (el_kept (oq _ (gne hr_o0 hr_fa9 (by decide)))).trans m236
      have m259 := (el_kept (oq _ (gne hr_p0 hr_fa9 (by decide)))).trans m245
      have m260 := m246.put m249 oi
      refine lv_aload_n hx hb dX0_gatherFacts_119 rfl (lv_at hl 0 rfl) ?_
      refine tw_getM (v := .ref fa9) hx hb hts bF2_X0 hown hK hT hr_o0 shc_3 rfl 5 (by decide) (ht_at2 hts 0 rfl) (fun _ h9 => h9) m250 dX0_gatherFacts_120 ?_
      refine lv_bipush (v := 9) hx hb dX0_gatherFacts_123 (by decide) ?_
      refine lv_aload_n hx hb dX0_gatherFacts_125 rfl (lv_at hl 1 rfl) ?_
      refine tw_getNM (v := .int gW9) hx hb hts bF2_X7 hown hK hT hr_p0 shc_10 rfl 9 (by decide) (hE.nw 69 rfl) (fun _ h9 => h9) m259 dX0_gatherFacts_126 ?_
      refine lv_i2l (v := gW9.toInt64) hx hb dX0_gatherFacts_129 rfl ?_
      refine tw_last (i := 9)  hx hb hK hT hG hS hr_fa9 shc_56 rfl (by unfold vp_in; decide) ⟨_, rfl⟩ dX0_gatherFacts_130 (fun H locs hT oq m261 oi hS => ?_)
      have hF := hF.ast hr_fa9 skc_56 oq (by decide)
      have m272 := m260.put m261 oi
      exact W.vret hx hb hr (fun t ht hW => ⟨⟨(cul (cul (cul (cul (cul (cul (cul (cul (cul (cul fL (0 : Int32).toNatClampNeg (0 : Int64)) (1 : Int32).toNatClampNeg gG.toInt64) (2 : Int32).toNatClampNeg gA9.toInt64) (3 : Int32).toNatClampNeg gD9.toInt64) (4 : Int32).toNatClampNeg gC9.toInt64) (5 : Int32).toNatClampNeg gU9.toInt64) (6 : Int32).toNatClampNeg (1 : Int64)) (7 : Int32).toNatClampNeg (0 : Int64)) (8 : Int32).toNatClampNeg (99 : Int64)) (9 : Int32).toNatClampNeg gW9.toInt64), rfl, (by exact (by intro k hk; (try dsimp only); rcases (show k = 0 ∨ k = 1 ∨ k = 2 ∨ k = 3 ∨ k = 4 ∨ k = 5 ∨ k = 6 ∨ k = 7 ∨ k = 8 ∨ k = 9 by omega) with rfl | rfl | rfl | rfl | rfl | rfl | rfl | rfl | rfl | rfl; (rw [cul_o (show (0 : Nat) ≠ (9 : Int32).toNatClampNeg from by decide), cul_o (show (0 : Nat) ≠ (8 : Int32).toNatClampNeg from by decide), cul_o (show (0 : Nat) ≠ (7 : Int32).toNatClampNeg from by decide), cul_o (show (0 : Nat) ≠ (6 : Int32).toNatClampNeg from by decide), cul_o (show (0 : Nat) ≠ (5 : Int32).toNatClampNeg from by decide), cul_o (show (0 : Nat) ≠ (4 : Int32).toNatClampNeg from by decide), cul_o (show (0 : Nat) ≠ (3 : Int32).toNatClampNeg from by decide), cul_o (show (0 : Nat) ≠ (2 : Int32).toNatClampNeg from by decide), cul_o (show (0 : Nat) ≠ (1 : Int32).toNatClampNeg from by decide), cul_s (show (0 : Nat) = (0 : Int32).toNatClampNeg from by decide)]; show _ = Int64.ofInt 0; decide); (rw [cul_o (show (1 : Nat) ≠ (9 : Int32).toNatClampNeg from by decide), cul_o (show (1 : Nat) ≠ (8 : Int32).toNatClampNeg from by decide), cul_o (show (1 : Nat) ≠ (7 : Int32).toNatClampNeg from by decide), cul_o (show (1 : Nat) ≠ (6 : Int32).toNatClampNeg from by decide), cul_o (show (1 : Nat) ≠ (5 : Int32).toNatClampNeg from by decide), cul_o (show (1 : Nat) ≠ (4 : Int32).toNatClampNeg from by decide), cul_o (show (1 : Nat) ≠ (3 : Int32).toNatClampNeg from by decide), cul_o (show (1 : Nat) ≠ (2 : Int32).toNatClampNeg from by decide), cul_s (show (1 : Nat) = (1 : Int32).toNatClampNeg from by decide)]; rw [i2l_of]; rfl); (rw [cul_o (show (2 : Nat) ≠ (9 : Int32).toNatClampNeg from by decide), cul_o (show (2 : Nat) ≠ (8 : Int32).toNatClampNeg from by decide), cul_o (show (2 : Nat) ≠ (7 : Int32).toNatClampNeg from by decide), cul_o (show (2 : Nat) ≠ (6 : Int32).toNatClampNeg from by decide), cul_o (show (2 : Nat) ≠ (5 : Int32).toNatClampNeg from by decide), cul_o (show (2 : Nat) ≠ (4 : Int32).toNatClampNeg from by decide), cul_o (show (2 : Nat) ≠ (3 : Int32).toNatClampNeg from by decide), cul_s (show (2 : Nat) = (2 : Int32).toNatClampNeg from by decide)]; rw [i2l_of]; rfl); (rw [cul_o (show (3 : Nat) ≠ (9 : Int32).toNatClampNeg from by decide), cul_o (show (3 : Nat) ≠ (8 : Int32).toNatClampNeg from by decide), cul_o (show (3 : Nat) ≠ (7 : Int32).toNatClampNeg from by decide), cul_o (show (3 : Nat) ≠ (6 : Int32).toNatClampNeg from by decide), cul_o (show (3 : Nat) ≠ (5 : Int32).toNatClampNeg from by decide), cul_o (show (3 : Nat) ≠ (4 : Int32).toNatClampNeg from by decide), cul_s (show (3 : Nat) = (3 : Int32).toNatClampNeg from by decide)]; rw [i2l_of]; rfl); (rw [cul_o (show (4 : Nat) ≠ (9 : Int32).toNatClampNeg from by decide), cul_o (show (4 : Nat) ≠ (8 : Int32).toNatClampNeg from by decide), cul_o (show (4 : Nat) ≠ (7 : Int32).toNatClampNeg from by decide), cul_o (show (4 : Nat) ≠ (6 : Int32).toNatClampNeg from by decide), cul_o (show (4 : Nat) ≠ (5 : Int32).toNatClampNeg from by decide), cul_s (show (4 : Nat) = (4 : Int32).toNatClampNeg from by decide)]; rw [i2l_of]; rfl); (rw [cul_o (show (5 : Nat) ≠ (9 : Int32).toNatClampNeg from by decide), cul_o (show (5 : Nat) ≠ (8 : Int32).toNatClampNeg from by decide), cul_o (show (5 : Nat) ≠ (7 : Int32).toNatClampNeg from by decide), cul_o (show (5 : Nat) ≠ (6 : Int32).toNatClampNeg from by decide), cul_s (show (5 : Nat) = (5 : Int32).toNatClampNeg from by decide)]; rw [i2l_of]; rfl); (rw [cul_o (show (6 : Nat) ≠ (9 : Int32).toNatClampNeg from by decide), cul_o (show (6 : Nat) ≠ (8 : Int32).toNatClampNeg from by decide), cul_o (show (6 : Nat) ≠ (7 : Int32).toNatClampNeg from by decide), cul_s (show (6 : Nat) = (6 : Int32).toNatClampNeg from by decide)]; show _ = Int64.ofInt gI9.toInt; rw [show gI9.toInt = 1 from by omega]; decide); (rw [cul_o (show (7 : Nat) ≠ (9 : Int32).toNatClampNeg from by decide), cul_o (show (7 : Nat) ≠ (8 : Int32).toNatClampNeg from by decide), cul_s (show (7 : Nat) = (7 : Int32).toNatClampNeg from by decide)]; show _ = Int64.ofInt gM9.toInt; rw [show gM9.toInt = 0 from by omega]; decide); (rw [cul_o (show (8 : Nat) ≠ (9 : Int32).toNatClampNeg from by decide), cul_s (show (8 : Nat) = (8 : Int32).toNatClampNeg from by decide)]; show _ = Int64.ofInt 99; decide); (rw [cul_s (show (9 : Nat) = (9 : Int32).toNatClampNeg from by decide)]; rw [i2l_of]; rfl))), by (try dsimp only); rw [ht]; exact ⟨hT, hF, m272⟩⟩, hS.F ht⟩) hS.2.2 dX0_gatherFacts_131
    · have t273 : gM9.toInt ≠ 0 := ti_ne c220 rfl (by decide)
      refine lv_lconst (v := 1) hx hb dX0_gatherFacts_99 (by decide) ?_
      refine lv_goto (tgt := 104) hx hb dX0_gatherFacts_100 (by decide) ?_
      refine tw_last (i := 7)  hx hb hK hT hG hS hr_fa9 shc_56 rfl (by unfold vp_in; decide) ⟨_, rfl⟩ dX0_gatherFacts_104 (fun H locs hT oq m274 oi hS => ?_)
      have hF := hF.ast hr_fa9 skc_56 oq (by decide)
      have m275 := (el_kept (oq _ (gne hr_o0 hr_fa9 (by decide)))).trans m209
      have m276 := (el_kept (oq _ (gne hr_p0 hr_fa9 (by decide)))).trans m210
      have m284 := (el_kept (oq _ (gne hr_p0 hr_fa9 (by decide)))).trans m218
      have m285 := m219.put m274 oi
      refine lv_aload_n hx hb dX0_gatherFacts_105 rfl (lv_at hl 0 rfl) ?_
      refine tw_getM (v := .ref fa9) hx hb hts bF2_X0 hown hK hT hr_o0 shc_3 rfl 5 (by decide) (ht_at2 hts 0 rfl) (fun _ h9 => h9) m275 dX0_gatherFacts_106 ?_
      refine lv_bipush (v := 8) hx hb dX0_gatherFacts_109 (by decide) ?_
      refine lv_aload_n hx hb dX0_gatherFacts_111 rfl (lv_at hl 0 rfl) ?_
      refine lv_aload_n hx hb dX0_gatherFacts_112 rfl (lv_at hl 1 rfl) ?_
      refine lv_aload_n hx hb dX0_gatherFacts_113 rfl (lv_at hl 2 rfl) ?_
      have hFc := gA_free hG hA hS
      refine va_calli (va_runV (As := [.ref p0, .ref p1]) (rest := [.int 8, .ref fa9]) ⟨hx, hb, hml, hown, hts⟩ (c_nearOfZ l dC dI kA adK adV G H nC nS o0 p0 p1 fmv hT hr_p0 hr_p1 hr_o0 m276 (by have q8 := ti_all fmv; omega) (by omega) (by omega)) (cwV 2 hts (goodIn_app (goodIn_r _ [8, 9, 10, 6] rfl (by decide +kernel)) (goodIn_ca (goodIn_r _ [7] rfl (by decide +kernel)) (bs2_in _ _))) rfl rfl rfl (by decide +kernel) ⟨(Nat.le_of_ble_eq_true rfl), (Nat.le_of_ble_eq_true rfl)⟩) ⟨fun a U g mk q => by obtain ⟨q0, q1, qK, qE⟩ := q; exact ⟨q0, q1, va_K.moved (u := U) (U := U.calling g mk a) (Vm.Alike.refl U.vm) qK, EVC.blind g mk a qE⟩, gH_rc hK hT hr_o0 shc_3 rfl, fun U hU hW => ⟨rfl, hU, va_K.moved hW.alike hK, hE.call hS hFc hU hW⟩⟩ rfl rfl hl.1 rfl (lv_room (Nat.le_of_ble_eq_true rfl)) dX0_gatherFacts_114 ⟨(Nat.le_of_ble_eq_true rfl), (Nat.le_of_ble_eq_true rfl)⟩) hS (fun q _ h => hFc q h) hFc (fun r286 u t H locs ht hvm hw287 hB _ _ hS => ?_)
      obtain ⟨hT, hF1⟩ := hB
      rw [ht] at hT hF1
      have m288 := (hF1.fld hr_o0 skc_3 (k := 5) (by decide) (by decide)).trans m275
      have m297 := (hF1.fld hr_p0 skc_10 (k := 9) (by decide) (by decide)).trans m284
      have m298 := m285.kept (hF1.arr hr_fa9 skc_56 (by decide))
      have hF := hF.more hF1 (by decide)
      try dsimp only at hw287
      obtain ⟨h299, hd300⟩ := hw287
      obtain rfl : (99 : Int32) = r286 := hd300.symm
      refine lv_i2l (v := 99) hx hb dX0_gatherFacts_117 (by decide) ?_
      refine tw_last (i := 8)  hx hb hK hT hG hS hr_fa9 shc_56 rfl (by unfold vp_in; decide) ⟨_, rfl⟩ dX0_gatherFacts_118 (fun H locs hT oq m301 oi hS => ?_)
      have hF := hF.ast hr_fa9 skc_56 oq (by decide)
      have m302 := (el_kept (oq _ (gne hr_o0 hr_fa9 (by decide)))).trans m288
      have m311 := (el_kept (oq _ (gne hr_p0 hr_fa9 (by decide)))).trans m297
      have m312 := m298.put m301 oi
      refine lv_aload_n hx hb dX0_gatherFacts_119 rfl (lv_at hl 0 rfl) ?_
      refine tw_getM (v := .ref fa9) hx hb hts bF2_X0 hown hK hT hr_o0 shc_3 rfl 5 (by decide) (ht_at2 hts 0 rfl) (fun _ h9 => h9) m302 dX0_gatherFacts_120 ?_
      refine lv_bipush (v := 9) hx hb dX0_gatherFacts_123 (by decide) ?_
      refine lv_aload_n hx hb dX0_gatherFacts_125 rfl (lv_at hl 1 rfl) ?_
      refine tw_getNM (v := .int gW9) hx hb hts bF2_X7 hown hK hT hr_p0 shc_10 rfl 9 (by decide) (hE.nw 69 rfl) (fun _ h9 => h9) m311 dX0_gatherFacts_126 ?_
      refine lv_i2l (v := gW9.toInt64) hx hb dX0_gatherFacts_129 rfl ?_
      refine tw_last (i := 9)  hx hb hK hT hG hS hr_fa9 shc_56 rfl (by unfold vp_in; decide) ⟨_, rfl⟩ dX0_gatherFacts_130 (fun H locs hT oq m313 oi hS => ?_)
      have hF := hF.ast hr_fa9 skc_56 oq (by decide)
      have m324 := m312.put m313 oi
      exact W.vret hx hb hr (fun t ht hW => ⟨⟨(cul (cul (cul (cul (cul (cul (cul (cul (cul (cul fL (0 : Int32).toNatClampNeg (0 : Int64)) (1 : Int32).toNatClampNeg gG.toInt64) (2 : Int32).toNatClampNeg gA9.toInt64) (3 : Int32).toNatClampNeg gD9.toInt64) (4 : Int32).toNatClampNeg gC9.toInt64) (5 : Int32).toNatClampNeg gU9.toInt64) (6 : Int32).toNatClampNeg (1 : Int64)) (7 : Int32).toNatClampNeg (1 : Int64)) (8 : Int32).toNatClampNeg (99 : Int64)) (9 : Int32).toNatClampNeg gW9.toInt64), rfl, (by exact (by intro k hk; (try dsimp only); rcases (show k = 0 ∨ k = 1 ∨ k = 2 ∨ k = 3 ∨ k = 4 ∨ k = 5 ∨ k = 6 ∨ k = 7 ∨ k = 8 ∨ k = 9 by omega) with rfl | rfl | rfl | rfl | rfl | rfl | rfl | rfl | rfl | rfl; (rw [cul_o (show (0 : Nat) ≠ (9 : Int32).toNatClampNeg from by decide), cul_o (show (0 : Nat) ≠ (8 : Int32).toNatClampNeg from by decide), cul_o (show (0 : Nat) ≠ (7 : Int32).toNatClampNeg from by decide), cul_o (show (0 : Nat) ≠ (6 : Int32).toNatClampNeg from by decide), cul_o (show (0 : Nat) ≠ (5 : Int32).toNatClampNeg from by decide), cul_o (show (0 : Nat) ≠ (4 : Int32).toNatClampNeg from by decide), cul_o (show (0 : Nat) ≠ (3 : Int32).toNatClampNeg from by decide), cul_o (show (0 : Nat) ≠ (2 : Int32).toNatClampNeg from by decide), cul_o (show (0 : Nat) ≠ (1 : Int32).toNatClampNeg from by decide), cul_s (show (0 : Nat) = (0 : Int32).toNatClampNeg from by decide)]; show _ = Int64.ofInt 0; decide); (rw [cul_o (show (1 : Nat) ≠ (9 : Int32).toNatClampNeg from by decide), cul_o (show (1 : Nat) ≠ (8 : Int32).toNatClampNeg from by decide), cul_o (show (1 : Nat) ≠ (7 : Int32).toNatClampNeg from by decide), cul_o (show (1 : Nat) ≠ (6 : Int32).toNatClampNeg from by decide), cul_o (show (1 : Nat) ≠ (5 : Int32).toNatClampNeg from by decide), cul_o (show (1 : Nat) ≠ (4 : Int32).toNatClampNeg from by decide), cul_o (show (1 : Nat) ≠ (3 : Int32).toNatClampNeg from by decide), cul_o (show (1 : Nat) ≠ (2 : Int32).toNatClampNeg from by decide), cul_s (show (1 : Nat) = (1 : Int32).toNatClampNeg from by decide)]; rw [i2l_of]; rfl); (rw [cul_o (show (2 : Nat) ≠ (9 : Int32).toNatClampNeg from by decide), cul_o (show (2 : Nat) ≠ (8 : Int32).toNatClampNeg from by decide), cul_o (show (2 : Nat) ≠ (7 : Int32).toNatClampNeg from by decide), cul_o (show (2 : Nat) ≠ (6 : Int32).toNatClampNeg from by decide), cul_o (show (2 : Nat) ≠ (5 : Int32).toNatClampNeg from by decide), cul_o (show (2 : Nat) ≠ (4 : Int32).toNatClampNeg from by decide), cul_o (show (2 : Nat) ≠ (3 : Int32).toNatClampNeg from by decide), cul_s (show (2 : Nat) = (2 : Int32).toNatClampNeg from by decide)]; rw [i2l_of]; rfl); (rw [cul_o (show (3 : Nat) ≠ (9 : Int32).toNatClampNeg from by decide), cul_o (show (3 : Nat) ≠ (8 : Int32).toNatClampNeg from by decide), cul_o (show (3 : Nat) ≠ (7 : Int32).toNatClampNeg from by decide), cul_o (show (3 : Nat) ≠ (6 : Int32).toNatClampNeg from by decide), cul_o (show (3 : Nat) ≠ (5 : Int32).toNatClampNeg from by decide), cul_o (show (3 : Nat) ≠ (4 : Int32).toNatClampNeg from by decide), cul_s (show (3 : Nat) = (3 : Int32).toNatClampNeg from by decide)]; rw [i2l_of]; rfl); (rw [cul_o (show (4 : Nat) ≠ (9 : Int32).toNatClampNeg from by decide), cul_o (show (4 : Nat) ≠ (8 : Int32).toNatClampNeg from by decide), cul_o (show (4 : Nat) ≠ (7 : Int32).toNatClampNeg from by decide), cul_o (show (4 : Nat) ≠ (6 : Int32).toNatClampNeg from by decide), cul_o (show (4 : Nat) ≠ (5 : Int32).toNatClampNeg from by decide), cul_s (show (4 : Nat) = (4 : Int32).toNatClampNeg from by decide)]; rw [i2l_of]; rfl); (rw [cul_o (show (5 : Nat) ≠ (9 : Int32).toNatClampNeg from by decide), cul_o (show (5 : Nat) ≠ (8 : Int32).toNatClampNeg from by decide), cul_o (show (5 : Nat) ≠ (7 : Int32).toNatClampNeg from by decide), cul_o (show (5 : Nat) ≠ (6 : Int32).toNatClampNeg from by decide), cul_s (show (5 : Nat) = (5 : Int32).toNatClampNeg from by decide)]; rw [i2l_of]; rfl); (rw [cul_o (show (6 : Nat) ≠ (9 : Int32).toNatClampNeg from by decide), cul_o (show (6 : Nat) ≠ (8 : Int32).toNatClampNeg from by decide), cul_o (show (6 : Nat) ≠ (7 : Int32).toNatClampNeg from by decide), cul_s (show (6 : Nat) = (6 : Int32).toNatClampNeg from by decide)]; show _ = Int64.ofInt gI9.toInt; rw [show gI9.toInt = 1 from by omega]; decide); (rw [cul_o (show (7 : Nat) ≠ (9 : Int32).toNatClampNeg from by decide), cul_o (show (7 : Nat) ≠ (8 : Int32).toNatClampNeg from by decide), cul_s (show (7 : Nat) = (7 : Int32).toNatClampNeg from by decide)]; show _ = Int64.ofInt gM9.toInt; rw [show gM9.toInt = 1 from by omega]; decide); (rw [cul_o (show (8 : Nat) ≠ (9 : Int32).toNatClampNeg from by decide), cul_s (show (8 : Nat) = (8 : Int32).toNatClampNeg from by decide)]; show _ = Int64.ofInt 99; decide); (rw [cul_s (show (9 : Nat) = (9 : Int32).toNatClampNeg from by decide)]; rw [i2l_of]; rfl))), by (try dsimp only); rw [ht]; exact ⟨hT, hF, m324⟩⟩, hS.F ht⟩) hS.2.2 dX0_gatherFacts_131
def w_c_firstByMarkZ : List Cond := .code yX0_firstByMark cX0_firstByMark 3 (some .int) :: (HAppend.hAppend (α := List Cond) (β := List Cond) (γ := List Cond) [.fieldLink RX0 75 "SeaLand$Board" "settled" "I", .fieldLink RX0 37 "SeaLand$Board" "marks" "[I", .fieldLink RX0 11 "SeaLand$Board" "settlers" "[LSeaLand$Settler;"] bs2)
