set_option maxHeartbeats 4000000 in
set_option maxRecDepth 100000 in
theorem s_settlerZ (l : Launch) (dC : Nat → ClassId) (dI : Nat → Nat → Nat) (kA : Nat → ClassId) (adK adV : Nat → Nat) (G : gT) (H0 : Heap) (q : Nat → Nat) (wZ wN : Nat → Int) (wH wB wC : Int) (wL wK : Nat → Prop) (wU wV : Nat → Nat) (PI : Nat → Int → Prop) (im : Int) (PM PT : Nat → Int → Prop) (lS lB lE : Nat → Nat → Int → Prop) (lN : Nat → Int) (o0 : Nat) (p0 : Int32) (p1 : Int32) (p2 : Int32) (p3 : Int32) (p4 : Int32) (p5 : Int32) (p6 : Int32) (sn : Int32) (vA : Nat → Int32) (vD : Nat → Int32) (vC : Nat → Int32) (vU : Nat → Int32) (vI : Nat → Int32) (vM : Nat → Int32) (vH : Nat → Int32)  (hT : gH (dC, dI) kA (SHm q (wP wZ wN wH wB wC wL wK wU wV) PI im PM PT lS lB lE lN) G H0) (hr_o0 : G o0 = some 0) (hm_sn : el H0 o0 (dI 15 42) = some (.int sn)) (hq0 : 0 ≤ p4.toInt ∧ p4.toInt ≤ 1) (hq1 : 0 ≤ p5.toInt ∧ p5.toInt ≤ 1) (hq2 : 0 ≤ sn.toInt ∧ sn.toInt ≤ 60) (hc_vA : ct H0 (q 31) 60 vA) (hc_vD : ct H0 (q 32) 60 vD) (hc_vC : ct H0 (q 33) 60 vC) (hc_vU : ct H0 (q 34) 60 vU) (hc_vI : ct H0 (q 35) 60 vI) (hc_vM : ct H0 (q 36) 60 vM) (hc_vH : ct H0 (q 38) 60 vH) (hgz : ∀ i, 0 ≤ wZ i) (hgn : ∀ i, 6500000 ≤ wN i ∧ wN i ≤ 20200000) (hgh : 0 ≤ wH ∧ wH ≤ 40000) (hgb : 0 ≤ wB ∧ wB ≤ 3850000) (hgc : 0 ≤ wC ∧ wC ≤ 30) (hgi : 0 ≤ im ∧ im ≤ 1) (hgu : ∀ a t, G a = some (t + 1) → a = q t) : Met l yX12_settler w_s_settlerZ ({ frames := 1, cells := 0, slots := 0, locals := 22 }) (va_Pc [.ref o0, .int p0, .int p1, .int p2, .int p3, .int p4, .int p5, .int p6] (fun U => U.heap = H0 ∧ va_K (dC, dI) vwCl (tyl kA) U ∧ EVS adK adV (gA G H0.size) U U.heap)) (va_Qi (fun (r : Int32) (u : Int32 × (Nat → Int32) × (Nat → Int32) × (Nat → Int32) × (Nat → Int32) × (Nat → Int32) × (Nat → Int32) × (Nat → Int32)) => match u with | (n1, vA1, vD1, vC1, vU1, vI1, vM1, vH1) => (0 ≤ r.toInt ∧ r.toInt ≤ 59) ∧ (((((0 ≤ p0.toInt ∧ p0.toInt ≤ 99) ∧ (0 ≤ p1.toInt ∧ p1.toInt ≤ 20) ∧ (0 ≤ p2.toInt ∧ p2.toInt ≤ 100000) ∧ (0 ≤ p3.toInt ∧ p3.toInt ≤ 100) ∧ (0 ≤ p6.toInt ∧ p6.toInt ≤ 999999)) ∧ sn.toInt ≤ 59) ∧ n1.toInt = sn.toInt + 1 ∧ vA1 = cu vA sn.toNatClampNeg p0 ∧ vD1 = cu vD sn.toNatClampNeg p1 ∧ vC1 = cu vC sn.toNatClampNeg p2 ∧ vU1 = cu vU sn.toNatClampNeg p3 ∧ vI1 = cu vI sn.toNatClampNeg p4 ∧ vM1 = cu vM sn.toNatClampNeg p5 ∧ vH1 = cu vH sn.toNatClampNeg (-1)) ∨ (¬ (((0 ≤ p0.toInt ∧ p0.toInt ≤ 99) ∧ (0 ≤ p1.toInt ∧ p1.toInt ≤ 20) ∧ (0 ≤ p2.toInt ∧ p2.toInt ≤ 100000) ∧ (0 ≤ p3.toInt ∧ p3.toInt ≤ 100) ∧ (0 ≤ p6.toInt ∧ p6.toInt ≤ 999999)) ∧ sn.toInt ≤ 59) ∧ n1.toInt = sn.toInt ∧ vA1 = vA ∧ vD1 = vD ∧ vC1 = vC ∧ vU1 = vU ∧ vI1 = vI ∧ vM1 = vM ∧ vH1 = vH))) (fun (u : Int32 × (Nat → Int32) × (Nat → Int32) × (Nat → Int32) × (Nat → Int32) × (Nat → Int32) × (Nat → Int32) × (Nat → Int32)) (t : State) => match u with | (n1, vA1, vD1, vC1, vU1, vI1, vM1, vH1) => gH (dC, dI) kA (SHm q (wP wZ wN wH wB wC wL wK wU wV) PI im PM PT lS lB lE lN) G t.heap ∧ gF (dC, dI) SKm G ([(0, 0), (0, 42), (32, 0), (33, 0), (34, 0), (35, 0), (36, 0), (37, 0), (38, 0), (39, 0)] : List (Nat × Nat)) H0 t.heap ∧ el t.heap o0 (dI 15 42) = some (.int n1) ∧ ct t.heap (q 31) 60 vA1 ∧ ct t.heap (q 32) 60 vD1 ∧ ct t.heap (q 33) 60 vC1 ∧ ct t.heap (q 34) 60 vU1 ∧ ct t.heap (q 35) 60 vI1 ∧ ct t.heap (q 36) 60 vM1 ∧ ct t.heap (q 38) 60 vH1) (gA G H0.size)) 0 0 (gA G H0.size) := by
  refine Met.ofW (cc := cX12_settler) (maxL := 9) (ret := (some .int)) (by decide) rfl ?_
  intro p e s m args below meth c s₁ B hml hv
  obtain ⟨rfl, hH0, hK, hE⟩ := hv
  have hx := B.exec
  have hb := B.bytes
  have hr := B.returns
  have hts := atoms_spec (ws := w_s_settlerZ) B.pre
  have hown : s.vm.findClass RX12 = some m.cls := findClass_of_methodNamed B.named
  have hlocks := B.notSynchronized
  subst hH0
  generalize hAe : gA G s.heap.size = A at hE ⊢
  have hA : ∀ q : Nat, s.heap.size ≤ q → A q := fun q h => by rw [← hAe]; exact Or.inr h
  have hG := gA_of hAe
  have hS : va_S A s.heap s.heap [] := va_S.rf
  have hF : gF (dC, dI) SKm G ([(0, 0), (0, 42), (32, 0), (33, 0), (34, 0), (35, 0), (36, 0), (37, 0), (38, 0), (39, 0)] : List (Nat × Nat)) s.heap s.heap := gF.rf
  have hl := lv_entry ([.ref o0, .int p0, .int p1, .int p2, .int p3, .int p4, .int p5, .int p6]) (n := 9) (Nat.le_of_ble_eq_true rfl)
  rw [lg_entry_eq]
  generalize (lg_sl ([.ref o0, .int p0, .int p1, .int p2, .int p3, .int p4, .int p5, .int p6]) ++ List.replicate (9 - (lg_sl ([.ref o0, .int p0, .int p1, .int p2, .int p3, .int p4, .int p5, .int p6])).length) Slot.unset).toArray = ls at hl ⊢
  have hl : lv_has ls 9 [(0, .ref o0), (1, .int p0), (2, .int p1), (3, .int p2), (4, .int p3), (5, .int p4), (6, .int p5), (7, .int p6)] := hl
  have hg1 : G (q 31) = some 32 := gx_of hT hr_o0 shm_0 (k := 31) (by decide) rfl
  have hg2 : G (q 32) = some 33 := gx_of hT hr_o0 shm_0 (k := 32) (by decide) rfl
  have hg3 : G (q 33) = some 34 := gx_of hT hr_o0 shm_0 (k := 33) (by decide) rfl
  have hg4 : G (q 34) = some 35 := gx_of hT hr_o0 shm_0 (k := 34) (by decide) rfl
  have hg5 : G (q 35) = some 36 := gx_of hT hr_o0 shm_0 (k := 35) (by decide) rfl
  have hg6 : G (q 36) = some 37 := gx_of hT hr_o0 shm_0 (k := 36) (by decide) rfl
  have hg7 : G (q 38) = some 39 := gx_of hT hr_o0 shm_0 (k := 38) (by decide) rfl
  refine lv_aload_n hx hb dX12_settler_0 rfl (lv_at hl 0 rfl) ?_
  refine lv_iconst (v := 0) hx hb dX12_settler_1 (by decide) ?_
  refine tw_put (v := .int 0) (ty := .int) hx hb hts bF_X12 tyX12 tyX12_ok nmX12 hown hK hT hG hS hr_o0 shm_0 rfl 0 (by decide) (ht_at hts 0 rfl) (fun _ h9 => h9) rfl (by decide +kernel) rfl rfl (gl_at rfl (gi_all _)) dX12_settler_2 (fun H locs hT oq m8 oj hS => ?_)
  have hF := hF.put hr_o0 skm_0 oq oj (by decide)
  have m9 := (oj 42 (by decide) (by decide)).trans hm_sn
  have m10 := hc_vA.kept (oq _ (gne hg1 hr_o0 (by decide)))
  have m11 := hc_vD.kept (oq _ (gne hg2 hr_o0 (by decide)))
  have m12 := hc_vC.kept (oq _ (gne hg3 hr_o0 (by decide)))
  have m13 := hc_vU.kept (oq _ (gne hg4 hr_o0 (by decide)))
  have m14 := hc_vI.kept (oq _ (gne hg5 hr_o0 (by decide)))
  have m15 := hc_vM.kept (oq _ (gne hg6 hr_o0 (by decide)))
  have m16 := hc_vH.kept (oq _ (gne hg7 hr_o0 (by decide)))
  refine lv_aload_n hx hb dX12_settler_5 rfl (lv_at hl 0 rfl) ?_
  refine lv_iload_n hx hb dX12_settler_6 rfl (lv_at hl 1 rfl) ?_
  refine lv_iconst (v := 0) hx hb dX12_settler_7 (by decide) ?_
  refine lv_bipush (v := 99) hx hb dX12_settler_8 (by decide) ?_
  have hFc := gA_free hG hA hS
  refine va_calli (va_runS (As := [.int p0, .int 0, .int 99]) (rest := [.ref o0]) ⟨hx, hb, hml, hown, hts⟩ (s_in l dC dI kA adK adV G H q wZ wN wH wB wC wL wK wU wV PI im PM PT lS lB lE lN p0 0 99 hT hgz hgn hgh hgb hgc hgi hgu) (va_cwS 3 hts (goodIn_app (goodIn_r _ [3, 4, 5] rfl (by decide +kernel)) (goodIn_ca (goodIn_r _ [2] rfl (by decide +kernel)) (bs_in _ _))) rfl rfl rfl (by decide +kernel) ⟨(Nat.le_of_ble_eq_true rfl), (Nat.le_of_ble_eq_true rfl)⟩) ⟨fun a U g mk q => by obtain ⟨q0, q1, qK, qE⟩ := q; exact ⟨q0, q1, va_K.moved (u := U) (U := U.calling g mk a) (Vm.Alike.refl U.vm) qK, EVS.blind g mk a qE⟩, fun U hU hW => ⟨rfl, hU, va_K.moved hW.alike hK, hE.call hS hFc hU hW⟩⟩ rfl rfl hl.1 rfl (lv_room (Nat.le_of_ble_eq_true rfl)) dX12_settler_10 ⟨(Nat.le_of_ble_eq_true rfl), (Nat.le_of_ble_eq_true rfl)⟩) hS (fun q _ h => hFc q h) hFc (fun r17 u t H locs ht hvm hw18 hB _ _ hS => ?_)
  obtain ⟨hT, hF1⟩ := hB
  rw [ht] at hT hF1
  have m19 := (hF1.fld hr_o0 skm_0 (k := 42) (by decide) (by decide)).trans m9
  have m20 := m10.kept (hF1.arr hg1 skm_32 (by decide))
  have m21 := m11.kept (hF1.arr hg2 skm_33 (by decide))
  have m22 := m12.kept (hF1.arr hg3 skm_34 (by decide))
  have m23 := m13.kept (hF1.arr hg4 skm_35 (by decide))
  have m24 := m14.kept (hF1.arr hg5 skm_36 (by decide))
  have m25 := m15.kept (hF1.arr hg6 skm_37 (by decide))
  have m26 := m16.kept (hF1.arr hg7 skm_39 (by decide))
  have hF := hF.more hF1 (by decide)
  try dsimp only at hw18
  obtain ⟨h28, hi29, hi30⟩ := hw18
  refine lv_if_eq (tgt := 59) hx hb dX12_settler_13 (by decide) (fun c31 => ?_) (fun c31 => ?_)
  · have t32 : r17.toInt = 0 := ti_eq c31 rfl (by decide)
    have t33 : (0 : Int32).toInt = 0 := by decide
    have t34 : (99 : Int32).toInt = 99 := by decide
    have t35 : p0.toInt < (0 : Int32).toInt ∨ (99 : Int32).toInt < p0.toInt := hi30 c31
    refine lv_iconst (v := 1) hx hb dX12_settler_59 (by decide) ?_
    refine lv_goto (tgt := 64) hx hb dX12_settler_60 (by decide) ?_
    refine lv_iconst (v := 1) hx hb dX12_settler_64 (by decide) ?_
    have hFc := gA_free hG hA hS
    refine va_calli (va_runV (As := [.int 1, .int 1]) (rest := []) ⟨hx, hb, hml, hown, hts⟩ (s_throwsIf l dC dI kA adK adV G H q wZ wN wH wB wC wL wK wU wV PI im PM PT lS lB lE lN o0 1 1 hT hr_o0 (rg_t (a := 1) (by decide) (by first | decide | omega) (by first | decide | omega)) hgz hgn hgh hgb hgc hgi hgu) (cwV 2 hts (goodIn_app (goodIn_r _ [7, 8, 9, 5] rfl (by decide +kernel)) (goodIn_ca (goodIn_r _ [6, 1] rfl (by decide +kernel)) (bs_in _ _))) rfl rfl rfl (by decide +kernel) ⟨(Nat.le_of_ble_eq_true rfl), (Nat.le_of_ble_eq_true rfl)⟩) ⟨fun a U g mk q => by obtain ⟨q0, q1, qK, qE⟩ := q; exact ⟨q0, q1, va_K.moved (u := U) (U := U.calling g mk a) (Vm.Alike.refl U.vm) qK, EVS.blind g mk a qE⟩, gH_rc hK hT hr_o0 shm_0 rfl, fun U hU hW => ⟨rfl, hU, va_K.moved hW.alike hK, hE.call hS hFc hU hW⟩⟩ rfl rfl hl.1 rfl (lv_room (Nat.le_of_ble_eq_true rfl)) dX12_settler_65 ⟨(Nat.le_of_ble_eq_true rfl), (Nat.le_of_ble_eq_true rfl)⟩) hS (fun q _ h => hFc q h) hFc (fun r36 u t H locs ht hvm hw37 hB _ _ hS => ?_)
    obtain ⟨hT, hF1⟩ := hB
    rw [ht] at hT hF1
    have m38 := (hF1.fld hr_o0 skm_0 (k := 42) (by decide) (by decide)).trans m19
    have m39 := m20.kept (hF1.arr hg1 skm_32 (by decide))
    have m40 := m21.kept (hF1.arr hg2 skm_33 (by decide))
    have m41 := m22.kept (hF1.arr hg3 skm_34 (by decide))
    have m42 := m23.kept (hF1.arr hg4 skm_35 (by decide))
    have m43 := m24.kept (hF1.arr hg5 skm_36 (by decide))
    have m44 := m25.kept (hF1.arr hg6 skm_37 (by decide))
    have m45 := m26.kept (hF1.arr hg7 skm_39 (by decide))
    have hF := hF.more hF1 (by decide)
    try dsimp only at hw37
    obtain ⟨h47, hd48⟩ := hw37
    obtain rfl : (1 : Int32) = r36 := hd48.symm
    refine lv_if_ne (tgt := 93) hx hb dX12_settler_68 (by decide) (fun c49 => ?_) (fun c49 => absurd c49 (by decide))
    refine lv_iconst (v := 0) hx hb dX12_settler_93 (by decide) ?_
    exact W.iret (v := 0) hx hb hr (fun t ht hW => ⟨⟨0, (sn, vA, vD, vC, vU, vI, vM, vH), rfl, (by exact ⟨(rg_t (a := 0) (by decide) (by first | decide | omega) (by first | decide | omega)), (Or.inr ⟨by omega, by omega, rfl, rfl, rfl, rfl, rfl, rfl, rfl⟩)⟩), by (try dsimp only); rw [ht]; exact ⟨hT, hF, m38, m39, m40, m41, m42, m43, m44, m45⟩⟩, hS.F ht⟩) hS.2.2 dX12_settler_94
  · have t50 : r17.toInt ≠ 0 := ti_ne c31 rfl (by decide)
    have t51 : (0 : Int32).toInt = 0 := by decide
    have t52 : (99 : Int32).toInt = 99 := by decide
    have t53 : (0 : Int32).toInt ≤ p0.toInt ∧ p0.toInt ≤ (99 : Int32).toInt := hi29 ((bit_of ⟨by omega, by omega⟩).resolve_left c31)
    refine lv_iload_n hx hb dX12_settler_16 rfl (lv_at hl 2 rfl) ?_
    refine lv_iconst (v := 0) hx hb dX12_settler_17 (by decide) ?_
    refine lv_bipush (v := 20) hx hb dX12_settler_18 (by decide) ?_
    have hFc := gA_free hG hA hS
    refine va_calli (va_runS (As := [.int p1, .int 0, .int 20]) (rest := [.ref o0]) ⟨hx, hb, hml, hown, hts⟩ (s_in l dC dI kA adK adV G H q wZ wN wH wB wC wL wK wU wV PI im PM PT lS lB lE lN p1 0 20 hT hgz hgn hgh hgb hgc hgi hgu) (va_cwS 3 hts (goodIn_app (goodIn_r _ [3, 4, 5] rfl (by decide +kernel)) (goodIn_ca (goodIn_r _ [2] rfl (by decide +kernel)) (bs_in _ _))) rfl rfl rfl (by decide +kernel) ⟨(Nat.le_of_ble_eq_true rfl), (Nat.le_of_ble_eq_true rfl)⟩) ⟨fun a U g mk q => by obtain ⟨q0, q1, qK, qE⟩ := q; exact ⟨q0, q1, va_K.moved (u := U) (U := U.calling g mk a) (Vm.Alike.refl U.vm) qK, EVS.blind g mk a qE⟩, fun U hU hW => ⟨rfl, hU, va_K.moved hW.alike hK, hE.call hS hFc hU hW⟩⟩ rfl rfl hl.1 rfl (lv_room (Nat.le_of_ble_eq_true rfl)) dX12_settler_20 ⟨(Nat.le_of_ble_eq_true rfl), (Nat.le_of_ble_eq_true rfl)⟩) hS (fun q _ h => hFc q h) hFc (fun r54 u t H locs ht hvm hw55 hB _ _ hS => ?_)
    obtain ⟨hT, hF1⟩ := hB
    rw [ht] at hT hF1
    have m56 := (hF1.fld hr_o0 skm_0 (k := 42) (by decide) (by decide)).trans m19
    have m57 := m20.kept (hF1.arr hg1 skm_32 (by decide))
    have m58 := m21.kept (hF1.arr hg2 skm_33 (by decide))
    have m59 := m22.kept (hF1.arr hg3 skm_34 (by decide))
    have m60 := m23.kept (hF1.arr hg4 skm_35 (by decide))
    have m61 := m24.kept (hF1.arr hg5 skm_36 (by decide))
    have m62 := m25.kept (hF1.arr hg6 skm_37 (by decide))
    have m63 := m26.kept (hF1.arr hg7 skm_39 (by decide))
    have hF := hF.more hF1 (by decide)
    try dsimp only at hw55
    obtain ⟨h65, hi66, hi67⟩ := hw55
    refine lv_if_eq (tgt := 59) hx hb dX12_settler_23 (by decide) (fun c68 => ?_) (fun c68 => ?_)
    · have t69 : r54.toInt = 0 := ti_eq c68 rfl (by decide)
      have t70 : (0 : Int32).toInt = 0 := by decide
      have t71 : (20 : Int32).toInt = 20 := by decide
      have t72 : p1.toInt < (0 : Int32).toInt ∨ (20 : Int32).toInt < p1.toInt := hi67 c68
      refine lv_iconst (v := 1) hx hb dX12_settler_59 (by decide) ?_
      refine lv_goto (tgt := 64) hx hb dX12_settler_60 (by decide) ?_
      refine lv_iconst (v := 1) hx hb dX12_settler_64 (by decide) ?_
      have hFc := gA_free hG hA hS
      refine va_calli (va_runV (As := [.int 1, .int 1]) (rest := []) ⟨hx, hb, hml, hown, hts⟩ (s_throwsIf l dC dI kA adK adV G H q wZ wN wH wB wC wL wK wU wV PI im PM PT lS lB lE lN o0 1 1 hT hr_o0 (rg_t (a := 1) (by decide) (by first | decide | omega) (by first | decide | omega)) hgz hgn hgh hgb hgc hgi hgu) (cwV 2 hts (goodIn_app (goodIn_r _ [7, 8, 9, 5] rfl (by decide +kernel)) (goodIn_ca (goodIn_r _ [6, 1] rfl (by decide +kernel)) (bs_in _ _))) rfl rfl rfl (by decide +kernel) ⟨(Nat.le_of_ble_eq_true rfl), (Nat.le_of_ble_eq_true rfl)⟩) ⟨fun a U g mk q => by obtain ⟨q0, q1, qK, qE⟩ := q; exact ⟨q0, q1, va_K.moved (u := U) (U := U.calling g mk a) (Vm.Alike.refl U.vm) qK, EVS.blind g mk a qE⟩, gH_rc hK hT hr_o0 shm_0 rfl, fun U hU hW => ⟨rfl, hU, va_K.moved hW.alike hK, hE.call hS hFc hU hW⟩⟩ rfl rfl hl.1 rfl (lv_room (Nat.le_of_ble_eq_true rfl)) dX12_settler_65 ⟨(Nat.le_of_ble_eq_true rfl), (Nat.le_of_ble_eq_true rfl)⟩) hS (fun q _ h => hFc q h) hFc (fun r73 u t H locs ht hvm hw74 hB _ _ hS => ?_)
      obtain ⟨hT, hF1⟩ := hB
      rw [ht] at hT hF1
      have m75 := (hF1.fld hr_o0 skm_0 (k := 42) (by decide) (by decide)).trans m56
      have m76 := m57.kept (hF1.arr hg1 skm_32 (by decide))
      have m77 := m58.kept (hF1.arr hg2 skm_33 (by decide))
      have m78 := m59.kept (hF1.arr hg3 skm_34 (by decide))
      have m79 := m60.kept (hF1.arr hg4 skm_35 (by decide))
      have m80 := m61.kept (hF1.arr hg5 skm_36 (by decide))
      have m81 := m62.kept (hF1.arr hg6 skm_37 (by decide))
      have m82 := m63.kept (hF1.arr hg7 skm_39 (by decide))
      have hF := hF.more hF1 (by decide)
      try dsimp only at hw74
      obtain ⟨h84, hd85⟩ := hw74
      obtain rfl : (1 : Int32) = r73 := hd85.symm
      refine lv_if_ne (tgt := 93) hx hb dX12_settler_68 (by decide) (fun c86 => ?_) (fun c86 => absurd c86 (by decide))
      refine lv_iconst (v := 0) hx hb dX12_settler_93 (by decide) ?_
      exact W.iret (v := 0) hx hb hr (fun t ht hW => ⟨⟨0, (sn, vA, vD, vC, vU, vI, vM, vH), rfl, (by exact ⟨(rg_t (a := 0) (by decide) (by first | decide | omega) (by first | decide | omega)), (Or.inr ⟨by omega, by omega, rfl, rfl, rfl, rfl, rfl, rfl, rfl⟩)⟩), by (try dsimp only); rw [ht]; exact ⟨hT, hF, m75, m76, m77, m78, m79, m80, m81, m82⟩⟩, hS.F ht⟩) hS.2.2 dX12_settler_94
    · have t87 : r54.toInt ≠ 0 := ti_ne c68 rfl (by decide)
      have t88 : (0 : Int32).toInt = 0 := by decide
      have t89 : (20 : Int32).toInt = 20 := by decide
      have t90 : (0 : Int32).toInt ≤ p1.toInt ∧ p1.toInt ≤ (20 : Int32).toInt := hi66 ((bit_of ⟨by omega, by omega⟩).resolve_left c68)
      refine lv_iload_n hx hb dX12_settler_26 rfl (lv_at hl 3 rfl) ?_
      refine lv_iconst (v := 0) hx hb dX12_settler_27 (by decide) ?_
      refine lv_ldc (v := 100000) hx hb hown (ht_at hts 9 rfl) dX12_settler_28 ?_
      have hFc := gA_free hG hA hS
      refine va_calli (va_runS (As := [.int p2, .int 0, .int 100000]) (rest := [.ref o0]) ⟨hx, hb, hml, hown, hts⟩ (s_in l dC dI kA adK adV G H q wZ wN wH wB wC wL wK wU wV PI im PM PT lS lB lE lN p2 0 100000 hT hgz hgn hgh hgb hgc hgi hgu) (va_cwS 3 hts (goodIn_app (goodIn_r _ [3, 4, 5] rfl (by decide +kernel)) (goodIn_ca (goodIn_r _ [2] rfl (by decide +kernel)) (bs_in _ _))) rfl rfl rfl (by decide +kernel) ⟨(Nat.le_of_ble_eq_true rfl), (Nat.le_of_ble_eq_true rfl)⟩) ⟨fun a U g mk q => by obtain ⟨q0, q1, qK, qE⟩ := q; exact ⟨q0, q1, va_K.moved (u := U) (U := U.calling g mk a) (Vm.Alike.refl U.vm) qK, EVS.blind g mk a qE⟩, fun U hU hW => ⟨rfl, hU, va_K.moved hW.alike hK, hE.call hS hFc hU hW⟩⟩ rfl rfl hl.1 rfl (lv_room (Nat.le_of_ble_eq_true rfl)) dX12_settler_30 ⟨(Nat.le_of_ble_eq_true rfl), (Nat.le_of_ble_eq_true rfl)⟩) hS (fun q _ h => hFc q h) hFc (fun r91 u t H locs ht hvm hw92 hB _ _ hS => ?_)
      obtain ⟨hT, hF1⟩ := hB
      rw [ht] at hT hF1
      have m93 := (hF1.fld hr_o0 skm_0 (k := 42) (by decide) (by decide)).trans m56
      have m94 := m57.kept (hF1.arr hg1 skm_32 (by decide))
      have m95 := m58.kept (hF1.arr hg2 skm_33 (by decide))
      have m96 := m59.kept (hF1.arr hg3 skm_34 (by decide))
      have m97 := m60.kept (hF1.arr hg4 skm_35 (by decide))
      have m98 := m61.kept (hF1.arr hg5 skm_36 (by decide))
      have m99 := m62.kept (hF1.arr hg6 skm_37 (by decide))
      have m100 := m63.kept (hF1.arr hg7 skm_39 (by decide))
      have hF := hF.more hF1 (by decide)
      try dsimp only at hw92
      obtain ⟨h102, hi103, hi104⟩ := hw92
      refine lv_if_eq (tgt := 59) hx hb dX12_settler_33 (by decide) (fun c105 => ?_) (fun c105 => ?_)
      · have t106 : r91.toInt = 0 := ti_eq c105 rfl (by decide)
        have t107 : (0 : Int32).toInt = 0 := by decide
        have t108 : (100000 : Int32).toInt = 100000 := by decide
        have t109 : p2.toInt < (0 : Int32).toInt ∨ (100000 : Int32).toInt < p2.toInt := hi104 c105
        refine lv_iconst (v := 1) hx hb dX12_settler_59 (by decide) ?_
        refine lv_goto (tgt := 64) hx hb dX12_settler_60 (by decide) ?_
        refine lv_iconst (v := 1) hx hb dX12_settler_64 (by decide) ?_
        have hFc := gA_free hG hA hS
        refine va_calli (va_runV (As := [.int 1, .int 1]) (rest := []) ⟨hx, hb, hml, hown, hts⟩ (s_throwsIf l dC dI kA adK adV G H q wZ wN wH wB wC wL wK wU wV PI im PM PT lS lB lE lN o0 1 1 hT hr_o0 (rg_t (a := 1) (by decide) (by first | decide | omega) (by first | decide | omega)) hgz hgn hgh hgb hgc hgi hgu) (cwV 2 hts (goodIn_app (goodIn_r _ [7, 8, 9, 5] rfl (by decide +kernel)) (goodIn_ca (goodIn_r _ [6, 1] rfl (by decide +kernel)) (bs_in _ _))) rfl rfl rfl (by decide +kernel) ⟨(Nat.le_of_ble_eq_true rfl), (Nat.le_of_ble_eq_true rfl)⟩) ⟨fun a U g mk q => by obtain ⟨q0, q1, qK, qE⟩ := q; exact ⟨q0, q1, va_K.moved (u := U) (U := U.calling g mk a) (Vm.Alike.refl U.vm) qK, EVS.blind g mk a qE⟩, gH_rc hK hT hr_o0 shm_0 rfl, fun U hU hW => ⟨rfl, hU, va_K.moved hW.alike hK, hE.call hS hFc hU hW⟩⟩ rfl rfl hl.1 rfl (lv_room (Nat.le_of_ble_eq_true rfl)) dX12_settler_65 ⟨(Nat.le_of_ble_eq_true rfl), (Nat.le_of_ble_eq_true rfl)⟩) hS (fun q _ h => hFc q h) hFc (fun r110 u t H locs ht hvm hw111 hB _ _ hS => ?_)
        obtain ⟨hT, hF1⟩ := hB
        rw [ht] at hT hF1
        have m112 := (hF1.fld hr_o0 skm_0 (k := 42) (by decide) (by decide)).trans m93
        have m113 := m94.kept (hF1.arr hg1 skm_32 (by decide))
        have m114 := m95.kept (hF1.arr hg2 skm_33 (by decide))
        have m115 := m96.kept (hF1.arr hg3 skm_34 (by decide))
        have m116 := m97.kept (hF1.arr hg4 skm_35 (by decide))
        have m117 := m98.kept (hF1.arr hg5 skm_36 (by decide))
        have m118 := m99.kept (hF1.arr hg6 skm_37 (by decide))
        have m119 := m100.kept (hF1.arr hg7 skm_39 (by decide))
        have hF := hF.more hF1 (by decide)
        try dsimp only at hw111
        obtain ⟨h121, hd122⟩ := hw111
        obtain rfl : (1 : Int32) = r110 := hd122.symm
        refine lv_if_ne (tgt := 93) hx hb dX12_settler_68 (by decide) (fun c123 => ?_) (fun c123 => absurd c123 (by decide))
        refine lv_iconst (v := 0) hx hb dX12_settler_93 (by decide) ?_
        exact W.iret (v := 0) hx hb hr (fun t ht hW => ⟨⟨0, (sn, vA, vD, vC, vU, vI, vM, vH), rfl, (by exact ⟨(rg_t (a := 0) (by decide) (by first | decide | omega) (by first | decide | omega)), (Or.inr ⟨by omega, by omega, rfl, rfl, rfl, rfl, rfl, rfl, rfl⟩)⟩), by (try dsimp only); rw [ht]; exact ⟨hT, hF, m112, m113, m114, m115, m116, m117, m118, m119⟩⟩, hS.F ht⟩) hS.2.2 dX12_settler_94
      · have t124 : r91.toInt ≠ 0 := ti_ne c105 rfl (by decide)
        have t125 : (0 : Int32).toInt = 0 := by decide
        have t126 : (100000 : Int32).toInt = 100000 := by decide
        have t127 : (0 : Int32).toInt ≤ p2.toInt ∧ p2.toInt ≤ (100000 : Int32).toInt := hi103 ((bit_of ⟨by omega, by omega⟩).resolve_left c105)
        refine lv_iload hx hb dX12_settler_36 (lv_at hl 4 rfl) ?_
        refine lv_iconst (v := 0) hx hb dX12_settler_38 (by decide) ?_
        refine lv_bipush (v := 100) hx hb dX12_settler_39 (by decide) ?_
        have hFc := gA_free hG hA hS
        refine va_calli (va_runS (As := [.int p3, .int 0, .int 100]) (rest := [.ref o0]) ⟨hx, hb, hml, hown, hts⟩ (s_in l dC dI kA adK adV G H q wZ wN wH wB wC wL wK wU wV PI im PM PT lS lB lE lN p3 0 100 hT hgz hgn hgh hgb hgc hgi hgu) (va_cwS 3 hts (goodIn_app (goodIn_r _ [3, 4, 5] rfl (by decide +kernel)) (goodIn_ca (goodIn_r _ [2] rfl (by decide +kernel)) (bs_in _ _))) rfl rfl rfl (by decide +kernel) ⟨(Nat.le_of_ble_eq_true rfl), (Nat.le_of_ble_eq_true rfl)⟩) ⟨fun a U g mk q => by obtain ⟨q0, q1, qK, qE⟩ := q; exact ⟨q0, q1, va_K.moved (u := U) (U := U.calling g mk a) (Vm.Alike.refl U.vm) qK, EVS.blind g mk a qE⟩, fun U hU hW => ⟨rfl, hU, va_K.moved hW.alike hK, hE.call hS hFc hU hW⟩⟩ rfl rfl hl.1 rfl (lv_room (Nat.le_of_ble_eq_true rfl)) dX12_settler_41 ⟨(Nat.le_of_ble_eq_true rfl), (Nat.le_of_ble_eq_true rfl)⟩) hS (fun q _ h => hFc q h) hFc (fun r128 u t H locs ht hvm hw129 hB _ _ hS => ?_)
        obtain ⟨hT, hF1⟩ := hB
        rw [ht] at hT hF1
        have m130 := (hF1.fld hr_o0 skm_0 (k := 42) (by decide) (by decide)).trans m93
        have m131 := m94.kept (hF1.arr hg1 skm_32 (by decide))
        have m132 := m95.kept (hF1.arr hg2 skm_33 (by decide))
        have m133 := m96.kept (hF1.arr hg3 skm_34 (by decide))
        have m134 := m97.kept (hF1.arr hg4 skm_35 (by decide))
        have m135 := m98.kept (hF1.arr hg5 skm_36 (by decide))
        have m136 := m99.kept (hF1.arr hg6 skm_37 (by decide))
        have m137 := m100.kept (hF1.arr hg7 skm_39 (by decide))
        have hF := hF.more hF1 (by decide)
        try dsimp only at hw129
        obtain ⟨h139, hi140, hi141⟩ := hw129
        refine lv_if_eq (tgt := 59) hx hb dX12_settler_44 (by decide) (fun c142 => ?_) (fun c142 => ?_)
        · have t143 : r128.toInt = 0 := ti_eq c142 rfl (by decide)
          have t144 : (0 : Int32).toInt = 0 := by decide
          have t145 : (100 : Int32).toInt = 100 := by decide
          have t146 : p3.toInt < (0 : Int32).toInt ∨ (100 : Int32).toInt < p3.toInt := hi141 c142
          refine lv_iconst (v := 1) hx hb dX12_settler_59 (by decide) ?_
          refine lv_goto (tgt := 64) hx hb dX12_settler_60 (by decide) ?_
          refine lv_iconst (v := 1) hx hb dX12_settler_64 (by decide) ?_
          have hFc := gA_free hG hA hS
          refine va_calli (va_runV (As := [.int 1, .int 1]) (rest := []) ⟨hx, hb, hml, hown, hts⟩ (s_throwsIf l dC dI kA adK adV G H q wZ wN wH wB wC wL wK wU wV PI im PM PT lS lB lE lN o0 1 1 hT hr_o0 (rg_t (a := 1) (by decide) (by first | decide | omega) (by first | decide | omega)) hgz hgn hgh hgb hgc hgi hgu) (cwV 2 hts (goodIn_app (goodIn_r _ [7, 8, 9, 5] rfl (by decide +kernel)) (goodIn_ca (goodIn_r _ [6, 1] rfl (by decide +kernel)) (bs_in _ _))) rfl rfl rfl (by decide +kernel) ⟨(Nat.le_of_ble_eq_true rfl), (Nat.le_of_ble_eq_true rfl)⟩) ⟨fun a U g mk q => by obtain ⟨q0, q1, qK, qE⟩ := q; exact ⟨q0, q1, va_K.moved (u := U) (U := U.calling g mk a) (Vm.Alike.refl U.vm) qK, EVS.blind g mk a qE⟩, gH_rc hK hT hr_o0 shm_0 rfl, fun U hU hW => ⟨rfl, hU, va_K.moved hW.alike hK, hE.call hS hFc hU hW⟩⟩ rfl rfl hl.1 rfl (lv_room (Nat.le_of_ble_eq_true rfl)) dX12_settler_65 ⟨(Nat.le_of_ble_eq_true rfl), (Nat.le_of_ble_eq_true rfl)⟩) hS (fun q _ h => hFc q h) hFc (fun r147 u t H locs ht hvm hw148 hB _ _ hS => ?_)
          obtain ⟨hT, hF1⟩ := hB
          rw [ht] at hT hF1
          have m149 := (hF1.fld hr_o0 skm_0 (k := 42) (by decide) (by decide)).trans m130
          have m150 := m131.kept (hF1.arr hg1 skm_32 (by decide))
          have m151 := m132.kept (hF1.arr hg2 skm_33 (by decide))
          have m152 := m133.kept (hF1.arr hg3 skm_34 (by decide))
          have m153 := m134.kept (hF1.arr hg4 skm_35 (by decide))
          have m154 := m135.kept (hF1.arr hg5 skm_36 (by decide))
          have m155 := m136.kept (hF1.arr hg6 skm_37 (by decide))
          have m156 := m137.kept (hF1.arr hg7 skm_39 (by decide))
          have hF := hF.more hF1 (by decide)
          try dsimp only at hw148
          obtain ⟨h158, hd159⟩ := hw148
          obtain rfl : (1 : Int32) = r147 := hd159.symm
          refine lv_if_ne (tgt := 93) hx hb dX12_settler_68 (by decide) (fun c160 => ?_) (fun c160 => absurd c160 (by decide))
          refine lv_iconst (v := 0) hx hb dX12_settler_93 (by decide) ?_
          exact W.iret (v := 0) hx hb hr (fun t ht hW => ⟨⟨0, (sn, vA, vD, vC, vU, vI, vM, vH), rfl, (by exact ⟨(rg_t (a := 0) (by decide) (by first | decide | omega) (by first | decide | omega)), (Or.inr ⟨by omega, by omega, rfl, rfl, rfl, rfl, rfl, rfl, rfl⟩)⟩), by (try dsimp only); rw [ht]; exact ⟨hT, hF, m149, m150, m151, m152, m153, m154, m155, m156⟩⟩, hS.F ht⟩) hS.2.2 dX12_settler_94
        · have t161 : r128.toInt ≠ 0 := ti_ne c142 rfl (by decide)
          have t162 : (0 : Int32).toInt = 0 := by decide
          have t163 : (100 : Int32).toInt = 100 := by decide
          have t164 : (0 : Int32).toInt ≤ p3.toInt ∧ p3.toInt ≤ (100 : Int32).toInt := hi140 ((bit_of ⟨by omega, by omega⟩).resolve_left c142)
          refine lv_iload hx hb dX12_settler_47 (lv_at hl 7 rfl) ?_
          refine lv_iconst (v := 0) hx hb dX12_settler_49 (by decide) ?_
          refine lv_ldcw (v := 999999) hx hb hown (ht_at hts 10 rfl) dX12_settler_50 ?_
          have hFc := gA_free hG hA hS
          refine va_calli (va_runS (As := [.int p6, .int 0, .int 999999]) (rest := [.ref o0]) ⟨hx, hb, hml, hown, hts⟩ (s_in l dC dI kA adK adV G H q wZ wN wH wB wC wL wK wU wV PI im PM PT lS lB lE lN p6 0 999999 hT hgz hgn hgh hgb hgc hgi hgu) (va_cwS 3 hts (goodIn_app (goodIn_r _ [3, 4, 5] rfl (by decide +kernel)) (goodIn_ca (goodIn_r _ [2] rfl (by decide +kernel)) (bs_in _ _))) rfl rfl rfl (by decide +kernel) ⟨(Nat.le_of_ble_eq_true rfl), (Nat.le_of_ble_eq_true rfl)⟩) ⟨fun a U g mk q => by obtain ⟨q0, q1, qK, qE⟩ := q; exact ⟨q0, q1, va_K.moved (u := U) (U := U.calling g mk a) (Vm.Alike.refl U.vm) qK, EVS.blind g mk a qE⟩, fun U hU hW => ⟨rfl, hU, va_K.moved hW.alike hK, hE.call hS hFc hU hW⟩⟩ rfl rfl hl.1 rfl (lv_room (Nat.le_of_ble_eq_true rfl)) dX12_settler_53 ⟨(Nat.le_of_ble_eq_true rfl), (Nat.le_of_ble_eq_true rfl)⟩) hS (fun q _ h => hFc q h) hFc (fun r165 u t H locs ht hvm hw166 hB _ _ hS => ?_)
          obtain ⟨hT, hF1⟩ := hB
          rw [ht] at hT hF1
          have m167 := (hF1.fld hr_o0 skm_0 (k := 42) (by decide) (by decide)).trans m130
          have m168 := m131.kept (hF1.arr hg1 skm_32 (by decide))
          have m169 := m132.kept (hF1.arr hg2 skm_33 (by decide))
          have m170 := m133.kept (hF1.arr hg3 skm_34 (by decide))
          have m171 := m134.kept (hF1.arr hg4 skm_35 (by decide))
          have m172 := m135.kept (hF1.arr hg5 skm_36 (by decide))
          have m173 := m136.kept (hF1.arr hg6 skm_37 (by decide))
          have m174 := m137.kept (hF1.arr hg7 skm_39 (by decide))
          have hF := hF.more hF1 (by decide)
          try dsimp only at hw166
          obtain ⟨h176, hi177, hi178⟩ := hw166
          refine lv_if_ne (tgt := 63) hx hb dX12_settler_56 (by decide) (fun c179 => ?_) (fun c179 => ?_)
          · have t180 : r165.toInt ≠ 0 := ti_ne c179 rfl (by decide)
            have t181 : (0 : Int32).toInt = 0 := by decide
            have t182 : (999999 : Int32).toInt = 999999 := by decide
            have t183 : (0 : Int32).toInt ≤ p6.toInt ∧ p6.toInt ≤ (999999 : Int32).toInt := hi177 ((bit_of ⟨by omega, by omega⟩).resolve_left c179)
            refine lv_iconst (v := 0) hx hb dX12_settler_63 (by decide) ?_
            refine lv_iconst (v := 1) hx hb dX12_settler_64 (by decide) ?_
            have hFc := gA_free hG hA hS
            refine va_calli (va_runV (As := [.int 0, .int 1]) (rest := []) ⟨hx, hb, hml, hown, hts⟩ (s_throwsIf l dC dI kA adK adV G H q wZ wN wH wB wC wL wK wU wV PI im PM PT lS lB lE lN o0 0 1 hT hr_o0 (rg_t (a := 0) (by decide) (by first | decide | omega) (by first | decide | omega)) hgz hgn hgh hgb hgc hgi hgu) (cwV 2 hts (goodIn_app (goodIn_r _ [7, 8, 9, 5] rfl (by decide +kernel)) (goodIn_ca (goodIn_r _ [6, 1] rfl (by decide +kernel)) (bs_in _ _))) rfl rfl rfl (by decide +kernel) ⟨(Nat.le_of_ble_eq_true rfl), (Nat.le_of_ble_eq_true rfl)⟩) ⟨fun a U g mk q => by obtain ⟨q0, q1, qK, qE⟩ := q; exact ⟨q0, q1, va_K.moved (u := U) (U := U.calling g mk a) (Vm.Alike.refl U.vm) qK, EVS.blind g mk a qE⟩, gH_rc hK hT hr_o0 shm_0 rfl, fun U hU hW => ⟨rfl, hU, va_K.moved hW.alike hK, hE.call hS hFc hU hW⟩⟩ rfl rfl hl.1 rfl (lv_room (Nat.le_of_ble_eq_true rfl)) dX12_settler_65 ⟨(Nat.le_of_ble_eq_true rfl), (Nat.le_of_ble_eq_true rfl)⟩) hS (fun q _ h => hFc q h) hFc (fun r184 u t H locs ht hvm hw185 hB _ _ hS => ?_)
            obtain ⟨hT, hF1⟩ := hB
            rw [ht] at hT hF1
            have m186 := (hF1.fld hr_o0 skm_0 (k := 42) (by decide) (by decide)).trans m167
            have m187 := m168.kept (hF1.arr hg1 skm_32 (by decide))
            have m188 := m169.kept (hF1.arr hg2 skm_33 (by decide))
            have m189 := m170.kept (hF1.arr hg3 skm_34 (by decide))
            have m190 := m171.kept (hF1.arr hg4 skm_35 (by decide))
            have m191 := m172.kept (hF1.arr hg5 skm_36 (by decide))
            have m192 := m173.kept (hF1.arr hg6 skm_37 (by decide))
            have m193 := m174.kept (hF1.arr hg7 skm_39 (by decide))
            have hF := hF.more hF1 (by decide)
            try dsimp only at hw185
            obtain ⟨h195, hd196⟩ := hw185
            obtain rfl : (0 : Int32) = r184 := hd196.symm
            refine lv_if_ne (tgt := 93) hx hb dX12_settler_68 (by decide) (fun c197 => absurd c197 (by decide)) (fun c197 => ?_)
            refine lv_aload_n hx hb dX12_settler_71 rfl (lv_at hl 0 rfl) ?_
            refine lv_aload_n hx hb dX12_settler_72 rfl (lv_at hl 0 rfl) ?_
            refine tw_getM (v := .int sn) hx hb hts bF_X12 hown hK hT hr_o0 shm_0 rfl 42 (by decide) (ht_at hts 11 rfl) (fun _ h9 => h9) m186 dX12_settler_73 ?_
            refine lv_bipush (v := 60) hx hb dX12_settler_76 (by decide) ?_
            refine lv_icmp_ne (tgt := 85) hx hb dX12_settler_78 (by decide) (fun c198 => ?_) (fun c198 => ?_)
            · have t199 : sn.toInt ≠ 60 := ti_ne c198 rfl (by decide)
              refine lv_iconst (v := 0) hx hb dX12_settler_85 (by decide) ?_
              refine lv_iconst (v := 2) hx hb dX12_settler_86 (by decide) ?_
              have hFc := gA_free hG hA hS
              refine va_calli (va_runV (As := [.int 0, .int 2]) (rest := []) ⟨hx, hb, hml, hown, hts⟩ (s_throwsIf l dC dI kA adK adV G H q wZ wN wH wB wC wL wK wU wV PI im PM PT lS lB lE lN o0 0 2 hT hr_o0 (rg_t (a := 0) (by decide) (by first | decide | omega) (by first | decide | omega)) hgz hgn hgh hgb hgc hgi hgu) (cwV 2 hts (goodIn_app (goodIn_r _ [7, 8, 9, 5] rfl (by decide +kernel)) (goodIn_ca (goodIn_r _ [6, 1] rfl (by decide +kernel)) (bs_in _ _))) rfl rfl rfl (by decide +kernel) ⟨(Nat.le_of_ble_eq_true rfl), (Nat.le_of_ble_eq_true rfl)⟩) ⟨fun a U g mk q => by obtain ⟨q0, q1, qK, qE⟩ := q; exact ⟨q0, q1, va_K.moved (u := U) (U := U.calling g mk a) (Vm.Alike.refl U.vm) qK, EVS.blind g mk a qE⟩, gH_rc hK hT hr_o0 shm_0 rfl, fun U hU hW => ⟨rfl, hU, va_K.moved hW.alike hK, hE.call hS hFc hU hW⟩⟩ rfl rfl hl.1 rfl (lv_room (Nat.le_of_ble_eq_true rfl)) dX12_settler_87 ⟨(Nat.le_of_ble_eq_true rfl), (Nat.le_of_ble_eq_true rfl)⟩) hS (fun q _ h => hFc q h) hFc (fun r200 u t H locs ht hvm hw201 hB _ _ hS => ?_)
              obtain ⟨hT, hF1⟩ := hB
              rw [ht] at hT hF1
              have m202 := (hF1.fld hr_o0 skm_0 (k := 42) (by decide) (by decide)).trans m186
              have m203 := m187.kept (hF1.arr hg1 skm_32 (by decide))
              have m204 := m188.kept (hF1.arr hg2 skm_33 (by decide))
              have m205 := m189.kept (hF1.arr hg3 skm_34 (by decide))
              have m206 := m190.kept (hF1.arr hg4 skm_35 (by decide))
              have m207 := m191.kept (hF1.arr hg5 skm_36 (by decide))
              have m208 := m192.kept (hF1.arr hg6 skm_37 (by decide))
              have m209 := m193.kept (hF1.arr hg7 skm_39 (by decide))
              have hF := hF.more hF1 (by decide)
              try dsimp only at hw201
              obtain ⟨h210, hd211⟩ := hw201
              obtain rfl : (0 : Int32) = r200 := hd211.symm
              refine lv_if_eq (tgt := 95) hx hb dX12_settler_90 (by decide) (fun c212 => ?_) (fun c212 => absurd c212 (by decide))
              refine lv_aload_n hx hb dX12_settler_95 rfl (lv_at hl 0 rfl) ?_
              refine tw_getM (v := .int sn) hx hb hts bF_X12 hown hK hT hr_o0 shm_0 rfl 42 (by decide) (ht_at hts 11 rfl) (fun _ h9 => h9) m202 dX12_settler_96 ?_
              refine lv_istore (lv' := [(8, .int sn), (0, .ref o0), (1, .int p0), (2, .int p1), (3, .int p2), (4, .int p3), (5, .int p4), (6, .int p5), (7, .int p6)]) hx hb dX12_settler_99 hl (by decide) rfl (fun ls hl => ?_)
              refine lv_aload_n hx hb dX12_settler_101 rfl (lv_at hl 1 rfl) ?_
              refine lv_dup hx hb dX12_settler_102 rfl ?_
              refine tw_getM (v := .int sn) hx hb hts bF_X12 hown hK hT hr_o0 shm_0 rfl 42 (by decide) (ht_at hts 11 rfl) (fun _ h9 => h9) m202 dX12_settler_103 ?_
              refine lv_iconst (v := 1) hx hb dX12_settler_106 (by decide) ?_
              refine lv_iadd hx hb dX12_settler_107 ?_
              refine lv_topi (fun x213 ex213 => ?_)
              have t214 : x213.toInt = sn.toInt + 1 := ti_add ex213 rfl (by decide) (by omega) (by omega)
              refine tw_put (v := .int x213) (ty := .int) hx hb hts bF_X12 tyX12 tyX12_ok nmX12 hown hK hT hG hS hr_o0 shm_0 rfl 42 (by decide) (ht_at hts 11 rfl) (fun _ h9 => h9) rfl (by decide +kernel) rfl rfl (gl_at rfl (gi_of (show x213.toInt = x213.toInt from rfl) (by omega) (by omega))) dX12_settler_108 (fun H locs hT oq m215 oj hS => ?_)
              have hF := hF.put hr_o0 skm_0 oq oj (by decide)
              have m216 := m203.kept (oq _ (gne hg1 hr_o0 (by decide)))
              have m217 := m204.kept (oq _ (gne hg2 hr_o0 (by decide)))
              have m218 := m205.kept (oq _ (gne hg3 hr_o0 (by decide)))
              have m219 := m206.kept (oq _ (gne hg4 hr_o0 (by decide)))
              have m220 := m207.kept (oq _ (gne hg5 hr_o0 (by decide)))
              have m221 := m208.kept (oq _ (gne hg6 hr_o0 (by decide)))
              have m222 := m209.kept (oq _ (gne hg7 hr_o0 (by decide)))
              refine lv_aload_n hx hb dX12_settler_111 rfl (lv_at hl 1 rfl) ?_
              refine tw_get hx hb hts bF_X12 hown hK hT hr_o0 shm_0 rfl 31 (by decide) (ht_at hts 12 rfl) (fun _ h9 => h9) dX12_settler_112 (fun v9 m223 h9 => ?_)
              obtain ⟨rfl, hg224⟩ := h9 _ rfl
              refine lv_iload hx hb dX12_settler_115 (lv_at hl 0 rfl) ?_
              refine lv_iload_n hx hb dX12_settler_117 rfl (lv_at hl 2 rfl) ?_
              refine tw_iast (i := sn) (x := p0) hx hb hK hT hG hS hg1 shm_32 rfl (vin_t (a := sn.toInt) rfl (by omega) (by omega)) (gi_all _) dX12_settler_118 (fun H locs hT oq m225 oi hS => ?_)
              have hF := hF.ast hg1 skm_32 oq (by decide)
              have m226 := m216.put m225 oi
              have m227 := m217.kept (oq _ (gne hg2 hg1 (by decide)))
              have m228 := m218.kept (oq _ (gne hg3 hg1 (by decide)))
              have m229 := m219.kept (oq _ (gne hg4 hg1 (by decide)))
              have m230 := m220.kept (oq _ (gne hg5 hg1 (by decide)))
              have m231 := m221.kept (oq _ (gne hg6 hg1 (by decide)))
              have m232 := m222.kept (oq _ (gne hg7 hg1 (by decide)))
              have m233 := (el_kept (oq _ (gne hr_o0 hg1 (by decide)))).trans m215
              refine lv_aload_n hx hb dX12_settler_119 rfl (lv_at hl 1 rfl) ?_
              refine tw_get hx hb hts bF_X12 hown hK hT hr_o0 shm_0 rfl 32 (by decide) (ht_at hts 13 rfl) (fun _ h9 => h9) dX12_settler_120 (fun v9 m234 h9 => ?_)
              obtain ⟨rfl, hg235⟩ := h9 _ rfl
              refine lv_iload hx hb dX12_settler_123 (lv_at hl 0 rfl) ?_
              refine lv_iload_n hx hb dX12_settler_125 rfl (lv_at hl 3 rfl) ?_
              refine tw_iast (i := sn) (x := p1) hx hb hK hT hG hS hg2 shm_33 rfl (vin_t (a := sn.toInt) rfl (by omega) (by omega)) (gi_all _) dX12_settler_126 (fun H locs hT oq m236 oi hS => ?_)
              have hF := hF.ast hg2 skm_33 oq (by decide)
              have m237 := m226.kept (oq _ (gne hg1 hg2 (by decide)))
              have m238 := m227.put m236 oi
              have m239 := m228.kept (oq _ (gne hg3 hg2 (by decide)))
              have m240 := m229.kept (oq _ (gne hg4 hg2 (by decide)))
              have m241 := m230.kept (oq _ (gne hg5 hg2 (by decide)))
              have m242 := m231.kept (oq _ (gne hg6 hg2 (by decide)))
              have m243 := m232.kept (oq _ (gne hg7 hg2 (by decide)))
              have m244 := (el_kept (oq _ (gne hr_o0 hg2 (by decide)))).trans m233
              refine lv_aload_n hx hb dX12_settler_127 rfl (lv_at hl 1 rfl) ?_
              refine tw_get hx hb hts bF_X12 hown hK hT hr_o0 shm_0 rfl 33 (by decide) (ht_at hts 14 rfl) (fun _ h9 => h9) dX12_settler_128 (fun v9 m246 h9 => ?_)
              obtain ⟨rfl, hg247⟩ := h9 _ rfl
              refine lv_iload hx hb dX12_settler_131 (lv_at hl 0 rfl) ?_
              refine lv_iload_n hx hb dX12_settler_133 rfl (lv_at hl 4 rfl) ?_
              refine tw_iast (i := sn) (x := p2) hx hb hK hT hG hS hg3 shm_34 rfl (vin_t (a := sn.toInt) rfl (by omega) (by omega)) (gi_all _) dX12_settler_134 (fun H locs hT oq m248 oi hS => ?_)
              have hF := hF.ast hg3 skm_34 oq (by decide)
              have m249 := m237.kept (oq _ (gne hg1 hg3 (by decide)))
              have m250 := m238.kept (oq _ (gne hg2 hg3 (by decide)))
              have m251 := m239.put m248 oi
              have m252 := m240.kept (oq _ (gne hg4 hg3 (by decide)))
              have m253 := m241.kept (oq _ (gne hg5 hg3 (by decide)))
              have m254 := m242.kept (oq _ (gne hg6 hg3 (by decide)))
              have m255 := m243.kept (oq _ (gne hg7 hg3 (by decide)))
              have m256 := (el_kept (oq _ (gne hr_o0 hg3 (by decide)))).trans m244
              refine lv_aload_n hx hb dX12_settler_135 rfl (lv_at hl 1 rfl) ?_
              refine tw_get hx hb hts bF_X12 hown hK hT hr_o0 shm_0 rfl 34 (by decide) (ht_at hts 15 rfl) (fun _ h9 => h9) dX12_settler_136 (fun v9 m259 h9 => ?_)
              obtain ⟨rfl, hg260⟩ := h9 _ rfl
              refine lv_iload hx hb dX12_settler_139 (lv_at hl 0 rfl) ?_
              refine lv_iload hx hb dX12_settler_141 (lv_at hl 5 rfl) ?_
              refine tw_iast (i := sn) (x := p3) hx hb hK hT hG hS hg4 shm_35 rfl (vin_t (a := sn.toInt) rfl (by omega) (by omega)) (gi_all _) dX12_settler_143 (fun H locs hT oq m261 oi hS => ?_)
              have hF := hF.ast hg4 skm_35 oq (by decide)
              have m262 := m249.kept (oq _ (gne hg1 hg4 (by decide)))
              have m263 := m250.kept (oq _ (gne hg2 hg4 (by decide)))
              have m264 := m251.kept (oq _ (gne hg3 hg4 (by decide)))
              have m265 := m252.put m261 oi
              have m266 := m253.kept (oq _ (gne hg5 hg4 (by decide)))
              have m267 := m254.kept (oq _ (gne hg6 hg4 (by decide)))
              have m268 := m255.kept (oq _ (gne hg7 hg4 (by decide)))
              have m269 := (el_kept (oq _ (gne hr_o0 hg4 (by decide)))).trans m256
              refine lv_aload_n hx hb dX12_settler_144 rfl (lv_at hl 1 rfl) ?_
              refine tw_get hx hb hts bF_X12 hown hK hT hr_o0 shm_0 rfl 35 (by decide) (ht_at hts 16 rfl) (fun _ h9 => h9) dX12_settler_145 (fun v9 m273 h9 => ?_)
              obtain ⟨rfl, hg274⟩ := h9 _ rfl
              refine lv_iload hx hb dX12_settler_148 (lv_at hl 0 rfl) ?_
              refine lv_iload hx hb dX12_settler_150 (lv_at hl 6 rfl) ?_
              refine tw_zast (i := sn) (x := p4) hx hb hK hT hG hS hg5 shm_36 rfl (vin_t (a := sn.toInt) rfl (by omega) (by omega)) (gi_z (by have q8 := ti_all p4; omega) (by decide) (by decide)) dX12_settler_152 (fun H locs hT oq m275 oi hS => ?_)
              have hF := hF.ast hg5 skm_36 oq (by decide)
              have m276 := m262.kept (oq _ (gne hg1 hg5 (by decide)))
              have m277 := m263.kept (oq _ (gne hg2 hg5 (by decide)))
              have m278 := m264.kept (oq _ (gne hg3 hg5 (by decide)))
              have m279 := m265.kept (oq _ (gne hg4 hg5 (by decide)))
              have m280 := m266.put (by rw [nar_b (by have q8 := ti_all p4; omega)] at m275; exact m275) oi
              have m281 := m267.kept (oq _ (gne hg6 hg5 (by decide)))
              have m282 := m268.kept (oq _ (gne hg7 hg5 (by decide)))
              have m283 := (el_kept (oq _ (gne hr_o0 hg5 (by decide)))).trans m269
              refine lv_aload_n hx hb dX12_settler_153 rfl (lv_at hl 1 rfl) ?_
              refine tw_get hx hb hts bF_X12 hown hK hT hr_o0 shm_0 rfl 36 (by decide) (ht_at hts 17 rfl) (fun _ h9 => h9) dX12_settler_154 (fun v9 m288 h9 => ?_)
              obtain ⟨rfl, hg289⟩ := h9 _ rfl
              refine lv_iload hx hb dX12_settler_157 (lv_at hl 0 rfl) ?_
              refine lv_iload hx hb dX12_settler_159 (lv_at hl 7 rfl) ?_
              refine tw_zast (i := sn) (x := p5) hx hb hK hT hG hS hg6 shm_37 rfl (vin_t (a := sn.toInt) rfl (by omega) (by omega)) (gi_z (by have q8 := ti_all p5; omega) (by decide) (by decide)) dX12_settler_161 (fun H locs hT oq m290 oi hS => ?_)
              have hF := hF.ast hg6 skm_37 oq (by decide)
              have m291 := m276.kept (oq _ (gne hg1 hg6 (by decide)))
              have m292 := m277.kept (oq _ (gne hg2 hg6 (by decide)))
              have m293 := m278.kept (oq _ (gne hg3 hg6 (by decide)))
              have m294 := m279.kept (oq _ (gne hg4 hg6 (by decide)))
              have m295 := m280.kept (oq _ (gne hg5 hg6 (by decide)))
              have m296 := m281.put (by rw [nar_b (by have q8 := ti_all p5; omega)] at m290; exact m290) oi
              have m297 := m282.kept (oq _ (gne hg7 hg6 (by decide)))
              have m298 := (el_kept (oq _ (gne hr_o0 hg6 (by decide)))).trans m283
              refine lv_aload_n hx hb dX12_settler_162 rfl (lv_at hl 1 rfl) ?_
              refine tw_get hx hb hts bF_X12 hown hK hT hr_o0 shm_0 rfl 37 (by decide) (ht_at hts 18 rfl) (fun _ h9 => h9) dX12_settler_163 (fun v9 m303 h9 => ?_)
              obtain ⟨rfl, hg304⟩ := h9 _ rfl
              refine lv_iload hx hb dX12_settler_166 (lv_at hl 0 rfl) ?_
              refine lv_iload hx hb dX12_settler_168 (lv_at hl 8 rfl) ?_
              refine tw_iast (i := sn) (x := p6) hx hb hK hT hG hS hg304 shm_38 rfl (vin_t (a := sn.toInt) rfl (by omega) (by omega)) (gi_all _) dX12_settler_170 (fun H locs hT oq m305 oi hS => ?_)
              have hF := hF.ast hg304 skm_38 oq (by decide)
              have m306 := m291.kept (oq _ (gne hg1 hg304 (by decide)))
              have m307 := m292.kept (oq _ (gne hg2 hg304 (by decide)))
              have m308 := m293.kept (oq _ (gne hg3 hg304 (by decide)))
              have m309 := m294.kept (oq _ (gne hg4 hg304 (by decide)))
              have m310 := m295.kept (oq _ (gne hg5 hg304 (by decide)))
              have m311 := m296.kept (oq _ (gne hg6 hg304 (by decide)))
              have m312 := m297.kept (oq _ (gne hg7 hg304 (by decide)))
              have m313 := (el_kept (oq _ (gne hr_o0 hg304 (by decide)))).trans m298
              refine lv_aload_n hx hb dX12_settler_171 rfl (lv_at hl 1 rfl) ?_
              refine tw_get hx hb hts bF_X12 hown hK hT hr_o0 shm_0 rfl 38 (by decide) (ht_at hts 19 rfl) (fun _ h9 => h9) dX12_settler_172 (fun v9 m318 h9 => ?_)
              obtain ⟨rfl, hg319⟩ := h9 _ rfl
              refine lv_iload hx hb dX12_settler_175 (lv_at hl 0 rfl) ?_
              refine lv_iconst (v := (-1)) hx hb dX12_settler_177 (by decide) ?_
              refine tw_iast (i := sn) (x := (-1)) hx hb hK hT hG hS hg7 shm_39 rfl (vin_t (a := sn.toInt) rfl (by omega) (by omega)) (gi_of (show (-1 : Int32).toInt = (-1) from (by decide)) (by first | decide | omega) (by first | decide | omega)) dX12_settler_178 (fun H locs hT oq m320 oi hS => ?_)
              have hF := hF.ast hg7 skm_39 oq (by decide)
              have m321 := m306.kept (oq _ (gne hg1 hg7 (by decide)))
              have m322 := m307.kept (oq _ (gne hg2 hg7 (by decide)))
              have m323 := m308.kept (oq _ (gne hg3 hg7 (by decide)))
              have m324 := m309.kept (oq _ (gne hg4 hg7 (by decide)))
              have m325 := m310.kept (oq _ (gne hg5 hg7 (by decide)))
              have m326 := m311.kept (oq _ (gne hg6 hg7 (by decide)))
              have m327 := m312.put m320 oi
              have m328 := (el_kept (oq _ (gne hr_o0 hg7 (by decide)))).trans m313
              refine lv_iload hx hb dX12_settler_179 (lv_at hl 0 rfl) ?_
              exact W.iret (v := sn) hx hb hr (fun t ht hW => ⟨⟨sn, (x213, (cu vA sn.toNatClampNeg p0), (cu vD sn.toNatClampNeg p1), (cu vC sn.toNatClampNeg p2), (cu vU sn.toNatClampNeg p3), (cu vI sn.toNatClampNeg p4), (cu vM sn.toNatClampNeg p5), (cu vH sn.toNatClampNeg (-1 : Int32))), rfl, (by exact ⟨(by have q8 := ti_all sn; omega), (Or.inl ⟨by omega, by have := (show x213.toInt = x213.toInt from rfl); omega, rfl, rfl, rfl, rfl, rfl, rfl, rfl⟩)⟩), by (try dsimp only); rw [ht]; exact ⟨hT, hF, m328, m321, m322, m323, m324, m325, m326, m327⟩⟩, hS.F ht⟩) hS.2.2 dX12_settler_181
            · have t334 : sn.toInt = 60 := ti_eq c198 rfl (by decide)
              refine lv_iconst (v := 1) hx hb dX12_settler_81 (by decide) ?_
              refine lv_goto (tgt := 86) hx hb dX12_settler_82 (by decide) ?_
              refine lv_iconst (v := 2) hx hb dX12_settler_86 (by decide) ?_
              have hFc := gA_free hG hA hS
              refine va_calli (va_runV (As := [.int 1, .int 2]) (rest := []) ⟨hx, hb, hml, hown, hts⟩ (s_throwsIf l dC dI kA adK adV G H q wZ wN wH wB wC wL wK wU wV PI im PM PT lS lB lE lN o0 1 2 hT hr_o0 (rg_t (a := 1) (by decide) (by first | decide | omega) (by first | decide | omega)) hgz hgn hgh hgb hgc hgi hgu) (cwV 2 hts (goodIn_app (goodIn_r _ [7, 8, 9, 5] rfl (by decide +kernel)) (goodIn_ca (goodIn_r _ [6, 1] rfl (by decide +kernel)) (bs_in _ _))) rfl rfl rfl (by decide +kernel) ⟨(Nat.le_of_ble_eq_true rfl), (Nat.le_of_ble_eq_true rfl)⟩) ⟨fun a U g mk q => by obtain ⟨q0, q1, qK, qE⟩ := q; exact ⟨q0, q1, va_K.moved (u := U) (U := U.calling g mk a) (Vm.Alike.refl U.vm) qK, EVS.blind g mk a qE⟩, gH_rc hK hT hr_o0 shm_0 rfl, fun U hU hW => ⟨rfl, hU, va_K.moved hW.alike hK, hE.call hS hFc hU hW⟩⟩ rfl rfl hl.1 rfl (lv_room (Nat.le_of_ble_eq_true rfl)) dX12_settler_87 ⟨(Nat.le_of_ble_eq_true rfl), (Nat.le_of_ble_eq_true rfl)⟩) hS (fun q _ h => hFc q h) hFc (fun r335 u t H locs ht hvm hw336 hB _ _ hS => ?_)
              obtain ⟨hT, hF1⟩ := hB
              rw [ht] at hT hF1
              have m337 := (hF1.fld hr_o0 skm_0 (k := 42) (by decide) (by decide)).trans m186
              have m338 := m187.kept (hF1.arr hg1 skm_32 (by decide))
              have m339 := m188.kept (hF1.arr hg2 skm_33 (by decide))
              have m340 := m189.kept (hF1.arr hg3 skm_34 (by decide))
              have m341 := m190.kept (hF1.arr hg4 skm_35 (by decide))
              have m342 := m191.kept (hF1.arr hg5 skm_36 (by decide))
              have m343 := m192.kept (hF1.arr hg6 skm_37 (by decide))
              have m344 := m193.kept (hF1.arr hg7 skm_39 (by decide))
              have hF := hF.more hF1 (by decide)
              try dsimp only at hw336
              obtain ⟨h345, hd346⟩ := hw336
              obtain rfl : (1 : Int32) = r335 := hd346.symm
              refine lv_if_eq (tgt := 95) hx hb dX12_settler_90 (by decide) (fun c347 => absurd c347 (by decide)) (fun c347 => ?_)
              refine lv_iconst (v := 0) hx hb dX12_settler_93 (by decide) ?_
              exact W.iret (v := 0) hx hb hr (fun t ht hW => ⟨⟨0, (sn, vA, vD, vC, vU, vI, vM, vH), rfl, (by exact ⟨(rg_t (a := 0) (by decide) (by first | decide | omega) (by first | decide | omega)), (Or.inr ⟨by omega, by omega, rfl, rfl, rfl, rfl, rfl, rfl, rfl⟩)⟩), by (try dsimp only); rw [ht]; exact ⟨hT, hF, m337, m338, m339, m340, m341, m342, m343, m344⟩⟩, hS.F ht⟩) hS.2.2 dX12_settler_94
          · have t348 : r165.toInt = 0 := ti_eq c179 rfl (by decide)
            have t349 : (0 : Int32).toInt = 0 := by decide
            have t350 : (999999 : Int32).toInt = 999999 := by decide
            have t351 : p6.toInt < (0 : Int32).toInt ∨ (999999 : Int32).toInt < p6.toInt := hi178 c179
            refine lv_iconst (v := 1) hx hb dX12_settler_59 (by decide) ?_
            refine lv_goto (tgt := 64) hx hb dX12_settler_60 (by decide) ?_
            refine lv_iconst (v := 1) hx hb dX12_settler_64 (by decide) ?_
            have hFc := gA_free hG hA hS
            refine va_calli (va_runV (As := [.int 1, .int 1]) (rest := []) ⟨hx, hb, hml, hown, hts⟩ (s_throwsIf l dC dI kA adK adV G H q wZ wN wH wB wC wL wK wU wV PI im PM PT lS lB lE lN o0 1 1 hT hr_o0 (rg_t (a := 1) (by decide) (by first | decide | omega) (by first | decide | omega)) hgz hgn hgh hgb hgc hgi hgu) (cwV 2 hts (goodIn_app (goodIn_r _ [7, 8, 9, 5] rfl (by decide +kernel)) (goodIn_ca (goodIn_r _ [6, 1] rfl (by decide +kernel)) (bs_in _ _))) rfl rfl rfl (by decide +kernel) ⟨(Nat.le_of_ble_eq_true rfl), (Nat.le_of_ble_eq_true rfl)⟩) ⟨fun a U g mk q => by obtain ⟨q0, q1, qK, qE⟩ := q; exact ⟨q0, q1, va_K.moved (u := U) (U := U.calling g mk a) (Vm.Alike.refl U.vm) qK, EVS.blind g mk a qE⟩, gH_rc hK hT hr_o0 shm_0 rfl, fun U hU hW => ⟨rfl, hU, va_K.moved hW.alike hK, hE.call hS hFc hU hW⟩⟩ rfl rfl hl.1 rfl (lv_room (Nat.le_of_ble_eq_true rfl)) dX12_settler_65 ⟨(Nat.le_of_ble_eq_true rfl), (Nat.le_of_ble_eq_true rfl)⟩) hS (fun q _ h => hFc q h) hFc (fun r352 u t H locs ht hvm hw353 hB _ _ hS => ?_)
            obtain ⟨hT, hF1⟩ := hB
            rw [ht] at hT hF1
            have m354 := (hF1.fld hr_o0 skm_0 (k := 42) (by decide) (by decide)).trans m167
            have m355 := m168.kept (hF1.arr hg1 skm_32 (by decide))
            have m356 := m169.kept (hF1.arr hg2 skm_33 (by decide))
            have m357 := m170.kept (hF1.arr hg3 skm_34 (by decide))
            have m358 := m171.kept (hF1.arr hg4 skm_35 (by decide))
            have m359 := m172.kept (hF1.arr hg5 skm_36 (by decide))
            have m360 := m173.kept (hF1.arr hg6 skm_37 (by decide))
            have m361 := m174.kept (hF1.arr hg7 skm_39 (by decide))
            have hF := hF.more hF1 (by decide)
            try dsimp only at hw353
            obtain ⟨h363, hd364⟩ := hw353
            obtain rfl : (1 : Int32) = r352 := hd364.symm
            refine lv_if_ne (tgt := 93) hx hb dX12_settler_68 (by decide) (fun c365 => ?_) (fun c365 => absurd c365 (by decide))
            refine lv_iconst (v := 0) hx hb dX12_settler_93 (by decide) ?_
            exact W.iret (v := 0) hx hb hr (fun t ht hW => ⟨⟨0, (sn, vA, vD, vC, vU, vI, vM, vH), rfl, (by exact ⟨(rg_t (a := 0) (by decide) (by first | decide | omega) (by first | decide | omega)), (Or.inr ⟨by omega, by omega, rfl, rfl, rfl, rfl, rfl, rfl, rfl⟩)⟩), by (try dsimp only); rw [ht]; exact ⟨hT, hF, m354, m355, m356, m357, m358, m359, m360, m361⟩⟩, hS.F ht⟩) hS.2.2 dX12_settler_94
