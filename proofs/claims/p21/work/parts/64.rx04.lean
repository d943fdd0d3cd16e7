set_option maxHeartbeats 4000000 in
set_option maxRecDepth 100000 in
theorem s_farmC (l : Launch) (dC : Nat → ClassId) (dI : Nat → Nat → Nat) (kA : Nat → ClassId) (adK adV : Nat → Nat) (G : gT) (H0 : Heap) (q : Nat → Nat) (wZ wN : Nat → Int) (wH wB wC : Int) (wL wK : Nat → Prop) (wU wV : Nat → Nat) (PI : Nat → Int → Prop) (im : Int) (PM PT : Nat → Int → Prop) (lS lB lE : Nat → Nat → Int → Prop) (lN : Nat → Int) (o0 : Nat) (p0 : Int32) (p1 : Int32) (nf : Int32) (aFr : Nat → Int32) (aTo : Nat → Int32) (vR : Nat → Int32) (L F : Nat → Int) (hT : gH (dC, dI) kA (SHm q (wP wZ wN wH wB wC wL wK wU wV) PI im PM PT lS lB lE lN) G H0) (hr_o0 : G o0 = some 0) (hm_nf : el H0 o0 (dI 15 47) = some (.int nf)) (hq0 : 0 ≤ nf.toInt ∧ nf.toInt ≤ 30) (hAB : ∀ f : Nat, ((f : Nat) : Int) < nf.toInt → (0 ≤ (aFr f).toInt ∧ (aFr f).toInt ≤ 95) ∧ (0 ≤ (aTo f).toInt ∧ (aTo f).toInt ≤ 95)) (hL : ∀ i, i < 96 → (wL i ↔ L i = 1) ∧ (0 ≤ L i ∧ L i ≤ 1)) (hF9 : ∀ i, i < 96 → (frm aFr aTo nf.toInt ((i : Nat) : Int) ↔ F i = 1) ∧ (0 ≤ F i ∧ F i ≤ 1)) (hc_aFr : ct H0 (q 43) 30 aFr) (hc_aTo : ct H0 (q 44) 30 aTo) (hc_vR : ct H0 (q 46) 30 vR) (hgz : ∀ i, 0 ≤ wZ i) (hgn : ∀ i, 6500000 ≤ wN i ∧ wN i ≤ 20200000) (hgh : 0 ≤ wH ∧ wH ≤ 40000) (hgb : 0 ≤ wB ∧ wB ≤ 3850000) (hgc : 0 ≤ wC ∧ wC ≤ 30) (hgi : 0 ≤ im ∧ im ≤ 1) (hgu : ∀ a t, G a = some (t + 1) → a = q t) : Met l yX12_farm w_s_farmC ({ frames := 3, cells := 0, slots := 0, locals := 86 }) (va_Pc [.ref o0, .int p0, .int p1] (fun U => U.heap = H0 ∧ va_K (dC, dI) vwCl (tyl kA) U ∧ EVS adK adV (gA G H0.size) U U.heap)) (va_Qi (fun (r : Int32) (u : Int32 × Int32 × (Nat → Int32) × (Nat → Int32) × (Nat → Int32)) => match u with | (t1, f1, aFr1, aTo1, vR1) => (-1 ≤ r.toInt ∧ r.toInt ≤ 29) ∧ ((faC p0.toInt p1.toInt = 1 ∧ t1.toInt = 1 ∧ f1.toInt = nf.toInt ∧ aFr1 = aFr ∧ aTo1 = aTo) ∨ (faC p0.toInt p1.toInt = 0 ∧ t1.toInt = 0 ∧ (((decide (nf.toInt < 30) && fmK L F p0.toInt p1.toInt 96) = true ∧ r.toInt = nf.toInt ∧ f1.toInt = nf.toInt + 1 ∧ aFr1 = cu aFr nf.toNatClampNeg p0 ∧ aTo1 = cu aTo nf.toNatClampNeg p1) ∨ ((decide (nf.toInt < 30) && fmK L F p0.toInt p1.toInt 96) = false ∧ r.toInt = -1 ∧ f1.toInt = nf.toInt ∧ aFr1 = aFr ∧ aTo1 = aTo)))) ∧ ((f1.toInt = nf.toInt ∧ vR1 = vR) ∨ (f1.toInt = nf.toInt + 1 ∧ vR1 = cu vR nf.toNatClampNeg (-1)))) (fun (u : Int32 × Int32 × (Nat → Int32) × (Nat → Int32) × (Nat → Int32)) (t : State) => match u with | (t1, f1, aFr1, aTo1, vR1) => gH (dC, dI) kA (SHm q (wP wZ wN wH wB wC wL wK wU wV) PI im PM PT lS lB lE lN) G t.heap ∧ gF (dC, dI) SKm G ([(0, 0), (0, 47), (44, 0), (45, 0), (47, 0)] : List (Nat × Nat)) H0 t.heap ∧ el t.heap o0 (dI 15 0) = some (.int t1) ∧ el t.heap o0 (dI 15 47) = some (.int f1) ∧ ct t.heap (q 43) 30 aFr1 ∧ ct t.heap (q 44) 30 aTo1 ∧ ct t.heap (q 46) 30 vR1) (gA G H0.size)) 0 0 (gA G H0.size) := by
  refine Met.ofW (cc := cX12_farm) (maxL := 4) (ret := (some .int)) (by decide) rfl ?_
  intro p e s m args below meth c s₁ B hml hv
  obtain ⟨rfl, hH0, hK, hE⟩ := hv
  have hx := B.exec
  have hb := B.bytes
  have hr := B.returns
  have hts := atoms_spec (ws := w_s_farmC) B.pre
  have hown : s.vm.findClass RX12 = some m.cls := findClass_of_methodNamed B.named
  have hlocks := B.notSynchronized
  subst hH0
  generalize hAe : gA G s.heap.size = A at hE ⊢
  have hA : ∀ q : Nat, s.heap.size ≤ q → A q := fun q h => by rw [← hAe]; exact Or.inr h
  have hG := gA_of hAe
  have hS : va_S A s.heap s.heap [] := va_S.rf
  have hF : gF (dC, dI) SKm G ([(0, 0), (0, 47), (44, 0), (45, 0), (47, 0)] : List (Nat × Nat)) s.heap s.heap := gF.rf
  have hl := lv_entry ([.ref o0, .int p0, .int p1]) (n := 4) (Nat.le_of_ble_eq_true rfl)
  rw [lg_entry_eq]
  generalize (lg_sl ([.ref o0, .int p0, .int p1]) ++ List.replicate (4 - (lg_sl ([.ref o0, .int p0, .int p1])).length) Slot.unset).toArray = ls at hl ⊢
  have hl : lv_has ls 4 [(0, .ref o0), (1, .int p0), (2, .int p1)] := hl
  have hg1 : G (q 43) = some 44 := gx_of hT hr_o0 shm_0 (k := 43) (by decide) rfl
  have hg2 : G (q 44) = some 45 := gx_of hT hr_o0 shm_0 (k := 44) (by decide) rfl
  have hg3 : G (q 46) = some 47 := gx_of hT hr_o0 shm_0 (k := 46) (by decide) rfl
  refine lv_aload_n hx hb dX12_farm_0 rfl (lv_at hl 0 rfl) ?_
  refine lv_iconst (v := 0) hx hb dX12_farm_1 (by decide) ?_
  refine tw_put (v := .int 0) (ty := .int) hx hb hts bF_X12 tyX12 tyX12_ok nmX12 hown hK hT hG hS hr_o0 shm_0 rfl 0 (by decide) (ht_at hts 0 rfl) (fun _ h9 => h9) rfl (by decide +kernel) rfl rfl (gl_at rfl (gi_all _)) dX12_farm_2 (fun H locs hT oq m4 oj hS => ?_)
  have hF := hF.put hr_o0 skm_0 oq oj (by decide)
  have m5 := (oj 47 (by decide) (by decide)).trans hm_nf
  have m6 := hc_aFr.kept (oq _ (gne hg1 hr_o0 (by decide)))
  have m7 := hc_aTo.kept (oq _ (gne hg2 hr_o0 (by decide)))
  have m8 := hc_vR.kept (oq _ (gne hg3 hr_o0 (by decide)))
  refine lv_aload_n hx hb dX12_farm_5 rfl (lv_at hl 0 rfl) ?_
  refine lv_iload_n hx hb dX12_farm_6 rfl (lv_at hl 1 rfl) ?_
  have hFc := gA_free hG hA hS
  refine va_calli (va_runS (As := [.int p0]) (rest := [.ref o0]) ⟨hx, hb, hml, hown, hts⟩ (s_noSquareE l dC dI kA adK adV G H q wZ wN wH wB wC wL wK wU wV PI im PM PT lS lB lE lN p0 hT hgz hgn hgh hgb hgc hgi hgu) (va_cwS 1 hts (goodIn_app (goodIn_r _ [7, 8, 6] rfl (by decide +kernel)) (goodIn_ca (goodIn_r _ [2, 3, 4, 5, 6] rfl (by decide +kernel)) (bs_in _ _))) rfl rfl rfl (by decide +kernel) ⟨(Nat.le_of_ble_eq_true rfl), (Nat.le_of_ble_eq_true rfl)⟩) ⟨fun a U g mk q => by obtain ⟨q0, q1, qK, qE⟩ := q; exact ⟨q0, q1, va_K.moved (u := U) (U := U.calling g mk a) (Vm.Alike.refl U.vm) qK, EVS.blind g mk a qE⟩, fun U hU hW => ⟨rfl, hU, va_K.moved hW.alike hK, hE.call hS hFc hU hW⟩⟩ rfl rfl hl.1 rfl (lv_room (Nat.le_of_ble_eq_true rfl)) dX12_farm_7 ⟨(Nat.le_of_ble_eq_true rfl), (Nat.le_of_ble_eq_true rfl)⟩) hS (fun q _ h => hFc q h) hFc (fun r9 u t H locs ht hvm hw10 hB _ _ hS => ?_)
  obtain ⟨hT, hF1⟩ := hB
  rw [ht] at hT hF1
  have m11 := (hF1.fld hr_o0 skm_0 (k := 47) (by decide) (by decide)).trans m5
  have m12 := m6.kept (hF1.arr hg1 skm_44 (by decide))
  have m13 := m7.kept (hF1.arr hg2 skm_45 (by decide))
  have m14 := m8.kept (hF1.arr hg3 skm_47 (by decide))
  have m15 := (hF1.fld hr_o0 skm_0 (k := 0) (by decide) (by decide)).trans m4
  have hF := hF.more hF1 (by decide)
  try dsimp only at hw10
  obtain ⟨h16, hf17⟩ := hw10
  refine lv_if_ne (tgt := 20) hx hb dX12_farm_10 (by decide) (fun c18 => ?_) (fun c18 => ?_)
  · have t19 : r9.toInt ≠ 0 := ti_ne c18 rfl (by decide)
    refine lv_iconst (v := 1) hx hb dX12_farm_20 (by decide) ?_
    refine lv_goto (tgt := 25) hx hb dX12_farm_21 (by decide) ?_
    refine lv_iconst (v := 1) hx hb dX12_farm_25 (by decide) ?_
    have hFc := gA_free hG hA hS
    refine va_calli (va_runV (As := [.int 1, .int 1]) (rest := []) ⟨hx, hb, hml, hown, hts⟩ (s_throwsIfP l dC dI kA adK adV G H q wZ wN wH wB wC wL wK wU wV PI im PM PT lS lB lE lN o0 1 1 0 hT hr_o0 m15 (rg_t (a := 1) (by decide) (by first | decide | omega) (by first | decide | omega)) hgz hgn hgh hgb hgc hgi hgu) (cwV 2 hts (goodIn_app (goodIn_r _ [10, 11, 12, 6] rfl (by decide +kernel)) (goodIn_ca (goodIn_r _ [9, 1] rfl (by decide +kernel)) (bs_in _ _))) rfl rfl rfl (by decide +kernel) ⟨(Nat.le_of_ble_eq_true rfl), (Nat.le_of_ble_eq_true rfl)⟩) ⟨fun a U g mk q => by obtain ⟨q0, q1, qK, qE⟩ := q; exact ⟨q0, q1, va_K.moved (u := U) (U := U.calling g mk a) (Vm.Alike.refl U.vm) qK, EVS.blind g mk a qE⟩, gH_rc hK hT hr_o0 shm_0 rfl, fun U hU hW => ⟨rfl, hU, va_K.moved hW.alike hK, hE.call hS hFc hU hW⟩⟩ rfl rfl hl.1 rfl (lv_room (Nat.le_of_ble_eq_true rfl)) dX12_farm_26 ⟨(Nat.le_of_ble_eq_true rfl), (Nat.le_of_ble_eq_true rfl)⟩) hS (fun q _ h => hFc q h) hFc (fun r20 u t H locs ht hvm hw21 hB _ _ hS => ?_)
    obtain ⟨u22, rfl⟩ : ∃ z, z = u := ⟨_, rfl⟩
    obtain ⟨hT, hF1, m23⟩ := hB
    rw [ht] at hT hF1 m23
    have m24 := (hF1.fld hr_o0 skm_0 (k := 47) (by decide) (by decide)).trans m11
    have m25 := m12.kept (hF1.arr hg1 skm_44 (by decide))
    have m26 := m13.kept (hF1.arr hg2 skm_45 (by decide))
    have m27 := m14.kept (hF1.arr hg3 skm_47 (by decide))
    have hF := hF.more hF1 (by decide)
    try dsimp only at hw21
    obtain ⟨h29, hf30, hd31⟩ := hw21
    have t32 : (1 : Int32).toInt = 1 := by decide
    have t33 : (1 : Int32).toInt = 1 := by decide
    have t34 : (0 : Int32).toInt = 0 := by decide
    obtain rfl : (1 : Int32) = r20 := hd31.symm
    refine lv_if_ne (tgt := 41) hx hb dX12_farm_29 (by decide) (fun c35 => ?_) (fun c35 => absurd c35 (by decide))
    refine lv_aload_n hx hb dX12_farm_41 rfl (lv_at hl 0 rfl) ?_
    refine tw_getM (v := .int u22) hx hb hts bF_X12 hown hK hT hr_o0 shm_0 rfl 0 (by decide) (ht_at hts 0 rfl) (fun _ h9 => h9) m23 dX12_farm_42 ?_
    refine lv_if_eq (tgt := 52) hx hb dX12_farm_45 (by decide) (fun c36 => ?_) (fun c36 => ?_)
    · have t37 : u22.toInt = 0 := ti_eq c36 rfl (by decide)
      refine lv_iconst (v := (-1)) hx hb dX12_farm_52 (by decide) ?_
      exact W.iret (v := (-1)) hx hb hr (fun t ht hW => ⟨⟨(-1), (u22, nf, aFr, aTo, vR), rfl, (by exact ⟨(rg_t (a := (-1)) (by decide) (by first | decide | omega) (by first | decide | omega)), (by have q0 : (0 : Int32).toInt = 0 := (by decide); have q1 : (1 : Int32).toInt = 1 := (by decide); have q2 : (2 : Int32).toInt = 2 := (by decide); have q3 : (3 : Int32).toInt = 3 := (by decide); have qm : (-1 : Int32).toInt = -1 := (by decide); first | exact Or.inl ⟨by have := faC_s p0.toInt p1.toInt; have q0 : (0 : Int32).toInt = 0 := (by decide); have q1 : (1 : Int32).toInt = 1 := (by decide); have q2 : (2 : Int32).toInt = 2 := (by decide); have q3 : (3 : Int32).toInt = 3 := (by decide); have qm : (-1 : Int32).toInt = -1 := (by decide); omega, by have q0 : (0 : Int32).toInt = 0 := (by decide); have q1 : (1 : Int32).toInt = 1 := (by decide); have q2 : (2 : Int32).toInt = 2 := (by decide); have q3 : (3 : Int32).toInt = 3 := (by decide); have qm : (-1 : Int32).toInt = -1 := (by decide); omega, by omega, rfl, rfl⟩ | exact Or.inr ⟨by have := faC_s p0.toInt p1.toInt; have q0 : (0 : Int32).toInt = 0 := (by decide); have q1 : (1 : Int32).toInt = 1 := (by decide); have q2 : (2 : Int32).toInt = 2 := (by decide); have q3 : (3 : Int32).toInt = 3 := (by decide); have qm : (-1 : Int32).toInt = -1 := (by decide); omega, by have q0 : (0 : Int32).toInt = 0 := (by decide); have q1 : (1 : Int32).toInt = 1 := (by decide); have q2 : (2 : Int32).toInt = 2 := (by decide); have q3 : (3 : Int32).toInt = 3 := (by decide); have qm : (-1 : Int32).toInt = -1 := (by decide); omega, Or.inr ⟨fm_b (by omega), by decide, by omega, rfl, rfl⟩⟩), (Or.inl ⟨by have q0 : (0 : Int32).toInt = 0 := (by decide); have q1 : (1 : Int32).toInt = 1 := (by decide); have q2 : (2 : Int32).toInt = 2 := (by decide); have q3 : (3 : Int32).toInt = 3 := (by decide); have qm : (-1 : Int32).toInt = -1 := (by decide); omega, rfl⟩)⟩), by (try dsimp only); rw [ht]; exact ⟨hT, hF, m23, m24, m25, m26, m27⟩⟩, hS.F ht⟩) hS.2.2 dX12_farm_53
    · have t38 : u22.toInt ≠ 0 := ti_ne c36 rfl (by decide)
      refine lv_iconst (v := 0) hx hb dX12_farm_48 (by decide) ?_
      refine lv_goto (tgt := 53) hx hb dX12_farm_49 (by decide) ?_
      exact W.iret (v := 0) hx hb hr (fun t ht hW => ⟨⟨0, (u22, nf, aFr, aTo, vR), rfl, (by exact ⟨(rg_t (a := 0) (by decide) (by first | decide | omega) (by first | decide | omega)), (by have q0 : (0 : Int32).toInt = 0 := (by decide); have q1 : (1 : Int32).toInt = 1 := (by decide); have q2 : (2 : Int32).toInt = 2 := (by decide); have q3 : (3 : Int32).toInt = 3 := (by decide); have qm : (-1 : Int32).toInt = -1 := (by decide); first | exact Or.inl ⟨by have := faC_s p0.toInt p1.toInt; have q0 : (0 : Int32).toInt = 0 := (by decide); have q1 : (1 : Int32).toInt = 1 := (by decide); have q2 : (2 : Int32).toInt = 2 := (by decide); have q3 : (3 : Int32).toInt = 3 := (by decide); have qm : (-1 : Int32).toInt = -1 := (by decide); omega, by have q0 : (0 : Int32).toInt = 0 := (by decide); have q1 : (1 : Int32).toInt = 1 := (by decide); have q2 : (2 : Int32).toInt = 2 := (by decide); have q3 : (3 : Int32).toInt = 3 := (by decide); have qm : (-1 : Int32).toInt = -1 := (by decide); omega, by omega, rfl, rfl⟩ | exact Or.inr ⟨by have := faC_s p0.toInt p1.toInt; have q0 : (0 : Int32).toInt = 0 := (by decide); have q1 : (1 : Int32).toInt = 1 := (by decide); have q2 : (2 : Int32).toInt = 2 := (by decide); have q3 : (3 : Int32).toInt = 3 := (by decide); have qm : (-1 : Int32).toInt = -1 := (by decide); omega, by have q0 : (0 : Int32).toInt = 0 := (by decide); have q1 : (1 : Int32).toInt = 1 := (by decide); have q2 : (2 : Int32).toInt = 2 := (by decide); have q3 : (3 : Int32).toInt = 3 := (by decide); have qm : (-1 : Int32).toInt = -1 := (by decide); omega, Or.inr ⟨fm_b (by omega), by decide, by omega, rfl, rfl⟩⟩), (Or.inl ⟨by have q0 : (0 : Int32).toInt = 0 := (by decide); have q1 : (1 : Int32).toInt = 1 := (by decide); have q2 : (2 : Int32).toInt = 2 := (by decide); have q3 : (3 : Int32).toInt = 3 := (by decide); have qm : (-1 : Int32).toInt = -1 := (by decide); omega, rfl⟩)⟩), by (try dsimp only); rw [ht]; exact ⟨hT, hF, m23, m24, m25, m26, m27⟩⟩, hS.F ht⟩) hS.2.2 dX12_farm_53
  · have t39 : r9.toInt = 0 := ti_eq c18 rfl (by decide)
    refine lv_iload_n hx hb dX12_farm_13 rfl (lv_at hl 2 rfl) ?_
    have hFc := gA_free hG hA hS
    refine va_calli (va_runS (As := [.int p1]) (rest := [.ref o0]) ⟨hx, hb, hml, hown, hts⟩ (s_noSquareE l dC dI kA adK adV G H q wZ wN wH wB wC wL wK wU wV PI im PM PT lS lB lE lN p1 hT hgz hgn hgh hgb hgc hgi hgu) (va_cwS 1 hts (goodIn_app (goodIn_r _ [7, 8, 6] rfl (by decide +kernel)) (goodIn_ca (goodIn_r _ [2, 3, 4, 5, 6] rfl (by decide +kernel)) (bs_in _ _))) rfl rfl rfl (by decide +kernel) ⟨(Nat.le_of_ble_eq_true rfl), (Nat.le_of_ble_eq_true rfl)⟩) ⟨fun a U g mk q => by obtain ⟨q0, q1, qK, qE⟩ := q; exact ⟨q0, q1, va_K.moved (u := U) (U := U.calling g mk a) (Vm.Alike.refl U.vm) qK, EVS.blind g mk a qE⟩, fun U hU hW => ⟨rfl, hU, va_K.moved hW.alike hK, hE.call hS hFc hU hW⟩⟩ rfl rfl hl.1 rfl (lv_room (Nat.le_of_ble_eq_true rfl)) dX12_farm_14 ⟨(Nat.le_of_ble_eq_true rfl), (Nat.le_of_ble_eq_true rfl)⟩) hS (fun q _ h => hFc q h) hFc (fun r40 u t H locs ht hvm hw41 hB _ _ hS => ?_)
    obtain ⟨hT, hF1⟩ := hB
    rw [ht] at hT hF1
    have m42 := (hF1.fld hr_o0 skm_0 (k := 47) (by decide) (by decide)).trans m11
    have m43 := m12.kept (hF1.arr hg1 skm_44 (by decide))
    have m44 := m13.kept (hF1.arr hg2 skm_45 (by decide))
    have m45 := m14.kept (hF1.arr hg3 skm_47 (by decide))
    have m46 := (hF1.fld hr_o0 skm_0 (k := 0) (by decide) (by decide)).trans m15
    have hF := hF.more hF1 (by decide)
    try dsimp only at hw41
    obtain ⟨h47, hf48⟩ := hw41
    refine lv_if_eq (tgt := 24) hx hb dX12_farm_17 (by decide) (fun c49 => ?_) (fun c49 => ?_)
    · have t50 : r40.toInt = 0 := ti_eq c49 rfl (by decide)
      refine lv_iconst (v := 0) hx hb dX12_farm_24 (by decide) ?_
      refine lv_iconst (v := 1) hx hb dX12_farm_25 (by decide) ?_
      have hFc := gA_free hG hA hS
      refine va_calli (va_runV (As := [.int 0, .int 1]) (rest := []) ⟨hx, hb, hml, hown, hts⟩ (s_throwsIfP l dC dI kA adK adV G H q wZ wN wH wB wC wL wK wU wV PI im PM PT lS lB lE lN o0 0 1 0 hT hr_o0 m46 (rg_t (a := 0) (by decide) (by first | decide | omega) (by first | decide | omega)) hgz hgn hgh hgb hgc hgi hgu) (cwV 2 hts (goodIn_app (goodIn_r _ [10, 11, 12, 6] rfl (by decide +kernel)) (goodIn_ca (goodIn_r _ [9, 1] rfl (by decide +kernel)) (bs_in _ _))) rfl rfl rfl (by decide +kernel) ⟨(Nat.le_of_ble_eq_true rfl), (Nat.le_of_ble_eq_true rfl)⟩) ⟨fun a U g mk q => by obtain ⟨q0, q1, qK, qE⟩ := q; exact ⟨q0, q1, va_K.moved (u := U) (U := U.calling g mk a) (Vm.Alike.refl U.vm) qK, EVS.blind g mk a qE⟩, gH_rc hK hT hr_o0 shm_0 rfl, fun U hU hW => ⟨rfl, hU, va_K.moved hW.alike hK, hE.call hS hFc hU hW⟩⟩ rfl rfl hl.1 rfl (lv_room (Nat.le_of_ble_eq_true rfl)) dX12_farm_26 ⟨(Nat.le_of_ble_eq_true rfl), (Nat.le_of_ble_eq_true rfl)⟩) hS (fun q _ h => hFc q h) hFc (fun r51 u t H locs ht hvm hw52 hB _ _ hS => ?_)
      obtain ⟨u53, rfl⟩ : ∃ z, z = u := ⟨_, rfl⟩
      obtain ⟨hT, hF1, m54⟩ := hB
      rw [ht] at hT hF1 m54
      have m55 := (hF1.fld hr_o0 skm_0 (k := 47) (by decide) (by decide)).trans m42
      have m56 := m43.kept (hF1.arr hg1 skm_44 (by decide))
      have m57 := m44.kept (hF1.arr hg2 skm_45 (by decide))
      have m58 := m45.kept (hF1.arr hg3 skm_47 (by decide))
      have hF := hF.more hF1 (by decide)
      try dsimp only at hw52
      obtain ⟨h60, hf61, hd62⟩ := hw52
      have t63 : (0 : Int32).toInt = 0 := by decide
      have t64 : (1 : Int32).toInt = 1 := by decide
      have t65 : (0 : Int32).toInt = 0 := by decide
      obtain rfl : (0 : Int32) = r51 := hd62.symm
      refine lv_if_ne (tgt := 41) hx hb dX12_farm_29 (by decide) (fun c66 => absurd c66 (by decide)) (fun c66 => ?_)
      refine lv_aload_n hx hb dX12_farm_32 rfl (lv_at hl 0 rfl) ?_
      refine tw_getM (v := .int nf) hx hb hts bF_X12 hown hK hT hr_o0 shm_0 rfl 47 (by decide) (ht_at hts 12 rfl) (fun _ h9 => h9) m55 dX12_farm_33 ?_
      refine lv_bipush (v := 30) hx hb dX12_farm_36 (by decide) ?_
      refine lv_icmp_ne (tgt := 54) hx hb dX12_farm_38 (by decide) (fun c67 => ?_) (fun c67 => ?_)
      · have t68 : nf.toInt ≠ 30 := ti_ne c67 rfl (by decide)
        refine lv_iconst (v := 0) hx hb dX12_farm_54 (by decide) ?_
        refine lv_istore_n (lv' := [(3, .int 0), (0, .ref o0), (1, .int p0), (2, .int p1)]) hx hb dX12_farm_55 rfl hl (by decide) rfl (fun ls hl => ?_)
        have key118 : ∀ (n118 i69 : Nat), i69 + n118 = 96 → 0 ≤ i69 → ((fmK L F p0.toInt p1.toInt i69 = true)) → ∀ (H : Heap) (locs : List Loc), gH (dC, dI) kA (SHm q (wP wZ wN wH wB wC wL wK wU wV) PI im PM PT lS lB lE lN) G H → gF (dC, dI) SKm G ([(0, 0), (0, 47), (44, 0), (45, 0), (47, 0)] : List (Nat × Nat)) s.heap H → va_S A s.heap H locs → ct H (q 43) 30 aFr → ct H (q 44) 30 aTo → ct H (q 46) 30 vR → el H o0 (dI 15 47) = some (.int nf) → el H o0 (dI 15 0) = some (.int u53) → ∀ ls : Array Slot, lv_has ls 4 [(3, .int (nI i69)), (0, .ref o0), (1, .int p0), (2, .int p1)] → W p l e (headSpec w_s_farmC ({ frames := 3, cells := 0, slots := 0, locals := 86 })).room s m #[.ref o0, .int p0, .int p1] below meth c H locs 0 0 (MQ below (va_Qi (fun (r : Int32) (u : Int32 × Int32 × (Nat → Int32) × (Nat → Int32) × (Nat → Int32)) => match u with | (t1, f1, aFr1, aTo1, vR1) => (-1 ≤ r.toInt ∧ r.toInt ≤ 29) ∧ ((faC p0.toInt p1.toInt = 1 ∧ t1.toInt = 1 ∧ f1.toInt = nf.toInt ∧ aFr1 = aFr ∧ aTo1 = aTo) ∨ (faC p0.toInt p1.toInt = 0 ∧ t1.toInt = 0 ∧ (((decide (nf.toInt < 30) && fmK L F p0.toInt p1.toInt 96) = true ∧ r.toInt = nf.toInt ∧ f1.toInt = nf.toInt + 1 ∧ aFr1 = cu aFr nf.toNatClampNeg p0 ∧ aTo1 = cu aTo nf.toNatClampNeg p1) ∨ ((decide (nf.toInt < 30) && fmK L F p0.toInt p1.toInt 96) = false ∧ r.toInt = -1 ∧ f1.toInt = nf.toInt ∧ aFr1 = aFr ∧ aTo1 = aTo)))) ∧ ((f1.toInt = nf.toInt ∧ vR1 = vR) ∨ (f1.toInt = nf.toInt + 1 ∧ vR1 = cu vR nf.toNatClampNeg (-1)))) (fun (u : Int32 × Int32 × (Nat → Int32) × (Nat → Int32) × (Nat → Int32)) (t : State) => match u with | (t1, f1, aFr1, aTo1, vR1) => gH (dC, dI) kA (SHm q (wP wZ wN wH wB wC wL wK wU wV) PI im PM PT lS lB lE lN) G t.heap ∧ gF (dC, dI) SKm G ([(0, 0), (0, 47), (44, 0), (45, 0), (47, 0)] : List (Nat × Nat)) s.heap t.heap ∧ el t.heap o0 (dI 15 0) = some (.int t1) ∧ el t.heap o0 (dI 15 47) = some (.int f1) ∧ ct t.heap (q 43) 30 aFr1 ∧ ct t.heap (q 44) 30 aTo1 ∧ ct t.heap (q 46) 30 vR1) A) #[.ref o0, .int p0, .int p1] s 0 0 A) (F0 m 56 ls []) := by
          intro n118
          induction n118 with
          | zero =>
            intro i69 hn118 hlo119 hj75 H locs hT hF hS m70 m71 m72 m73 m74 ls hl
            obtain rfl : 96 = i69 := by omega
            refine lv_iload_n hx hb dX12_farm_56 rfl (lv_at hl 0 rfl) ?_
            refine lv_bipush (v := 96) hx hb dX12_farm_57 (by decide) ?_
            refine lv_icmp_ge (tgt := 95) hx hb dX12_farm_59 (by decide) (fun c120 => ?_) (fun c120 => (by exfalso; have q9 : ((96 : Nat) : Int) < 96 := ti_nle c120 (by decide) (nI_toInt (by omega)); omega))
            have t121 : 96 ≤ ((96 : Nat) : Int) := ti_le c120 (by decide) (nI_toInt (by omega))
            refine lv_aload_n hx hb dX12_farm_95 rfl (lv_at hl 1 rfl) ?_
            refine tw_get hx hb hts bF_X12 hown hK hT hr_o0 shm_0 rfl 43 (by decide) (ht_at hts 13 rfl) (fun _ h9 => h9) dX12_farm_96 (fun v9 m122 h9 => ?_)
            obtain ⟨rfl, hg123⟩ := h9 _ rfl
            refine lv_aload_n hx hb dX12_farm_99 rfl (lv_at hl 1 rfl) ?_
            refine tw_getM (v := .int nf) hx hb hts bF_X12 hown hK hT hr_o0 shm_0 rfl 47 (by decide) (ht_at hts 12 rfl) (fun _ h9 => h9) m73 dX12_farm_100 ?_
            refine lv_iload_n hx hb dX12_farm_103 rfl (lv_at hl 2 rfl) ?_
            refine tw_iast (i := nf) (x := p0) hx hb hK hT hG hS hg1 shm_44 rfl (vin_t (a := nf.toInt) rfl (by omega) (by omega)) (gi_all _) dX12_farm_104 (fun H locs hT oq m124 oi hS => ?_)
            have hF := hF.ast hg1 skm_44 oq (by decide)
            have m125 := m70.put m124 oi
            have m126 := m71.kept (oq _ (gne hg2 hg1 (by decide)))
            have m127 := m72.kept (oq _ (gne hg3 hg1 (by decide)))
            have m128 := (el_kept (oq _ (gne hr_o0 hg1 (by decide)))).trans m73
            have m129 := (el_kept (oq _ (gne hr_o0 hg1 (by decide)))).trans m74
            refine lv_aload_n hx hb dX12_farm_105 rfl (lv_at hl 1 rfl) ?_
            refine tw_get hx hb hts bF_X12 hown hK hT hr_o0 shm_0 rfl 44 (by decide) (ht_at hts 14 rfl) (fun _ h9 => h9) dX12_farm_106 (fun v9 m130 h9 => ?_)
            obtain ⟨rfl, hg131⟩ := h9 _ rfl
            refine lv_aload_n hx hb dX12_farm_109 rfl (lv_at hl 1 rfl) ?_
            refine tw_getM (v := .int nf) hx hb hts bF_X12 hown hK hT hr_o0 shm_0 rfl 47 (by decide) (ht_at hts 12 rfl) (fun _ h9 => h9) m128 dX12_farm_110 ?_
            refine lv_iload_n hx hb dX12_farm_113 rfl (lv_at hl 3 rfl) ?_
            refine tw_iast (i := nf) (x := p1) hx hb hK hT hG hS hg2 shm_45 rfl (vin_t (a := nf.toInt) rfl (by omega) (by omega)) (gi_all _) dX12_farm_114 (fun H locs hT oq m132 oi hS => ?_)
            have hF := hF.ast hg2 skm_45 oq (by decide)
            have m133 := m125.kept (oq _ (gne hg1 hg2 (by decide)))
            have m134 := m126.put m132 oi
            have m135 := m127.kept (oq _ (gne hg3 hg2 (by decide)))
            have m136 := (el_kept (oq _ (gne hr_o0 hg2 (by decide)))).trans m128
            have m137 := (el_kept (oq _ (gne hr_o0 hg2 (by decide)))).trans m129
            have m138 := (el_kept (oq _ (gne hg1 hg2 (by decide)))).trans m124
            refine lv_aload_n hx hb dX12_farm_115 rfl (lv_at hl 1 rfl) ?_
            refine tw_get hx hb hts bF_X12 hown hK hT hr_o0 shm_0 rfl 46 (by decide) (ht_at hts 15 rfl) (fun _ h9 => h9) dX12_farm_116 (fun v9 m139 h9 => ?_)
            obtain ⟨rfl, hg140⟩ := h9 _ rfl
            refine lv_aload_n hx hb dX12_farm_119 rfl (lv_at hl 1 rfl) ?_
            refine tw_getM (v := .int nf) hx hb hts bF_X12 hown hK hT hr_o0 shm_0 rfl 47 (by decide) (ht_at hts 12 rfl) (fun _ h9 => h9) m136 dX12_farm_120 ?_
            refine lv_iconst (v := (-1)) hx hb dX12_farm_123 (by decide) ?_
            refine tw_iast (i := nf) (x := (-1)) hx hb hK hT hG hS hg3 shm_47 rfl (vin_t (a := nf.toInt) rfl (by omega) (by omega)) (gi_of (show (-1 : Int32).toInt = (-1) from (by decide)) (by first | decide | omega) (by first | decide | omega)) dX12_farm_124 (fun H locs hT oq m141 oi hS => ?_)
            have hF := hF.ast hg3 skm_47 oq (by decide)
            have m142 := m133.kept (oq _ (gne hg1 hg3 (by decide)))
            have m143 := m134.kept (oq _ (gne hg2 hg3 (by decide)))
            have m144 := m135.put m141 oi
            have m145 := (el_kept (oq _ (gne hr_o0 hg3 (by decide)))).trans m136
            have m146 := (el_kept (oq _ (gne hr_o0 hg3 (by decide)))).trans m137
            have m147 := (el_kept (oq _ (gne hg1 hg3 (by decide)))).trans m138
            have m148 := (el_kept (oq _ (gne hg2 hg3 (by decide)))).trans m132
            refine lv_aload_n hx hb dX12_farm_125 rfl (lv_at hl 1 rfl) ?_
            refine lv_dup hx hb dX12_farm_126 rfl ?_
            refine tw_getM (v := .int nf) hx hb hts bF_X12 hown hK hT hr_o0 shm_0 rfl 47 (by decide) (ht_at hts 12 rfl) (fun _ h9 => h9) m145 dX12_farm_127 ?_
            refine lv_iconst (v := 1) hx hb dX12_farm_130 (by decide) ?_
            refine lv_iadd hx hb dX12_farm_131 ?_
            refine lv_topi (fun x149 ex149 => ?_)
            have t150 : x149.toInt = nf.toInt + 1 := ti_add ex149 rfl (by decide) (by omega) (by omega)
            refine tw_put (v := .int x149) (ty := .int) hx hb hts bF_X12 tyX12 tyX12_ok nmX12 hown hK hT hG hS hr_o0 shm_0 rfl 47 (by decide) (ht_at hts 12 rfl) (fun _ h9 => h9) rfl (by decide +kernel) rfl rfl (gl_at rfl (gi_of (show x149.toInt = x149.toInt from rfl) (by omega) (by omega))) dX12_farm_132 (fun H locs hT oq m151 oj hS => ?_)
            have hF := hF.put hr_o0 skm_0 oq oj (by decide)
            have m152 := m142.kept (oq _ (gne hg1 hr_o0 (by decide)))
            have m153 := m143.kept (oq _ (gne hg2 hr_o0 (by decide)))
            have m154 := m144.kept (oq _ (gne hg3 hr_o0 (by decide)))
            have m155 := (oj 0 (by decide) (by decide)).trans m146
            have m156 := (el_kept (oq _ (gne hg1 hr_o0 (by decide)))).trans m147
            have m157 := (el_kept (oq _ (gne hg2 hr_o0 (by decide)))).trans m148
            have m158 := (el_kept (oq _ (gne hg3 hr_o0 (by decide)))).trans m141
            refine lv_aload_n hx hb dX12_farm_135 rfl (lv_at hl 1 rfl) ?_
            refine tw_getM (v := .int x149) hx hb hts bF_X12 hown hK hT hr_o0 shm_0 rfl 47 (by decide) (ht_at hts 12 rfl) (fun _ h9 => h9) m151 dX12_farm_136 ?_
            refine lv_iconst (v := 1) hx hb dX12_farm_139 (by decide) ?_
            refine lv_isub hx hb dX12_farm_140 ?_
            refine lv_topi (fun x159 ex159 => ?_)
            have t160 : x159.toInt = x149.toInt - 1 := ti_sub ex159 rfl (by decide) (by omega) (by omega)
            exact W.iret (v := x159) hx hb hr (fun t ht hW => ⟨⟨x159, (u53, x149, (cu aFr nf.toNatClampNeg p0), (cu aTo nf.toNatClampNeg p1), (cu vR nf.toNatClampNeg (-1 : Int32))), rfl, (by exact ⟨(by have q8 := ti_all x159; omega), (Or.inr ⟨by have := faC_s p0.toInt p1.toInt; omega, by have q0 : (0 : Int32).toInt = 0 := (by decide); have q1 : (1 : Int32).toInt = 1 := (by decide); have q2 : (2 : Int32).toInt = 2 := (by decide); have q3 : (3 : Int32).toInt = 3 := (by decide); have qm : (-1 : Int32).toInt = -1 := (by decide); omega, Or.inl ⟨fm_a (by omega) hj75, by omega, by omega, rfl, rfl⟩⟩), (Or.inr ⟨by have q0 : (0 : Int32).toInt = 0 := (by decide); have q1 : (1 : Int32).toInt = 1 := (by decide); have q2 : (2 : Int32).toInt = 2 := (by decide); have q3 : (3 : Int32).toInt = 3 := (by decide); have qm : (-1 : Int32).toInt = -1 := (by decide); omega, rfl⟩)⟩), by (try dsimp only); rw [ht]; exact ⟨hT, hF, m155, m151, m152, m153, m154⟩⟩, hS.F ht⟩) hS.2.2 dX12_farm_141
          | succ n118 ih118 =>
            intro i69 hn118 hlo119 hj75 H locs hT hF hS m70 m71 m72 m73 m74 ls hl
            have hlt160 : i69 < 96 := by omega
            refine lv_iload_n hx hb dX12_farm_56 rfl (lv_at hl 0 rfl) ?_
            refine lv_bipush (v := 96) hx hb dX12_farm_57 (by decide) ?_
            refine lv_icmp_ge (tgt := 95) hx hb dX12_farm_59 (by decide) (fun c161 => (by exfalso; have q9 : 96 ≤ ((i69 : Nat) : Int) := ti_le c161 (by decide) (nI_toInt (by omega)); omega)) (fun c161 => ?_)
            have t162 : ((i69 : Nat) : Int) < 96 := ti_nle c161 (by decide) (nI_toInt (by omega))
            refine lv_iload_n hx hb dX12_farm_62 rfl (lv_at hl 0 rfl) ?_
            refine lv_iload_n hx hb dX12_farm_63 rfl (lv_at hl 2 rfl) ?_
            refine lv_iload_n hx hb dX12_farm_64 rfl (lv_at hl 3 rfl) ?_
            have hFc := gA_free hG hA hS
            refine va_calli (va_runS (As := [.int (nI i69), .int p0, .int p1]) (rest := []) ⟨hx, hb, hml, hown, hts⟩ (s_isInE l dC dI kA adK adV G H q wZ wN wH wB wC wL wK wU wV PI im PM PT lS lB lE lN (nI i69) p0 p1 hT (rg_t (a := ((i69 : Nat) : Int)) (nI_toInt (by omega)) (by omega) (by omega)) (by have q8 := ti_all p0; omega) (by have q8 := ti_all p1; omega) hgz hgn hgh hgb hgc hgi hgu) (va_cwS 3 hts (goodIn_app (goodIn_r _ [25, 26, 6] rfl (by decide +kernel)) (goodIn_ca (goodIn_r _ [17, 18, 19, 20, 21, 22, 23, 24, 3, 4, 5, 6] rfl (by decide +kernel)) (bs_in _ _))) rfl rfl rfl (by decide +kernel) ⟨(Nat.le_of_ble_eq_true rfl), (Nat.le_of_ble_eq_true rfl)⟩) ⟨fun a U g mk q => by obtain ⟨q0, q1, qK, qE⟩ := q; exact ⟨q0, q1, va_K.moved (u := U) (U := U.calling g mk a) (Vm.Alike.refl U.vm) qK, EVS.blind g mk a qE⟩, fun U hU hW => ⟨rfl, hU, va_K.moved hW.alike hK, hE.call hS hFc hU hW⟩⟩ rfl rfl hl.1 rfl (lv_room (Nat.le_of_ble_eq_true rfl)) dX12_farm_65 ⟨(Nat.le_of_ble_eq_true rfl), (Nat.le_of_ble_eq_true rfl)⟩) hS (fun q _ h => hFc q h) hFc (fun r163 u t H locs ht hvm hw164 hB _ _ hS => ?_)
            obtain ⟨hT, hF1⟩ := hB
            rw [ht] at hT hF1
            have m165 := m70.kept (hF1.arr hg1 skm_44 (by decide))
            have m166 := m71.kept (hF1.arr hg2 skm_45 (by decide))
            have m167 := m72.kept (hF1.arr hg3 skm_47 (by decide))
            have m168 := (hF1.fld hr_o0 skm_0 (k := 47) (by decide) (by decide)).trans m73
            have m169 := (hF1.fld hr_o0 skm_0 (k := 0) (by decide) (by decide)).trans m74
            have hF := hF.more hF1 (by decide)
            try dsimp only at hw164
            obtain ⟨h170, hf171⟩ := hw164
            have t172 : (nI i69).toInt = ((i69 : Nat) : Int) := nI_toInt (by omega)
            refine lv_if_eq (tgt := 89) hx hb dX12_farm_68 (by decide) (fun c173 => ?_) (fun c173 => ?_)
            · have t174 : r163.toInt = 0 := ti_eq c173 rfl (by decide)
              refine lv_iinc (v := nI (i69 + 1)) (lv' := [(3, .int (nI (i69 + 1))), (0, .ref o0), (1, .int p0), (2, .int p1)]) hx hb dX12_farm_89 hl (k := 0) rfl (nI_add i69 1) (by decide) rfl (fun ls hl => ?_)
              refine lv_goto (tgt := 56) hx hb dX12_farm_92 (by decide) ?_
              exact ih118 (i69 + 1) (by omega) (by omega) (by have q0 : (0 : Int32).toInt = 0 := (by decide); have q1 : (1 : Int32).toInt = 1 := (by decide); have q2 : (2 : Int32).toInt = 2 := (by decide); have q3 : (3 : Int32).toInt = 3 := (by decide); have qm : (-1 : Int32).toInt = -1 := (by decide); first | exact fmK_out (inR_0 (s := ((i69 : Nat) : Int)) (a := p0.toInt) (b := p1.toInt) (by have q9 : (nI i69).toInt = ((i69 : Nat) : Int) := nI_toInt (by omega); omega)) hj75 | exact fmK_ok (wdL_1 hL (by omega) (tn_nI (by omega)) (by assumption)) (fF_0 hF9 (by omega) (nI_toInt (by omega)) ((trivial).resolve_right (fun h8 => by have := h8.1; omega)).2) hj75) _ _ hT hF hS m165 m166 m167 m168 m169 ls (lv_sub hl [0, 1, 2, 3] rfl)
            · have t175 : r163.toInt ≠ 0 := ti_ne c173 rfl (by decide)
              refine lv_aload_n hx hb dX12_farm_71 rfl (lv_at hl 1 rfl) ?_
              refine lv_iload_n hx hb dX12_farm_72 rfl (lv_at hl 0 rfl) ?_
              have hFc := gA_free hG hA hS
              refine va_calli (va_runV (As := [.int (nI i69)]) (rest := []) ⟨hx, hb, hml, hown, hts⟩ (s_isLand l dC dI kA adK adV G H q wZ wN wH wB wC wL wK wU wV PI im PM PT lS lB lE lN o0 (nI i69) hT hr_o0 (rg_t (a := ((i69 : Nat) : Int)) (nI_toInt (by omega)) (by omega) (by omega)) hgz hgn hgh hgb hgc hgi hgu) (cwV 1 hts (goodIn_app (goodIn_r _ [29, 30, 31, 6] rfl (by decide +kernel)) (goodIn_ca (goodIn_r _ [27, 28] rfl (by decide +kernel)) (bs_in _ _))) rfl rfl rfl (by decide +kernel) ⟨(Nat.le_of_ble_eq_true rfl), (Nat.le_of_ble_eq_true rfl)⟩) ⟨fun a U g mk q => by obtain ⟨q0, q1, qK, qE⟩ := q; exact ⟨q0, q1, va_K.moved (u := U) (U := U.calling g mk a) (Vm.Alike.refl U.vm) qK, EVS.blind g mk a qE⟩, gH_rc hK hT hr_o0 shm_0 rfl, fun U hU hW => ⟨rfl, hU, va_K.moved hW.alike hK, hE.call hS hFc hU hW⟩⟩ rfl rfl hl.1 rfl (lv_room (Nat.le_of_ble_eq_true rfl)) dX12_farm_73 ⟨(Nat.le_of_ble_eq_true rfl), (Nat.le_of_ble_eq_true rfl)⟩) hS (fun q _ h => hFc q h) hFc (fun r176 u t H locs ht hvm hw177 hB _ _ hS => ?_)
              obtain ⟨hT, hF1⟩ := hB
              rw [ht] at hT hF1
              have m178 := m165.kept (hF1.arr hg1 skm_44 (by decide))
              have m179 := m166.kept (hF1.arr hg2 skm_45 (by decide))
              have m180 := m167.kept (hF1.arr hg3 skm_47 (by decide))
              have m181 := (hF1.fld hr_o0 skm_0 (k := 47) (by decide) (by decide)).trans m168
              have m182 := (hF1.fld hr_o0 skm_0 (k := 0) (by decide) (by decide)).trans m169
              have hF := hF.more hF1 (by decide)
              try dsimp only at hw177
              obtain ⟨h183, hi184, hi185⟩ := hw177
              refine lv_if_eq (tgt := 87) hx hb dX12_farm_76 (by decide) (fun c186 => ?_) (fun c186 => ?_)
              · have t187 : r176.toInt = 0 := ti_eq c186 rfl (by decide)
                have t188 : ¬ wL (nI i69).toNatClampNeg := hi185 c186
                refine lv_iconst (v := (-1)) hx hb dX12_farm_87 (by decide) ?_
                exact W.iret (v := (-1)) hx hb hr (fun t ht hW => ⟨⟨(-1), (u53, nf, aFr, aTo, vR), rfl, (by exact ⟨(rg_t (a := (-1)) (by decide) (by first | decide | omega) (by first | decide | omega)), (by have q0 : (0 : Int32).toInt = 0 := (by decide); have q1 : (1 : Int32).toInt = 1 := (by decide); have q2 : (2 : Int32).toInt = 2 := (by decide); have q3 : (3 : Int32).toInt = 3 := (by decide); have qm : (-1 : Int32).toInt = -1 := (by decide); first | exact Or.inr ⟨by have := faC_s p0.toInt p1.toInt; have q0 : (0 : Int32).toInt = 0 := (by decide); have q1 : (1 : Int32).toInt = 1 := (by decide); have q2 : (2 : Int32).toInt = 2 := (by decide); have q3 : (3 : Int32).toInt = 3 := (by decide); have qm : (-1 : Int32).toInt = -1 := (by decide); omega, by have q0 : (0 : Int32).toInt = 0 := (by decide); have q1 : (1 : Int32).toInt = 1 := (by decide); have q2 : (2 : Int32).toInt = 2 := (by decide); have q3 : (3 : Int32).toInt = 3 := (by decide); have qm : (-1 : Int32).toInt = -1 := (by decide); omega, Or.inr ⟨fm_g (fm_e (fmK_no (inR_1 (s := ((i69 : Nat) : Int)) (a := p0.toInt) (b := p1.toInt) (by have q9 : (nI i69).toInt = ((i69 : Nat) : Int) := nI_toInt (by omega); omega)) (Or.inr (fF_1 hF9 (by omega) (nI_toInt (by omega)) ((trivial).resolve_left (fun h8 => by have := h8.1; omega)).2)))) (by omega), by decide, by omega, rfl, rfl⟩⟩ | exact Or.inr ⟨by have := faC_s p0.toInt p1.toInt; have q0 : (0 : Int32).toInt = 0 := (by decide); have q1 : (1 : Int32).toInt = 1 := (by decide); have q2 : (2 : Int32).toInt = 2 := (by decide); have q3 : (3 : Int32).toInt = 3 := (by decide); have qm : (-1 : Int32).toInt = -1 := (by decide); omega, by have q0 : (0 : Int32).toInt = 0 := (by decide); have q1 : (1 : Int32).toInt = 1 := (by decide); have q2 : (2 : Int32).toInt = 2 := (by decide); have q3 : (3 : Int32).toInt = 3 := (by decide); have qm : (-1 : Int32).toInt = -1 := (by decide); omega, Or.inr ⟨fm_g (fm_e (fmK_no (inR_1 (s := ((i69 : Nat) : Int)) (a := p0.toInt) (b := p1.toInt) (by have q9 : (nI i69).toInt = ((i69 : Nat) : Int) := nI_toInt (by omega); omega)) (Or.inl (wdL_0 hL (by omega) (tn_nI (by omega)) (by assumption))))) (by omega), by decide, by omega, rfl, rfl⟩⟩ | exact Or.inl ⟨by have := faC_s p0.toInt p1.toInt; have q0 : (0 : Int32).toInt = 0 := (by decide); have q1 : (1 : Int32).toInt = 1 := (by decide); have q2 : (2 : Int32).toInt = 2 := (by decide); have q3 : (3 : Int32).toInt = 3 := (by decide); have qm : (-1 : Int32).toInt = -1 := (by decide); omega, by have q0 : (0 : Int32).toInt = 0 := (by decide); have q1 : (1 : Int32).toInt = 1 := (by decide); have q2 : (2 : Int32).toInt = 2 := (by decide); have q3 : (3 : Int32).toInt = 3 := (by decide); have qm : (-1 : Int32).toInt = -1 := (by decide); omega, by omega, rfl, rfl⟩ | exact Or.inr ⟨by have := faC_s p0.toInt p1.toInt; have q0 : (0 : Int32).toInt = 0 := (by decide); have q1 : (1 : Int32).toInt = 1 := (by decide); have q2 : (2 : Int32).toInt = 2 := (by decide); have q3 : (3 : Int32).toInt = 3 := (by decide); have qm : (-1 : Int32).toInt = -1 := (by decide); omega, by have q0 : (0 : Int32).toInt = 0 := (by decide); have q1 : (1 : Int32).toInt = 1 := (by decide); have q2 : (2 : Int32).toInt = 2 := (by decide); have q3 : (3 : Int32).toInt = 3 := (by decide); have qm : (-1 : Int32).toInt = -1 := (by decide); omega, Or.inr ⟨fm_b (by omega), by decide, by omega, rfl, rfl⟩⟩), (Or.inl ⟨by have q0 : (0 : Int32).toInt = 0 := (by decide); have q1 : (1 : Int32).toInt = 1 := (by decide); have q2 : (2 : Int32).toInt = 2 := (by decide); have q3 : (3 : Int32).toInt = 3 := (by decide); have qm : (-1 : Int32).toInt = -1 := (by decide); omega, rfl⟩)⟩), by (try dsimp only); rw [ht]; exact ⟨hT, hF, m182, m181, m178, m179, m180⟩⟩, hS.F ht⟩) hS.2.2 dX12_farm_88
              · have t189 : r176.toInt ≠ 0 := ti_ne c186 rfl (by decide)
                have t190 : wL (nI i69).toNatClampNeg := hi184 ((bit_of ⟨by omega, by omega⟩).resolve_left c186)
                refine lv_aload_n hx hb dX12_farm_79 rfl (lv_at hl 1 rfl) ?_
                refine lv_iload_n hx hb dX12_farm_80 rfl (lv_at hl 0 rfl) ?_
                have hFc := gA_free hG hA hS
                refine va_calli (va_runV (As := [.int (nI i69)]) (rest := []) ⟨hx, hb, hml, hown, hts⟩ (s_farmOfC l dC dI kA adK adV G H q wZ wN wH wB wC wL wK wU wV PI im PM PT lS lB lE lN o0 (nI i69) nf aFr aTo hT hr_o0 m181 (rg_t (a := ((i69 : Nat) : Int)) (nI_toInt (by omega)) (by omega) (by omega)) (by have q8 := ti_all nf; omega) hAB m178 m179 hgz hgn hgh hgb hgc hgi hgu) (cwV 1 hts (goodIn_app (goodIn_r _ [33, 34, 35, 6] rfl (by decide +kernel)) (goodIn_ca (goodIn_r _ [32, 13, 14, 15, 17, 18, 19, 20, 21, 22, 23, 24, 3, 4, 5, 6, 25, 26] rfl (by decide +kernel)) (bs_in _ _))) rfl rfl rfl (by decide +kernel) ⟨(Nat.le_of_ble_eq_true rfl), (Nat.le_of_ble_eq_true rfl)⟩) ⟨fun a U g mk q => by obtain ⟨q0, q1, qK, qE⟩ := q; exact ⟨q0, q1, va_K.moved (u := U) (U := U.calling g mk a) (Vm.Alike.refl U.vm) qK, EVS.blind g mk a qE⟩, gH_rc hK hT hr_o0 shm_0 rfl, fun U hU hW => ⟨rfl, hU, va_K.moved hW.alike hK, hE.call hS hFc hU hW⟩⟩ rfl rfl hl.1 rfl (lv_room (Nat.le_of_ble_eq_true rfl)) dX12_farm_81 ⟨(Nat.le_of_ble_eq_true rfl), (Nat.le_of_ble_eq_true rfl)⟩) hS (fun q _ h => hFc q h) hFc (fun r191 u t H locs ht hvm hw192 hB _ _ hS => ?_)
                obtain ⟨hT, hF1⟩ := hB
                rw [ht] at hT hF1
                have m193 := m178.kept (hF1.arr hg1 skm_44 (by decide))
                have m194 := m179.kept (hF1.arr hg2 skm_45 (by decide))
                have m195 := m180.kept (hF1.arr hg3 skm_47 (by decide))
                have m196 := (hF1.fld hr_o0 skm_0 (k := 47) (by decide) (by decide)).trans m181
                have m197 := (hF1.fld hr_o0 skm_0 (k := 0) (by decide) (by decide)).trans m182
                have hF := hF.more hF1 (by decide)
                try dsimp only at hw192
                obtain ⟨h198, hf199⟩ := hw192
                refine lv_if_lt (tgt := 89) hx hb dX12_farm_84 (by decide) (fun c200 => ?_) (fun c200 => ?_)
                · have t201 : r191.toInt < 0 := ti_lt c200 rfl (by decide)
                  refine lv_iinc (v := nI (i69 + 1)) (lv' := [(3, .int (nI (i69 + 1))), (0, .ref o0), (1, .int p0), (2, .int p1)]) hx hb dX12_farm_89 hl (k := 0) rfl (nI_add i69 1) (by decide) rfl (fun ls hl => ?_)
                  refine lv_goto (tgt := 56) hx hb dX12_farm_92 (by decide) ?_
                  exact ih118 (i69 + 1) (by omega) (by omega) (by have q0 : (0 : Int32).toInt = 0 := (by decide); have q1 : (1 : Int32).toInt = 1 := (by decide); have q2 : (2 : Int32).toInt = 2 := (by decide); have q3 : (3 : Int32).toInt = 3 := (by decide); have qm : (-1 : Int32).toInt = -1 := (by decide); first | exact fmK_out (inR_0 (s := ((i69 : Nat) : Int)) (a := p0.toInt) (b := p1.toInt) (by have q9 : (nI i69).toInt = ((i69 : Nat) : Int) := nI_toInt (by omega); omega)) hj75 | exact fmK_ok (wdL_1 hL (by omega) (tn_nI (by omega)) (by assumption)) (fF_0 hF9 (by omega) (nI_toInt (by omega)) ((hf199).resolve_right (fun h8 => by have := h8.1; omega)).2) hj75) _ _ hT hF hS m193 m194 m195 m196 m197 ls (lv_sub hl [0, 1, 2, 3] rfl)
                · have t202 : 0 ≤ r191.toInt := ti_nlt c200 rfl (by decide)
                  refine lv_iconst (v := (-1)) hx hb dX12_farm_87 (by decide) ?_
                  exact W.iret (v := (-1)) hx hb hr (fun t ht hW => ⟨⟨(-1), (u53, nf, aFr, aTo, vR), rfl, (by exact ⟨(rg_t (a := (-1)) (by decide) (by first | decide | omega) (by first | decide | omega)), (by have q0 : (0 : Int32).toInt = 0 := (by decide); have q1 : (1 : Int32).toInt = 1 := (by decide); have q2 : (2 : Int32).toInt = 2 := (by decide); have q3 : (3 : Int32).toInt = 3 := (by decide); have qm : (-1 : Int32).toInt = -1 := (by decide); first | exact Or.inr ⟨by have := faC_s p0.toInt p1.toInt; have q0 : (0 : Int32).toInt = 0 := (by decide); have q1 : (1 : Int32).toInt = 1 := (by decide); have q2 : (2 : Int32).toInt = 2 := (by decide); have q3 : (3 : Int32).toInt = 3 := (by decide); have qm : (-1 : Int32).toInt = -1 := (by decide); omega, by have q0 : (0 : Int32).toInt = 0 := (by decide); have q1 : (1 : Int32).toInt = 1 := (by decide); have q2 : (2 : Int32).toInt = 2 := (by decide); have q3 : (3 : Int32).toInt = 3 := (by decide); have qm : (-1 : Int32).toInt = -1 := (by decide); omega, Or.inr ⟨fm_g (fm_e (fmK_no (inR_1 (s := ((i69 : Nat) : Int)) (a := p0.toInt) (b := p1.toInt) (by have q9 : (nI i69).toInt = ((i69 : Nat) : Int) := nI_toInt (by omega); omega)) (Or.inr (fF_1 hF9 (by omega) (nI_toInt (by omega)) ((hf199).resolve_left (fun h8 => by have := h8.1; omega)).2)))) (by omega), by decide, by omega, rfl, rfl⟩⟩ | exact Or.inr ⟨by have := faC_s p0.toInt p1.toInt; have q0 : (0 : Int32).toInt = 0 := (by decide); have q1 : (1 : Int32).toInt = 1 := (by decide); have q2 : (2 : Int32).toInt = 2 := (by decide); have q3 : (3 : Int32).toInt = 3 := (by decide); have qm : (-1 : Int32).toInt = -1 := (by decide); omega, by have q0 : (0 : Int32).toInt = 0 := (by decide); have q1 : (1 : Int32).toInt = 1 := (by decide); have q2 : (2 : Int32).toInt = 2 := (by decide); have q3 : (3 : Int32).toInt = 3 := (by decide); have qm : (-1 : Int32).toInt = -1 := (by decide); omega, Or.inr ⟨fm_g (fm_e (fmK_no (inR_1 (s := ((i69 : Nat) : Int)) (a := p0.toInt) (b := p1.toInt) (by have q9 : (nI i69).toInt = ((i69 : Nat) : Int) := nI_toInt (by omega); omega)) (Or.inl (wdL_0 hL (by omega) (tn_nI (by omega)) (by assumption))))) (by omega), by decide, by omega, rfl, rfl⟩⟩ | exact Or.inl ⟨by have := faC_s p0.toInt p1.toInt; have q0 : (0 : Int32).toInt = 0 := (by decide); have q1 : (1 : Int32).toInt = 1 := (by decide); have q2 : (2 : Int32).toInt = 2 := (by decide); have q3 : (3 : Int32).toInt = 3 := (by decide); have qm : (-1 : Int32).toInt = -1 := (by decide); omega, by have q0 : (0 : Int32).toInt = 0 := (by decide); have q1 : (1 : Int32).toInt = 1 := (by decide); have q2 : (2 : Int32).toInt = 2 := (by decide); have q3 : (3 : Int32).toInt = 3 := (by decide); have qm : (-1 : Int32).toInt = -1 := (by decide); omega, by omega, rfl, rfl⟩ | exact Or.inr ⟨by have := faC_s p0.toInt p1.toInt; have q0 : (0 : Int32).toInt = 0 := (by decide); have q1 : (1 : Int32).toInt = 1 := (by decide); have q2 : (2 : Int32).toInt = 2 := (by decide); have q3 : (3 : Int32).toInt = 3 := (by decide); have qm : (-1 : Int32).toInt = -1 := (by decide); omega, by have q0 : (0 : Int32).toInt = 0 := (by decide); have q1 : (1 : Int32).toInt = 1 := (by decide); have q2 : (2 : Int32).toInt = 2 := (by decide); have q3 : (3 : Int32).toInt = 3 := (by decide); have qm : (-1 : Int32).toInt = -1 := (by decide); omega, Or.inr ⟨fm_b (by omega), by decide, by omega, rfl, rfl⟩⟩), (Or.inl ⟨by have q0 : (0 : Int32).toInt = 0 := (by decide); have q1 : (1 : Int32).toInt = 1 := (by decide); have q2 : (2 : Int32).toInt = 2 := (by decide); have q3 : (3 : Int32).toInt = 3 := (by decide); have qm : (-1 : Int32).toInt = -1 := (by decide); omega, rfl⟩)⟩), by (try dsimp only); rw [ht]; exact ⟨hT, hF, m197, m196, m193, m194, m195⟩⟩, hS.F ht⟩) hS.2.2 dX12_farm_88
        exact key118 (96 - 0) 0 (by omega) (Nat.le_refl _) rfl _ _ hT hF hS m56 m57 m58 m55 m54 ls (lv_sub hl [0, 1, 2, 3] rfl)
      · have t203 : nf.toInt = 30 := ti_eq c67 rfl (by decide)
        refine lv_aload_n hx hb dX12_farm_41 rfl (lv_at hl 0 rfl) ?_
        refine tw_getM (v := .int u53) hx hb hts bF_X12 hown hK hT hr_o0 shm_0 rfl 0 (by decide) (ht_at hts 0 rfl) (fun _ h9 => h9) m54 dX12_farm_42 ?_
        refine lv_if_eq (tgt := 52) hx hb dX12_farm_45 (by decide) (fun c204 => ?_) (fun c204 => ?_)
        · have t205 : u53.toInt = 0 := ti_eq c204 rfl (by decide)
          refine lv_iconst (v := (-1)) hx hb dX12_farm_52 (by decide) ?_
          exact W.iret (v := (-1)) hx hb hr (fun t ht hW => ⟨⟨(-1), (u53, nf, aFr, aTo, vR), rfl, (by exact ⟨(rg_t (a := (-1)) (by decide) (by first | decide | omega) (by first | decide | omega)), (by have q0 : (0 : Int32).toInt = 0 := (by decide); have q1 : (1 : Int32).toInt = 1 := (by decide); have q2 : (2 : Int32).toInt = 2 := (by decide); have q3 : (3 : Int32).toInt = 3 := (by decide); have qm : (-1 : Int32).toInt = -1 := (by decide); first | exact Or.inl ⟨by have := faC_s p0.toInt p1.toInt; have q0 : (0 : Int32).toInt = 0 := (by decide); have q1 : (1 : Int32).toInt = 1 := (by decide); have q2 : (2 : Int32).toInt = 2 := (by decide); have q3 : (3 : Int32).toInt = 3 := (by decide); have qm : (-1 : Int32).toInt = -1 := (by decide); omega, by have q0 : (0 : Int32).toInt = 0 := (by decide); have q1 : (1 : Int32).toInt = 1 := (by decide); have q2 : (2 : Int32).toInt = 2 := (by decide); have q3 : (3 : Int32).toInt = 3 := (by decide); have qm : (-1 : Int32).toInt = -1 := (by decide); omega, by omega, rfl, rfl⟩ | exact Or.inr ⟨by have := faC_s p0.toInt p1.toInt; have q0 : (0 : Int32).toInt = 0 := (by decide); have q1 : (1 : Int32).toInt = 1 := (by decide); have q2 : (2 : Int32).toInt = 2 := (by decide); have q3 : (3 : Int32).toInt = 3 := (by decide); have qm : (-1 : Int32).toInt = -1 := (by decide); omega, by have q0 : (0 : Int32).toInt = 0 := (by decide); have q1 : (1 : Int32).toInt = 1 := (by decide); have q2 : (2 : Int32).toInt = 2 := (by decide); have q3 : (3 : Int32).toInt = 3 := (by decide); have qm : (-1 : Int32).toInt = -1 := (by decide); omega, Or.inr ⟨fm_b (by omega), by decide, by omega, rfl, rfl⟩⟩), (Or.inl ⟨by have q0 : (0 : Int32).toInt = 0 := (by decide); have q1 : (1 : Int32).toInt = 1 := (by decide); have q2 : (2 : Int32).toInt = 2 := (by decide); have q3 : (3 : Int32).toInt = 3 := (by decide); have qm : (-1 : Int32).toInt = -1 := (by decide); omega, rfl⟩)⟩), by (try dsimp only); rw [ht]; exact ⟨hT, hF, m54, m55, m56, m57, m58⟩⟩, hS.F ht⟩) hS.2.2 dX12_farm_53
        · have t206 : u53.toInt ≠ 0 := ti_ne c204 rfl (by decide)
          refine lv_iconst (v := 0) hx hb dX12_farm_48 (by decide) ?_
          refine lv_goto (tgt := 53) hx hb dX12_farm_49 (by decide) ?_
          exact W.iret (v := 0) hx hb hr (fun t ht hW => ⟨⟨0, (u53, nf, aFr, aTo, vR), rfl, (by exact ⟨(rg_t (a := 0) (by decide) (by first | decide | omega) (by first | decide | omega)), (by have q0 : (0 : Int32).toInt = 0 := (by decide); have q1 : (1 : Int32).toInt = 1 := (by decide); have q2 : (2 : Int32).toInt = 2 := (by decide); have q3 : (3 : Int32).toInt = 3 := (by decide); have qm : (-1 : Int32).toInt = -1 := (by decide); first | exact Or.inl ⟨by have := faC_s p0.toInt p1.toInt; have q0 : (0 : Int32).toInt = 0 := (by decide); have q1 : (1 : Int32).toInt = 1 := (by decide); have q2 : (2 : Int32).toInt = 2 := (by decide); have q3 : (3 : Int32).toInt = 3 := (by decide); have qm : (-1 : Int32).toInt = -1 := (by decide); omega, by have q0 : (0 : Int32).toInt = 0 := (by decide); have q1 : (1 : Int32).toInt = 1 := (by decide); have q2 : (2 : Int32).toInt = 2 := (by decide); have q3 : (3 : Int32).toInt = 3 := (by decide); have qm : (-1 : Int32).toInt = -1 := (by decide); omega, by omega, rfl, rfl⟩ | exact Or.inr ⟨by have := faC_s p0.toInt p1.toInt; have q0 : (0 : Int32).toInt = 0 := (by decide); have q1 : (1 : Int32).toInt = 1 := (by decide); have q2 : (2 : Int32).toInt = 2 := (by decide); have q3 : (3 : Int32).toInt = 3 := (by decide); have qm : (-1 : Int32).toInt = -1 := (by decide); omega, by have q0 : (0 : Int32).toInt = 0 := (by decide); have q1 : (1 : Int32).toInt = 1 := (by decide); have q2 : (2 : Int32).toInt = 2 := (by decide); have q3 : (3 : Int32).toInt = 3 := (by decide); have qm : (-1 : Int32).toInt = -1 := (by decide); omega, Or.inr ⟨fm_b (by omega), by decide, by omega, rfl, rfl⟩⟩), (Or.inl ⟨by have q0 : (0 : Int32).toInt = 0 := (by decide); have q1 : (1 : Int32).toInt = 1 := (by decide); have q2 : (2 : Int32).toInt = 2 := (by decide); have q3 : (3 : Int32).toInt = 3 := (by decide); have qm : (-1 : Int32).toInt = -1 := (by decide); omega, rfl⟩)⟩), by (try dsimp only); rw [ht]; exact ⟨hT, hF, m54, m55, m56, m57, m58⟩⟩, hS.F ht⟩) hS.2.2 dX12_farm_53
    · have t207 : r40.toInt ≠ 0 := ti_ne c49 rfl (by decide)
      refine lv_iconst (v := 1) hx hb dX12_farm_20 (by decide) ?_
      refine lv_goto (tgt := 25) hx hb dX12_farm_21 (by decide) ?_
      refine lv_iconst (v := 1) hx hb dX12_farm_25 (by decide) ?_
      have hFc := gA_free hG hA hS
      refine va_calli (va_runV (As := [.int 1, .int 1]) (rest := []) ⟨hx, hb, hml, hown, hts⟩ (s_throwsIfP l dC dI kA adK adV G H q wZ wN wH wB wC wL wK wU wV PI im PM PT lS lB lE lN o0 1 1 0 hT hr_o0 m46 (rg_t (a := 1) (by decide) (by first | decide | omega) (by first | decide | omega)) hgz hgn hgh hgb hgc hgi hgu) (cwV 2 hts (goodIn_app (goodIn_r _ [10, 11, 12, 6] rfl (by decide +kernel)) (goodIn_ca (goodIn_r _ [9, 1] rfl (by decide +kernel)) (bs_in _ _))) rfl rfl rfl (by decide +kernel) ⟨(Nat.le_of_ble_eq_true rfl), (Nat.le_of_ble_eq_true rfl)⟩) ⟨fun a U g mk q => by obtain ⟨q0, q1, qK, qE⟩ := q; exact ⟨q0, q1, va_K.moved (u := U) (U := U.calling g mk a) (Vm.Alike.refl U.vm) qK, EVS.blind g mk a qE⟩, gH_rc hK hT hr_o0 shm_0 rfl, fun U hU hW => ⟨rfl, hU, va_K.moved hW.alike hK, hE.call hS hFc hU hW⟩⟩ rfl rfl hl.1 rfl (lv_room (Nat.le_of_ble_eq_true rfl)) dX12_farm_26 ⟨(Nat.le_of_ble_eq_true rfl), (Nat.le_of_ble_eq_true rfl)⟩) hS (fun q _ h => hFc q h) hFc (fun r208 u t H locs ht hvm hw209 hB _ _ hS => ?_)
      obtain ⟨u210, rfl⟩ : ∃ z, z = u := ⟨_, rfl⟩
      obtain ⟨hT, hF1, m211⟩ := hB
      rw [ht] at hT hF1 m211
      have m212 := (hF1.fld hr_o0 skm_0 (k := 47) (by decide) (by decide)).trans m42
      have m213 := m43.kept (hF1.arr hg1 skm_44 (by decide))
      have m214 := m44.kept (hF1.arr hg2 skm_45 (by decide))
      have m215 := m45.kept (hF1.arr hg3 skm_47 (by decide))
      have hF := hF.more hF1 (by decide)
      try dsimp only at hw209
      obtain ⟨h217, hf218, hd219⟩ := hw209
      have t220 : (1 : Int32).toInt = 1 := by decide
      have t221 : (1 : Int32).toInt = 1 := by decide
      have t222 : (0 : Int32).toInt = 0 := by decide
      obtain rfl : (1 : Int32) = r208 := hd219.symm
      refine lv_if_ne (tgt := 41) hx hb dX12_farm_29 (by decide) (fun c223 => ?_) (fun c223 => absurd c223 (by decide))
      refine lv_aload_n hx hb dX12_farm_41 rfl (lv_at hl 0 rfl) ?_
      refine tw_getM (v := .int u210) hx hb hts bF_X12 hown hK hT hr_o0 shm_0 rfl 0 (by decide) (ht_at hts 0 rfl) (fun _ h9 => h9) m211 dX12_farm_42 ?_
      refine lv_if_eq (tgt := 52) hx hb dX12_farm_45 (by decide) (fun c224 => ?_) (fun c224 => ?_)
      · have t225 : u210.toInt = 0 := ti_eq c224 rfl (by decide)
        refine lv_iconst (v := (-1)) hx hb dX12_farm_52 (by decide) ?_
        exact W.iret (v := (-1)) hx hb hr (fun t ht hW => ⟨⟨(-1), (u210, nf, aFr, aTo, vR), rfl, (by exact ⟨(rg_t (a := (-1)) (by decide) (by first | decide | omega) (by first | decide | omega)), (by have q0 : (0 : Int32).toInt = 0 := (by decide); have q1 : (1 : Int32).toInt = 1 := (by decide); have q2 : (2 : Int32).toInt = 2 := (by decide); have q3 : (3 : Int32).toInt = 3 := (by decide); have qm : (-1 : Int32).toInt = -1 := (by decide); first | exact Or.inl ⟨by have := faC_s p0.toInt p1.toInt; have q0 : (0 : Int32).toInt = 0 := (by decide); have q1 : (1 : Int32).toInt = 1 := (by decide); have q2 : (2 : Int32).toInt = 2 := (by decide); have q3 : (3 : Int32).toInt = 3 := (by decide); have qm : (-1 : Int32).toInt = -1 := (by decide); omega, by have q0 : (0 : Int32).toInt = 0 := (by decide); have q1 : (1 : Int32).toInt = 1 := (by decide); have q2 : (2 : Int32).toInt = 2 := (by decide); have q3 : (3 : Int32).toInt = 3 := (by decide); have qm : (-1 : Int32).toInt = -1 := (by decide); omega, by omega, rfl, rfl⟩ | exact Or.inr ⟨by have := faC_s p0.toInt p1.toInt; have q0 : (0 : Int32).toInt = 0 := (by decide); have q1 : (1 : Int32).toInt = 1 := (by decide); have q2 : (2 : Int32).toInt = 2 := (by decide); have q3 : (3 : Int32).toInt = 3 := (by decide); have qm : (-1 : Int32).toInt = -1 := (by decide); omega, by have q0 : (0 : Int32).toInt = 0 := (by decide); have q1 : (1 : Int32).toInt = 1 := (by decide); have q2 : (2 : Int32).toInt = 2 := (by decide); have q3 : (3 : Int32).toInt = 3 := (by decide); have qm : (-1 : Int32).toInt = -1 := (by decide); omega, Or.inr ⟨fm_b (by omega), by decide, by omega, rfl, rfl⟩⟩), (Or.inl ⟨by have q0 : (0 : Int32).toInt = 0 := (by decide); have q1 : (1 : Int32).toInt = 1 := (by decide); have q2 : (2 : Int32).toInt = 2 := (by decide); have q3 : (3 : Int32).toInt = 3 := (by decide); have qm : (-1 : Int32).toInt = -1 := (by decide); omega, rfl⟩)⟩), by (try dsimp only); rw [ht]; exact ⟨hT, hF, m211, m212, m213, m214, m215⟩⟩, hS.F ht⟩) hS.2.2 dX12_farm_53
      · have t226 : u210.toInt ≠ 0 := ti_ne c224 rfl (by decide)
        refine lv_iconst (v := 0) hx hb dX12_farm_48 (by decide) ?_
        refine lv_goto (tgt := 53) hx hb dX12_farm_49 (by decide) ?_
        exact W.iret (v := 0) hx hb hr (fun t ht hW => ⟨⟨0, (u210, nf, aFr, aTo, vR), rfl, (by exact ⟨(rg_t (a := 0) (by decide) (by first | decide | omega) (by first | decide | omega)), (by have q0 : (0 : Int32).toInt = 0 := (by decide); have q1 : (1 : Int32).toInt = 1 := (by decide); have q2 : (2 : Int32).toInt = 2 := (by decide); have q3 : (3 : Int32).toInt = 3 := (by decide); have qm : (-1 : Int32).toInt = -1 := (by decide); first | exact Or.inl ⟨by have := faC_s p0.toInt p1.toInt; have q0 : (0 : Int32).toInt = 0 := (by decide); have q1 : (1 : Int32).toInt = 1 := (by decide); have q2 : (2 : Int32).toInt = 2 := (by decide); have q3 : (3 : Int32).toInt = 3 := (by decide); have qm : (-1 : Int32).toInt = -1 := (by decide); omega, by have q0 : (0 : Int32).toInt = 0 := (by decide); have q1 : (1 : Int32).toInt = 1 := (by decide); have q2 : (2 : Int32).toInt = 2 := (by decide); have q3 : (3 : Int32).toInt = 3 := (by decide); have qm : (-1 : Int32).toInt = -1 := (by decide); omega, by omega, rfl, rfl⟩ | exact Or.inr ⟨by have := faC_s p0.toInt p1.toInt; have q0 : (0 : Int32).toInt = 0 := (by decide); have q1 : (1 : Int32).toInt = 1 := (by decide); have q2 : (2 : Int32).toInt = 2 := (by decide); have q3 : (3 : Int32).toInt = 3 := (by decide); have qm : (-1 : Int32).toInt = -1 := (by decide); omega, by have q0 : (0 : Int32).toInt = 0 := (by decide); have q1 : (1 : Int32).toInt = 1 := (by decide); have q2 : (2 : Int32).toInt = 2 := (by decide); have q3 : (3 : Int32).toInt = 3 := (by decide); have qm : (-1 : Int32).toInt = -1 := (by decide); omega, Or.inr ⟨fm_b (by omega), by decide, by omega, rfl, rfl⟩⟩), (Or.inl ⟨by have q0 : (0 : Int32).toInt = 0 := (by decide); have q1 : (1 : Int32).toInt = 1 := (by decide); have q2 : (2 : Int32).toInt = 2 := (by decide); have q3 : (3 : Int32).toInt = 3 := (by decide); have qm : (-1 : Int32).toInt = -1 := (by decide); omega, rfl⟩)⟩), by (try dsimp only); rw [ht]; exact ⟨hT, hF, m211, m212, m213, m214, m215⟩⟩, hS.F ht⟩) hS.2.2 dX12_farm_53
def w_s_noFarmE : List Cond := .code yX12_noFarm cX12_noFarm 2 (some .boolean) :: (HAppend.hAppend (α := List Cond) (β := List Cond) (γ := List Cond) [.fieldLink RX12 498 "SeaLandModel" "farms" "I", .code yX12_in cX12_in 3 (some .boolean), .methodLink RX12 197 yX12_in, .static yX12_in, .initialized RX12] bs)
set_option maxHeartbeats 4000000 in
set_option maxRecDepth 100000 in
theorem s_noFarmE (l : Launch) (dC : Nat → ClassId) (dI : Nat → Nat → Nat) (kA : Nat → ClassId) (adK adV : Nat → Nat) (G : gT) (H0 : Heap) (q : Nat → Nat) (wZ wN : Nat → Int) (wH wB wC : Int) (wL wK : Nat → Prop) (wU wV : Nat → Nat) (PI : Nat → Int → Prop) (im : Int) (PM PT : Nat → Int → Prop) (lS lB lE : Nat → Nat → Int → Prop) (lN : Nat → Int) (o0 : Nat) (w : Int32) (nf : Int32)  (hT : gH (dC, dI) kA (SHm q (wP wZ wN wH wB wC wL wK wU wV) PI im PM PT lS lB lE lN) G H0) (hr_o0 : G o0 = some 0) (hm_nf : el H0 o0 (dI 15 47) = some (.int nf)) (hq0 : 0 ≤ nf.toInt ∧ nf.toInt ≤ 30) (hgz : ∀ i, 0 ≤ wZ i) (hgn : ∀ i, 6500000 ≤ wN i ∧ wN i ≤ 20200000) (hgh : 0 ≤ wH ∧ wH ≤ 40000) (hgb : 0 ≤ wB ∧ wB ≤ 3850000) (hgc : 0 ≤ wC ∧ wC ≤ 30) (hgi : 0 ≤ im ∧ im ≤ 1) (hgu : ∀ a t, G a = some (t + 1) → a = q t) : Met l yX12_noFarm w_s_noFarmE ({ frames := 1, cells := 0, slots := 0, locals := 22 }) (va_Pc [.ref o0, .int w] (fun U => U.heap = H0 ∧ va_K (dC, dI) vwCl (tyl kA) U ∧ EVS adK adV (gA G H0.size) U U.heap)) (va_Qi (fun (r : Int32) (u : Unit) => (0 ≤ r.toInt ∧ r.toInt ≤ 1) ∧ ((r.toInt = 0 ∧ (0 ≤ w.toInt ∧ w.toInt < nf.toInt)) ∨ (r.toInt = 1 ∧ ¬ (0 ≤ w.toInt ∧ w.toInt < nf.toInt)))) (fun (_ : Unit) (t : State) => gH (dC, dI) kA (SHm q (wP wZ wN wH wB wC wL wK wU wV) PI im PM PT lS lB lE lN) G t.heap ∧ gF (dC, dI) SKm G ([] : List (Nat × Nat)) H0 t.heap) (gA G H0.size)) 0 0 (gA G H0.size) := by
  refine Met.ofW (cc := cX12_noFarm) (maxL := 2) (ret := (some .boolean)) (by decide) rfl ?_
  intro p e s m args below meth c s₁ B hml hv
  obtain ⟨rfl, hH0, hK, hE⟩ := hv
  have hx := B.exec
  have hb := B.bytes
  have hr := B.returns
  have hts := atoms_spec (ws := w_s_noFarmE) B.pre
  have hown : s.vm.findClass RX12 = some m.cls := findClass_of_methodNamed B.named
  have hlocks := B.notSynchronized
  subst hH0
  generalize hAe : gA G s.heap.size = A at hE ⊢
  have hA : ∀ q : Nat, s.heap.size ≤ q → A q := fun q h => by rw [← hAe]; exact Or.inr h
  have hG := gA_of hAe
  have hS : va_S A s.heap s.heap [] := va_S.rf
  have hF : gF (dC, dI) SKm G ([] : List (Nat × Nat)) s.heap s.heap := gF.rf
  have hl := lv_entry ([.ref o0, .int w]) (n := 2) (Nat.le_of_ble_eq_true rfl)
  rw [lg_entry_eq]
  generalize (lg_sl ([.ref o0, .int w]) ++ List.replicate (2 - (lg_sl ([.ref o0, .int w])).length) Slot.unset).toArray = ls at hl ⊢
  have hl : lv_has ls 2 [(0, .ref o0), (1, .int w)] := hl
  refine lv_iload_n hx hb dX12_noFarm_0 rfl (lv_at hl 1 rfl) ?_
  refine lv_iconst (v := 0) hx hb dX12_noFarm_1 (by decide) ?_
  refine lv_aload_n hx hb dX12_noFarm_2 rfl (lv_at hl 0 rfl) ?_
  refine tw_getM (v := .int nf) hx hb hts bF_X12 hown hK hT hr_o0 shm_0 rfl 47 (by decide) (ht_at hts 0 rfl) (fun _ h9 => h9) hm_nf dX12_noFarm_3 ?_
  refine lv_iconst (v := 1) hx hb dX12_noFarm_6 (by decide) ?_
  refine lv_isub hx hb dX12_noFarm_7 ?_
  refine lv_topi (fun x1 ex1 => ?_)
  have t2 : x1.toInt = nf.toInt - 1 := ti_sub ex1 rfl (by decide) (by omega) (by omega)
  have hFc := gA_free hG hA hS
  refine va_calli (va_runS (As := [.int w, .int 0, .int x1]) (rest := []) ⟨hx, hb, hml, hown, hts⟩ (s_in l dC dI kA adK adV G s.heap q wZ wN wH wB wC wL wK wU wV PI im PM PT lS lB lE lN w 0 x1 hT hgz hgn hgh hgb hgc hgi hgu) (va_cwS 3 hts (goodIn_app (goodIn_r _ [3, 4, 5] rfl (by decide +kernel)) (goodIn_ca (goodIn_r _ [2] rfl (by decide +kernel)) (bs_in _ _))) rfl rfl rfl (by decide +kernel) ⟨(Nat.le_of_ble_eq_true rfl), (Nat.le_of_ble_eq_true rfl)⟩) ⟨fun a U g mk q => by obtain ⟨q0, q1, qK, qE⟩ := q; exact ⟨q0, q1, va_K.moved (u := U) (U := U.calling g mk a) (Vm.Alike.refl U.vm) qK, EVS.blind g mk a qE⟩, fun U hU hW => ⟨rfl, hU, va_K.moved hW.alike hK, hE.call hS hFc hU hW⟩⟩ rfl rfl hl.1 rfl (lv_room (Nat.le_of_ble_eq_true rfl)) dX12_noFarm_8 ⟨(Nat.le_of_ble_eq_true rfl), (Nat.le_of_ble_eq_true rfl)⟩) hS (fun q _ h => hFc q h) hFc (fun r3 u t H locs ht hvm hw4 hB _ _ hS => ?_)
  obtain ⟨hT, hF1⟩ := hB
  rw [ht] at hT hF1
  have hF := hF.more hF1 (by decide)
  try dsimp only at hw4
  obtain ⟨h6, hi7, hi8⟩ := hw4
  refine lv_if_ne (tgt := 18) hx hb dX12_noFarm_11 (by decide) (fun c9 => ?_) (fun c9 => ?_)
  · have t10 : r3.toInt ≠ 0 := ti_ne c9 rfl (by decide)
    have t11 : (0 : Int32).toInt = 0 := by decide
    have t12 : (0 : Int32).toInt ≤ w.toInt ∧ w.toInt ≤ x1.toInt := hi7 ((bit_of ⟨by omega, by omega⟩).resolve_left c9)
    refine lv_iconst (v := 0) hx hb dX12_noFarm_18 (by decide) ?_
    exact W.zret (v := 0) hx hb hr (by decide) (fun t ht hW => ⟨⟨0, (), rfl, (by exact ⟨(rg_t (a := 0) (by decide) (by first | decide | omega) (by first | decide | omega)), (by have : (0 : Int32).toInt = 0 := (by decide); omega)⟩), by (try dsimp only); rw [ht]; exact ⟨hT, hF⟩⟩, hS.F ht⟩) hS.2.2 dX12_noFarm_19
  · have t13 : r3.toInt = 0 := ti_eq c9 rfl (by decide)
    have t14 : (0 : Int32).toInt = 0 := by decide
    have t15 : w.toInt < (0 : Int32).toInt ∨ x1.toInt < w.toInt := hi8 c9
    refine lv_iconst (v := 1) hx hb dX12_noFarm_14 (by decide) ?_
    refine lv_goto (tgt := 19) hx hb dX12_noFarm_15 (by decide) ?_
    exact W.zret (v := 1) hx hb hr (by decide) (fun t ht hW => ⟨⟨1, (), rfl, (by exact ⟨(rg_t (a := 1) (by decide) (by first | decide | omega) (by first | decide | omega)), (by have : (1 : Int32).toInt = 1 := (by decide); omega)⟩), by (try dsimp only); rw [ht]; exact ⟨hT, hF⟩⟩, hS.F ht⟩) hS.2.2 dX12_noFarm_19
def w_s_sowC : List Cond := .code yX12_sow cX12_sow 4 (some .boolean) :: (HAppend.hAppend (α := List Cond) (β := List Cond) (γ := List Cond) [.fieldLink RX12 194 "SeaLandModel" "thrown" "I", .code yX12_noFarm cX12_noFarm 2 (some .boolean), .fieldLink RX12 498 "SeaLandModel" "farms" "I", .code yX12_in cX12_in 3 (some .boolean), .methodLink RX12 197 yX12_in, .static yX12_in, .initialized RX12, .methodLink RX12 502 yX12_noFarm, .instanceMethod yX12_noFarm, .selects RX12 yX12_noFarm yX12_noFarm, .code yX12_throwsIf cX12_throwsIf 3 (some .boolean), .methodLink RX12 224 yX12_throwsIf, .instanceMethod yX12_throwsIf, .selects RX12 yX12_throwsIf yX12_throwsIf, .fieldLink RX12 119 "SeaLandModel" "crop" "[I"] bs)
