set_option maxHeartbeats 4000000 in
set_option maxRecDepth 100000 in
theorem s_sowC (l : Launch) (dC : Nat → ClassId) (dI : Nat → Nat → Nat) (kA : Nat → ClassId) (adK adV : Nat → Nat) (G : gT) (H0 : Heap) (q : Nat → Nat) (wZ wN : Nat → Int) (wH wB wC : Int) (wL wK : Nat → Prop) (wU wV : Nat → Nat) (PI : Nat → Int → Prop) (im : Int) (PM PT : Nat → Int → Prop) (lS lB lE : Nat → Nat → Int → Prop) (lN : Nat → Int) (o0 : Nat) (p0 : Int32) (p1 : Int32) (nf : Int32) (aCr : Nat → Int32)  (hT : gH (dC, dI) kA (SHm q (wP wZ wN wH wB wC wL wK wU wV) PI im PM PT lS lB lE lN) G H0) (hr_o0 : G o0 = some 0) (hm_nf : el H0 o0 (dI 15 47) = some (.int nf)) (hq0 : 0 ≤ nf.toInt ∧ nf.toInt ≤ 30) (hc_aCr : ct H0 (q 45) 30 aCr) (hgz : ∀ i, 0 ≤ wZ i) (hgn : ∀ i, 6500000 ≤ wN i ∧ wN i ≤ 20200000) (hgh : 0 ≤ wH ∧ wH ≤ 40000) (hgb : 0 ≤ wB ∧ wB ≤ 3850000) (hgc : 0 ≤ wC ∧ wC ≤ 30) (hgi : 0 ≤ im ∧ im ≤ 1) (hgu : ∀ a t, G a = some (t + 1) → a = q t) : Met l yX12_sow w_s_sowC ({ frames := 2, cells := 0, slots := 0, locals := 43 }) (va_Pc [.ref o0, .int p0, .int p1] (fun U => U.heap = H0 ∧ va_K (dC, dI) vwCl (tyl kA) U ∧ EVS adK adV (gA G H0.size) U U.heap)) (va_Qi (fun (r : Int32) (u : Int32 × (Nat → Int32)) => match u with | (t1, aCr1) => (0 ≤ r.toInt ∧ r.toInt ≤ 1) ∧ ((soC nf.toInt p0.toInt p1.toInt = 0 ∧ t1.toInt = 0 ∧ ((r.toInt = 0 ∧ (aCr p0.toNatClampNeg).toInt = p1.toInt) ∨ (r.toInt = 1 ∧ (aCr p0.toNatClampNeg).toInt ≠ p1.toInt)) ∧ aCr1 = cu aCr p0.toNatClampNeg p1) ∨ (soC nf.toInt p0.toInt p1.toInt ≠ 0 ∧ t1.toInt = soC nf.toInt p0.toInt p1.toInt ∧ aCr1 = aCr))) (fun (u : Int32 × (Nat → Int32)) (t : State) => match u with | (t1, aCr1) => gH (dC, dI) kA (SHm q (wP wZ wN wH wB wC wL wK wU wV) PI im PM PT lS lB lE lN) G t.heap ∧ gF (dC, dI) SKm G ([(0, 0), (46, 0)] : List (Nat × Nat)) H0 t.heap ∧ el t.heap o0 (dI 15 0) = some (.int t1) ∧ ct t.heap (q 45) 30 aCr1) (gA G H0.size)) 0 0 (gA G H0.size) := by
  refine Met.ofW (cc := cX12_sow) (maxL := 4) (ret := (some .boolean)) (by decide) rfl ?_
  intro p e s m args below meth c s₁ B hml hv
  obtain ⟨rfl, hH0, hK, hE⟩ := hv
  have hx := B.exec
  have hb := B.bytes
  have hr := B.returns
  have hts := atoms_spec (ws := w_s_sowC) B.pre
  have hown : s.vm.findClass RX12 = some m.cls := findClass_of_methodNamed B.named
  have hlocks := B.notSynchronized
  subst hH0
  generalize hAe : gA G s.heap.size = A at hE ⊢
  have hA : ∀ q : Nat, s.heap.size ≤ q → A q := fun q h => by rw [← hAe]; exact Or.inr h
  have hG := gA_of hAe
  have hS : va_S A s.heap s.heap [] := va_S.rf
  have hF : gF (dC, dI) SKm G ([(0, 0), (46, 0)] : List (Nat × Nat)) s.heap s.heap := gF.rf
  have hl := lv_entry ([.ref o0, .int p0, .int p1]) (n := 4) (Nat.le_of_ble_eq_true rfl)
  rw [lg_entry_eq]
  generalize (lg_sl ([.ref o0, .int p0, .int p1]) ++ List.replicate (4 - (lg_sl ([.ref o0, .int p0, .int p1])).length) Slot.unset).toArray = ls at hl ⊢
  have hl : lv_has ls 4 [(0, .ref o0), (1, .int p0), (2, .int p1)] := hl
  have hg1 : G (q 45) = some 46 := gx_of hT hr_o0 shm_0 (k := 45) (by decide) rfl
  refine lv_aload_n hx hb dX12_sow_0 rfl (lv_at hl 0 rfl) ?_
  refine lv_iconst (v := 0) hx hb dX12_sow_1 (by decide) ?_
  refine tw_put (v := .int 0) (ty := .int) hx hb hts bF_X12 tyX12 tyX12_ok nmX12 hown hK hT hG hS hr_o0 shm_0 rfl 0 (by decide) (ht_at hts 0 rfl) (fun _ h9 => h9) rfl (by decide +kernel) rfl rfl (gl_at rfl (gi_all _)) dX12_sow_2 (fun H locs hT oq m2 oj hS => ?_)
  have hF := hF.put hr_o0 skm_0 oq oj (by decide)
  have m3 := (oj 47 (by decide) (by decide)).trans hm_nf
  have m4 := hc_aCr.kept (oq _ (gne hg1 hr_o0 (by decide)))
  refine lv_aload_n hx hb dX12_sow_5 rfl (lv_at hl 0 rfl) ?_
  refine lv_aload_n hx hb dX12_sow_6 rfl (lv_at hl 0 rfl) ?_
  refine lv_iload_n hx hb dX12_sow_7 rfl (lv_at hl 1 rfl) ?_
  have hFc := gA_free hG hA hS
  refine va_calli (va_runV (As := [.int p0]) (rest := [.ref o0]) ⟨hx, hb, hml, hown, hts⟩ (s_noFarmE l dC dI kA adK adV G H q wZ wN wH wB wC wL wK wU wV PI im PM PT lS lB lE lN o0 p0 nf hT hr_o0 m3 (by have q8 := ti_all nf; omega) hgz hgn hgh hgb hgc hgi hgu) (cwV 1 hts (goodIn_app (goodIn_r _ [8, 9, 10, 7] rfl (by decide +kernel)) (goodIn_ca (goodIn_r _ [2, 3, 4, 5, 6, 7] rfl (by decide +kernel)) (bs_in _ _))) rfl rfl rfl (by decide +kernel) ⟨(Nat.le_of_ble_eq_true rfl), (Nat.le_of_ble_eq_true rfl)⟩) ⟨fun a U g mk q => by obtain ⟨q0, q1, qK, qE⟩ := q; exact ⟨q0, q1, va_K.moved (u := U) (U := U.calling g mk a) (Vm.Alike.refl U.vm) qK, EVS.blind g mk a qE⟩, gH_rc hK hT hr_o0 shm_0 rfl, fun U hU hW => ⟨rfl, hU, va_K.moved hW.alike hK, hE.call hS hFc hU hW⟩⟩ rfl rfl hl.1 rfl (lv_room (Nat.le_of_ble_eq_true rfl)) dX12_sow_8 ⟨(Nat.le_of_ble_eq_true rfl), (Nat.le_of_ble_eq_true rfl)⟩) hS (fun q _ h => hFc q h) hFc (fun r5 u t H locs ht hvm hw6 hB _ _ hS => ?_)
  obtain ⟨hT, hF1⟩ := hB
  rw [ht] at hT hF1
  have m8 := m4.kept (hF1.arr hg1 skm_46 (by decide))
  have m9 := (hF1.fld hr_o0 skm_0 (k := 0) (by decide) (by decide)).trans m2
  have hF := hF.more hF1 (by decide)
  try dsimp only at hw6
  obtain ⟨h10, hf11⟩ := hw6
  refine lv_iconst (v := 1) hx hb dX12_sow_11 (by decide) ?_
  have hFc := gA_free hG hA hS
  refine va_calli (va_runV (As := [.int r5, .int 1]) (rest := []) ⟨hx, hb, hml, hown, hts⟩ (s_throwsIfP l dC dI kA adK adV G H q wZ wN wH wB wC wL wK wU wV PI im PM PT lS lB lE lN o0 r5 1 0 hT hr_o0 m9 (by have q8 := ti_all r5; omega) hgz hgn hgh hgb hgc hgi hgu) (cwV 2 hts (goodIn_app (goodIn_r _ [12, 13, 14, 7] rfl (by decide +kernel)) (goodIn_ca (goodIn_r _ [11, 1] rfl (by decide +kernel)) (bs_in _ _))) rfl rfl rfl (by decide +kernel) ⟨(Nat.le_of_ble_eq_true rfl), (Nat.le_of_ble_eq_true rfl)⟩) ⟨fun a U g mk q => by obtain ⟨q0, q1, qK, qE⟩ := q; exact ⟨q0, q1, va_K.moved (u := U) (U := U.calling g mk a) (Vm.Alike.refl U.vm) qK, EVS.blind g mk a qE⟩, gH_rc hK hT hr_o0 shm_0 rfl, fun U hU hW => ⟨rfl, hU, va_K.moved hW.alike hK, hE.call hS hFc hU hW⟩⟩ rfl rfl hl.1 rfl (lv_room (Nat.le_of_ble_eq_true rfl)) dX12_sow_12 ⟨(Nat.le_of_ble_eq_true rfl), (Nat.le_of_ble_eq_true rfl)⟩) hS (fun q _ h => hFc q h) hFc (fun r12 u t H locs ht hvm hw13 hB _ _ hS => ?_)
  obtain ⟨u14, rfl⟩ : ∃ z, z = u := ⟨_, rfl⟩
  obtain ⟨hT, hF1, m15⟩ := hB
  rw [ht] at hT hF1 m15
  have m17 := m8.kept (hF1.arr hg1 skm_46 (by decide))
  have hF := hF.more hF1 (by decide)
  try dsimp only at hw13
  obtain ⟨h19, hf20, hd21⟩ := hw13
  have t22 : (1 : Int32).toInt = 1 := by decide
  have t23 : (0 : Int32).toInt = 0 := by decide
  obtain rfl : r5 = r12 := hd21.symm
  refine lv_if_ne (tgt := 40) hx hb dX12_sow_15 (by decide) (fun c24 => ?_) (fun c24 => ?_)
  · have t25 : r5.toInt ≠ 0 := ti_ne c24 rfl (by decide)
    refine lv_iconst (v := 0) hx hb dX12_sow_40 (by decide) ?_
    exact W.zret (v := 0) hx hb hr (by decide) (fun t ht hW => ⟨⟨0, (u14, aCr), rfl, (by exact ⟨(rg_t (a := 0) (by decide) (by first | decide | omega) (by first | decide | omega)), (Or.inr ⟨by have := soC_s nf.toInt p0.toInt p1.toInt; have q0 : (0 : Int32).toInt = 0 := (by decide); have q1 : (1 : Int32).toInt = 1 := (by decide); have q2 : (2 : Int32).toInt = 2 := (by decide); have q3 : (3 : Int32).toInt = 3 := (by decide); have qm : (-1 : Int32).toInt = -1 := (by decide); omega, by have := soC_s nf.toInt p0.toInt p1.toInt; have q0 : (0 : Int32).toInt = 0 := (by decide); have q1 : (1 : Int32).toInt = 1 := (by decide); have q2 : (2 : Int32).toInt = 2 := (by decide); have q3 : (3 : Int32).toInt = 3 := (by decide); have qm : (-1 : Int32).toInt = -1 := (by decide); omega, rfl⟩)⟩), by (try dsimp only); rw [ht]; exact ⟨hT, hF, m15, m17⟩⟩, hS.F ht⟩) hS.2.2 dX12_sow_41
  · have t26 : r5.toInt = 0 := ti_eq c24 rfl (by decide)
    refine lv_aload_n hx hb dX12_sow_18 rfl (lv_at hl 0 rfl) ?_
    refine lv_iload_n hx hb dX12_sow_19 rfl (lv_at hl 2 rfl) ?_
    refine lv_iconst (v := 0) hx hb dX12_sow_20 (by decide) ?_
    refine lv_iconst (v := 3) hx hb dX12_sow_21 (by decide) ?_
    have hFc := gA_free hG hA hS
    refine va_calli (va_runS (As := [.int p1, .int 0, .int 3]) (rest := [.ref o0]) ⟨hx, hb, hml, hown, hts⟩ (s_in l dC dI kA adK adV G H q wZ wN wH wB wC wL wK wU wV PI im PM PT lS lB lE lN p1 0 3 hT hgz hgn hgh hgb hgc hgi hgu) (va_cwS 3 hts (goodIn_app (goodIn_r _ [5, 6, 7] rfl (by decide +kernel)) (goodIn_ca (goodIn_r _ [4] rfl (by decide +kernel)) (bs_in _ _))) rfl rfl rfl (by decide +kernel) ⟨(Nat.le_of_ble_eq_true rfl), (Nat.le_of_ble_eq_true rfl)⟩) ⟨fun a U g mk q => by obtain ⟨q0, q1, qK, qE⟩ := q; exact ⟨q0, q1, va_K.moved (u := U) (U := U.calling g mk a) (Vm.Alike.refl U.vm) qK, EVS.blind g mk a qE⟩, fun U hU hW => ⟨rfl, hU, va_K.moved hW.alike hK, hE.call hS hFc hU hW⟩⟩ rfl rfl hl.1 rfl (lv_room (Nat.le_of_ble_eq_true rfl)) dX12_sow_22 ⟨(Nat.le_of_ble_eq_true rfl), (Nat.le_of_ble_eq_true rfl)⟩) hS (fun q _ h => hFc q h) hFc (fun r27 u t H locs ht hvm hw28 hB _ _ hS => ?_)
    obtain ⟨hT, hF1⟩ := hB
    rw [ht] at hT hF1
    have m30 := m17.kept (hF1.arr hg1 skm_46 (by decide))
    have m31 := (hF1.fld hr_o0 skm_0 (k := 0) (by decide) (by decide)).trans m15
    have hF := hF.more hF1 (by decide)
    try dsimp only at hw28
    obtain ⟨h32, hi33, hi34⟩ := hw28
    refine lv_if_ne (tgt := 32) hx hb dX12_sow_25 (by decide) (fun c35 => ?_) (fun c35 => ?_)
    · have t36 : r27.toInt ≠ 0 := ti_ne c35 rfl (by decide)
      have t37 : (0 : Int32).toInt = 0 := by decide
      have t38 : (3 : Int32).toInt = 3 := by decide
      have t39 : (0 : Int32).toInt ≤ p1.toInt ∧ p1.toInt ≤ (3 : Int32).toInt := hi33 ((bit_of ⟨by omega, by omega⟩).resolve_left c35)
      refine lv_iconst (v := 0) hx hb dX12_sow_32 (by decide) ?_
      refine lv_iconst (v := 2) hx hb dX12_sow_33 (by decide) ?_
      have hFc := gA_free hG hA hS
      refine va_calli (va_runV (As := [.int 0, .int 2]) (rest := []) ⟨hx, hb, hml, hown, hts⟩ (s_throwsIfP l dC dI kA adK adV G H q wZ wN wH wB wC wL wK wU wV PI im PM PT lS lB lE lN o0 0 2 u14 hT hr_o0 m31 (rg_t (a := 0) (by decide) (by first | decide | omega) (by first | decide | omega)) hgz hgn hgh hgb hgc hgi hgu) (cwV 2 hts (goodIn_app (goodIn_r _ [12, 13, 14, 7] rfl (by decide +kernel)) (goodIn_ca (goodIn_r _ [11, 1] rfl (by decide +kernel)) (bs_in _ _))) rfl rfl rfl (by decide +kernel) ⟨(Nat.le_of_ble_eq_true rfl), (Nat.le_of_ble_eq_true rfl)⟩) ⟨fun a U g mk q => by obtain ⟨q0, q1, qK, qE⟩ := q; exact ⟨q0, q1, va_K.moved (u := U) (U := U.calling g mk a) (Vm.Alike.refl U.vm) qK, EVS.blind g mk a qE⟩, gH_rc hK hT hr_o0 shm_0 rfl, fun U hU hW => ⟨rfl, hU, va_K.moved hW.alike hK, hE.call hS hFc hU hW⟩⟩ rfl rfl hl.1 rfl (lv_room (Nat.le_of_ble_eq_true rfl)) dX12_sow_34 ⟨(Nat.le_of_ble_eq_true rfl), (Nat.le_of_ble_eq_true rfl)⟩) hS (fun q _ h => hFc q h) hFc (fun r40 u t H locs ht hvm hw41 hB _ _ hS => ?_)
      obtain ⟨u42, rfl⟩ : ∃ z, z = u := ⟨_, rfl⟩
      obtain ⟨hT, hF1, m43⟩ := hB
      rw [ht] at hT hF1 m43
      have m45 := m30.kept (hF1.arr hg1 skm_46 (by decide))
      have hF := hF.more hF1 (by decide)
      try dsimp only at hw41
      obtain ⟨h47, hf48, hd49⟩ := hw41
      have t50 : (0 : Int32).toInt = 0 := by decide
      have t51 : (2 : Int32).toInt = 2 := by decide
      obtain rfl : (0 : Int32) = r40 := hd49.symm
      refine lv_if_eq (tgt := 42) hx hb dX12_sow_37 (by decide) (fun c52 => ?_) (fun c52 => absurd c52 (by decide))
      refine lv_aload_n hx hb dX12_sow_42 rfl (lv_at hl 0 rfl) ?_
      refine tw_get hx hb hts bF_X12 hown hK hT hr_o0 shm_0 rfl 45 (by decide) (ht_at hts 14 rfl) (fun _ h9 => h9) dX12_sow_43 (fun v9 m53 h9 => ?_)
      obtain ⟨rfl, hg54⟩ := h9 _ rfl
      refine lv_iload_n hx hb dX12_sow_46 rfl (lv_at hl 1 rfl) ?_
      refine tw_iald (i := p0) hx hb hK hT hg1 shm_46 rfl (vin_t (a := p0.toInt) rfl (by omega) (by omega)) dX12_sow_47 (fun v9 m55 h9 => ?_)
      obtain ⟨x56, rfl, gx56, kx56⟩ := h9
      have cx56 := m45.at m55 (by have q9 := tn_of (show p0.toInt = p0.toInt from rfl) (by omega); omega)
      refine lv_iload_n hx hb dX12_sow_48 rfl (lv_at hl 2 rfl) ?_
      refine lv_icmp_eq (tgt := 56) hx hb dX12_sow_49 (by decide) (fun c57 => ?_) (fun c57 => ?_)
      · have t58 : x56.toInt = p1.toInt := ti_eq c57 rfl rfl
        refine lv_iconst (v := 0) hx hb dX12_sow_56 (by decide) ?_
        refine lv_istore_n (lv' := [(3, .int 0), (0, .ref o0), (1, .int p0), (2, .int p1)]) hx hb dX12_sow_57 rfl hl (by decide) rfl (fun ls hl => ?_)
        refine lv_aload_n hx hb dX12_sow_58 rfl (lv_at hl 1 rfl) ?_
        refine tw_get hx hb hts bF_X12 hown hK hT hr_o0 shm_0 rfl 45 (by decide) (ht_at hts 14 rfl) (fun _ h9 => h9) dX12_sow_59 (fun v9 m59 h9 => ?_)
        obtain ⟨rfl, hg60⟩ := h9 _ rfl
        refine lv_iload_n hx hb dX12_sow_62 rfl (lv_at hl 2 rfl) ?_
        refine lv_iload_n hx hb dX12_sow_63 rfl (lv_at hl 3 rfl) ?_
        refine tw_iast (i := p0) (x := p1) hx hb hK hT hG hS hg1 shm_46 rfl (vin_t (a := p0.toInt) rfl (by omega) (by omega)) (gi_all _) dX12_sow_64 (fun H locs hT oq m61 oi hS => ?_)
        have hF := hF.ast hg1 skm_46 oq (by decide)
        have m63 := m45.put m61 oi
        have m64 := (el_kept (oq _ (gne hr_o0 hg1 (by decide)))).trans m43
        refine lv_iload_n hx hb dX12_sow_65 rfl (lv_at hl 0 rfl) ?_
        exact W.zret (v := 0) hx hb hr (by decide) (fun t ht hW => ⟨⟨0, (u42, (cu aCr p0.toNatClampNeg p1)), rfl, (by exact ⟨(rg_t (a := 0) (by decide) (by first | decide | omega) (by first | decide | omega)), (Or.inl ⟨by have := soC_s nf.toInt p0.toInt p1.toInt; omega, by have q0 : (0 : Int32).toInt = 0 := (by decide); have q1 : (1 : Int32).toInt = 1 := (by decide); have q2 : (2 : Int32).toInt = 2 := (by decide); have q3 : (3 : Int32).toInt = 3 := (by decide); have qm : (-1 : Int32).toInt = -1 := (by decide); omega, by have c9 := congrArg Int32.toInt cx56; have q0 : (0 : Int32).toInt = 0 := (by decide); have q1 : (1 : Int32).toInt = 1 := (by decide); have q2 : (2 : Int32).toInt = 2 := (by decide); have q3 : (3 : Int32).toInt = 3 := (by decide); have qm : (-1 : Int32).toInt = -1 := (by decide); omega, rfl⟩)⟩), by (try dsimp only); rw [ht]; exact ⟨hT, hF, m64, m63⟩⟩, hS.F ht⟩) hS.2.2 dX12_sow_66
      · have t65 : x56.toInt ≠ p1.toInt := ti_ne c57 rfl rfl
        refine lv_iconst (v := 1) hx hb dX12_sow_52 (by decide) ?_
        refine lv_goto (tgt := 57) hx hb dX12_sow_53 (by decide) ?_
        refine lv_istore_n (lv' := [(3, .int 1), (0, .ref o0), (1, .int p0), (2, .int p1)]) hx hb dX12_sow_57 rfl hl (by decide) rfl (fun ls hl => ?_)
        refine lv_aload_n hx hb dX12_sow_58 rfl (lv_at hl 1 rfl) ?_
        refine tw_get hx hb hts bF_X12 hown hK hT hr_o0 shm_0 rfl 45 (by decide) (ht_at hts 14 rfl) (fun _ h9 => h9) dX12_sow_59 (fun v9 m66 h9 => ?_)
        obtain ⟨rfl, hg67⟩ := h9 _ rfl
        refine lv_iload_n hx hb dX12_sow_62 rfl (lv_at hl 2 rfl) ?_
        refine lv_iload_n hx hb dX12_sow_63 rfl (lv_at hl 3 rfl) ?_
        refine tw_iast (i := p0) (x := p1) hx hb hK hT hG hS hg1 shm_46 rfl (vin_t (a := p0.toInt) rfl (by omega) (by omega)) (gi_all _) dX12_sow_64 (fun H locs hT oq m68 oi hS => ?_)
        have hF := hF.ast hg1 skm_46 oq (by decide)
        have m70 := m45.put m68 oi
        have m71 := (el_kept (oq _ (gne hr_o0 hg1 (by decide)))).trans m43
        refine lv_iload_n hx hb dX12_sow_65 rfl (lv_at hl 0 rfl) ?_
        exact W.zret (v := 1) hx hb hr (by decide) (fun t ht hW => ⟨⟨1, (u42, (cu aCr p0.toNatClampNeg p1)), rfl, (by exact ⟨(rg_t (a := 1) (by decide) (by first | decide | omega) (by first | decide | omega)), (Or.inl ⟨by have := soC_s nf.toInt p0.toInt p1.toInt; omega, by have q0 : (0 : Int32).toInt = 0 := (by decide); have q1 : (1 : Int32).toInt = 1 := (by decide); have q2 : (2 : Int32).toInt = 2 := (by decide); have q3 : (3 : Int32).toInt = 3 := (by decide); have qm : (-1 : Int32).toInt = -1 := (by decide); omega, by have c9 := congrArg Int32.toInt cx56; have q0 : (0 : Int32).toInt = 0 := (by decide); have q1 : (1 : Int32).toInt = 1 := (by decide); have q2 : (2 : Int32).toInt = 2 := (by decide); have q3 : (3 : Int32).toInt = 3 := (by decide); have qm : (-1 : Int32).toInt = -1 := (by decide); omega, rfl⟩)⟩), by (try dsimp only); rw [ht]; exact ⟨hT, hF, m71, m70⟩⟩, hS.F ht⟩) hS.2.2 dX12_sow_66
    · have t72 : r27.toInt = 0 := ti_eq c35 rfl (by decide)
      have t73 : (0 : Int32).toInt = 0 := by decide
      have t74 : (3 : Int32).toInt = 3 := by decide
      have t75 : p1.toInt < (0 : Int32).toInt ∨ (3 : Int32).toInt < p1.toInt := hi34 c35
      refine lv_iconst (v := 1) hx hb dX12_sow_28 (by decide) ?_
      refine lv_goto (tgt := 33) hx hb dX12_sow_29 (by decide) ?_
      refine lv_iconst (v := 2) hx hb dX12_sow_33 (by decide) ?_
      have hFc := gA_free hG hA hS
      refine va_calli (va_runV (As := [.int 1, .int 2]) (rest := []) ⟨hx, hb, hml, hown, hts⟩ (s_throwsIfP l dC dI kA adK adV G H q wZ wN wH wB wC wL wK wU wV PI im PM PT lS lB lE lN o0 1 2 u14 hT hr_o0 m31 (rg_t (a := 1) (by decide) (by first | decide | omega) (by first | decide | omega)) hgz hgn hgh hgb hgc hgi hgu) (cwV 2 hts (goodIn_app (goodIn_r _ [12, 13, 14, 7] rfl (by decide +kernel)) (goodIn_ca (goodIn_r _ [11, 1] rfl (by decide +kernel)) (bs_in _ _))) rfl rfl rfl (by decide +kernel) ⟨(Nat.le_of_ble_eq_true rfl), (Nat.le_of_ble_eq_true rfl)⟩) ⟨fun a U g mk q => by obtain ⟨q0, q1, qK, qE⟩ := q; exact ⟨q0, q1, va_K.moved (u := U) (U := U.calling g mk a) (Vm.Alike.refl U.vm) qK, EVS.blind g mk a qE⟩, gH_rc hK hT hr_o0 shm_0 rfl, fun U hU hW => ⟨rfl, hU, va_K.moved hW.alike hK, hE.call hS hFc hU hW⟩⟩ rfl rfl hl.1 rfl (lv_room (Nat.le_of_ble_eq_true rfl)) dX12_sow_34 ⟨(Nat.le_of_ble_eq_true rfl), (Nat.le_of_ble_eq_true rfl)⟩) hS (fun q _ h => hFc q h) hFc (fun r76 u t H locs ht hvm hw77 hB _ _ hS => ?_)
      obtain ⟨u78, rfl⟩ : ∃ z, z = u := ⟨_, rfl⟩
      obtain ⟨hT, hF1, m79⟩ := hB
      rw [ht] at hT hF1 m79
      have m81 := m30.kept (hF1.arr hg1 skm_46 (by decide))
      have hF := hF.more hF1 (by decide)
      try dsimp only at hw77
      obtain ⟨h83, hf84, hd85⟩ := hw77
      have t86 : (1 : Int32).toInt = 1 := by decide
      have t87 : (2 : Int32).toInt = 2 := by decide
      obtain rfl : (1 : Int32) = r76 := hd85.symm
      refine lv_if_eq (tgt := 42) hx hb dX12_sow_37 (by decide) (fun c88 => absurd c88 (by decide)) (fun c88 => ?_)
      refine lv_iconst (v := 0) hx hb dX12_sow_40 (by decide) ?_
      exact W.zret (v := 0) hx hb hr (by decide) (fun t ht hW => ⟨⟨0, (u78, aCr), rfl, (by exact ⟨(rg_t (a := 0) (by decide) (by first | decide | omega) (by first | decide | omega)), (Or.inr ⟨by have := soC_s nf.toInt p0.toInt p1.toInt; have q0 : (0 : Int32).toInt = 0 := (by decide); have q1 : (1 : Int32).toInt = 1 := (by decide); have q2 : (2 : Int32).toInt = 2 := (by decide); have q3 : (3 : Int32).toInt = 3 := (by decide); have qm : (-1 : Int32).toInt = -1 := (by decide); omega, by have := soC_s nf.toInt p0.toInt p1.toInt; have q0 : (0 : Int32).toInt = 0 := (by decide); have q1 : (1 : Int32).toInt = 1 := (by decide); have q2 : (2 : Int32).toInt = 2 := (by decide); have q3 : (3 : Int32).toInt = 3 := (by decide); have qm : (-1 : Int32).toInt = -1 := (by decide); omega, rfl⟩)⟩), by (try dsimp only); rw [ht]; exact ⟨hT, hF, m79, m81⟩⟩, hS.F ht⟩) hS.2.2 dX12_sow_41
def fds (k : Nat) : Int32 := if k % 4 = 0 then 24 else if k % 4 = 1 then 16 else if k % 4 = 2 then 8 else 0
theorem fds_s (k : Nat) : (fds k).toInt = 24 - 8 * ((k % 4 : Nat) : Int) := by
  unfold fds
  by_cases h0 : k % 4 = 0
  · rw [if_pos h0, h0]; decide
  · rw [if_neg h0]
    by_cases h1 : k % 4 = 1
    · rw [if_pos h1, h1]; decide
    · rw [if_neg h1]
      by_cases h2 : k % 4 = 2
      · rw [if_pos h2, h2]; decide
      · rw [if_neg h2, show k % 4 = 3 from by omega]; decide
def fdv (a b c d e : Int32) (k : Nat) : Int32 := if k = 0 then a else if k = 1 then b else if k = 2 then c else if k = 3 then d else e
def fdK (V : Nat → Int32) (n : Nat) (a b c d e : Int32) : Nat → Nat → Int32
  | 0 => V
  | k + 1 => cu (fdK V n a b c d e k) (n + k) (sb (fdv a b c d e (k / 4)) (fds k))
theorem fdK_4 {V : Nat → Int32} {n : Nat} {a b c d e : Int32} (k : Nat) : fdK V n a b c d e (k + 4) = cu (cu (cu (cu (fdK V n a b c d e k) (n + k) (sb (fdv a b c d e (k / 4)) (fds k))) (n + (k + 1)) (sb (fdv a b c d e ((k + 1) / 4)) (fds (k + 1)))) (n + (k + 2)) (sb (fdv a b c d e ((k + 2) / 4)) (fds (k + 2)))) (n + (k + 3)) (sb (fdv a b c d e ((k + 3) / 4)) (fds (k + 3))) := rfl
theorem fdK_q {V : Nat → Int32} {n : Nat} {a b c d e : Int32} (j : Nat) : fdK V n a b c d e (4 * j + 4) = f4S (fdK V n a b c d e (4 * j)) (n + 4 * j) (fdv a b c d e j) := by
  have s0 : fds (4 * j) = 24 := Int32.toInt_inj.mp ((fds_s _).trans (by rw [show 4 * j % 4 = 0 from by omega]; decide))
  have s1 : fds (4 * j + 1) = 16 := Int32.toInt_inj.mp ((fds_s _).trans (by rw [show (4 * j + 1) % 4 = 1 from by omega]; decide))
  have s2 : fds (4 * j + 2) = 8 := Int32.toInt_inj.mp ((fds_s _).trans (by rw [show (4 * j + 2) % 4 = 2 from by omega]; decide))
  have s3 : fds (4 * j + 3) = 0 := Int32.toInt_inj.mp ((fds_s _).trans (by rw [show (4 * j + 3) % 4 = 3 from by omega]; decide))
  rw [fdK_4, s0, s1, s2, s3, show 4 * j / 4 = j from by omega, show (4 * j + 1) / 4 = j from by omega, show (4 * j + 2) / 4 = j from by omega, show (4 * j + 3) / 4 = j from by omega, ← Nat.add_assoc, ← Nat.add_assoc, ← Nat.add_assoc]
  rfl
theorem fdK_20 {V : Nat → Int32} {n : Nat} {a b c d e : Int32} : fdK V n a b c d e 20 = fdS V n a b c d e := by
  rw [show (20 : Nat) = 4 * 4 + 4 from rfl, fdK_q, show 4 * 4 = 4 * 3 + 4 from rfl, fdK_q, show 4 * 3 = 4 * 2 + 4 from rfl, fdK_q, show 4 * 2 = 4 * 1 + 4 from rfl, fdK_q, show 4 * 1 = 4 * 0 + 4 from rfl, fdK_q]
  rfl
theorem fdK_s {V : Nat → Int32} {n k i : Nat} {a b c d e x y s z : Int32} (hi : i = n + k) (hx : x = fdv a b c d e (k / 4)) (hs : s.toInt = 24 - 8 * ((k % 4 : Nat) : Int)) (hy : y = x >>> (s &&& 31)) (hz : z = y.toInt8.toInt32) (j : Nat) : cu (fdK V n a b c d e k) i z j = fdK V n a b c d e (k + 1) j := by
  have hs' : s = fds k := Int32.toInt_inj.mp (hs.trans (fds_s k).symm)
  rw [hz, hy, hx, hs', hi]
  rfl
theorem fdv_5 {v : Nat → Int32} {a b c d e : Int32} {j : Nat} (h : j < 5) : cu (cu (cu (cu (cu v (0 : Int32).toNatClampNeg a) (1 : Int32).toNatClampNeg b) (2 : Int32).toNatClampNeg c) (3 : Int32).toNatClampNeg d) (4 : Int32).toNatClampNeg e j = fdv a b c d e j := by
  rcases (show j = 0 ∨ j = 1 ∨ j = 2 ∨ j = 3 ∨ j = 4 by omega) with rfl | rfl | rfl | rfl | rfl
  · rw [cu_o (by decide), cu_o (by decide), cu_o (by decide), cu_o (by decide), cu_s (by decide)]; rfl
  · rw [cu_o (by decide), cu_o (by decide), cu_o (by decide), cu_s (by decide)]; rfl
  · rw [cu_o (by decide), cu_o (by decide), cu_s (by decide)]; rfl
  · rw [cu_o (by decide), cu_s (by decide)]; rfl
  · rw [cu_s (by decide)]; rfl
def w_s_feedC : List Cond := .code yX12_feed cX12_feed 7 (some .int) :: (HAppend.hAppend (α := List Cond) (β := List Cond) (γ := List Cond) [.fieldLink RX12 194 "SeaLandModel" "thrown" "I", .fieldLink RX12 332 "SeaLandModel" "taped" "I", .fieldLink RX12 39 "SeaLandModel" "five" "[I", .fieldLink RX12 31 "SeaLandModel" "tape" "[B"] bs)
set_option maxHeartbeats 4000000 in
set_option maxRecDepth 100000 in
theorem s_feedC (l : Launch) (dC : Nat → ClassId) (dI : Nat → Nat → Nat) (kA : Nat → ClassId) (adK adV : Nat → Nat) (G : gT) (H0 : Heap) (q : Nat → Nat) (wZ wN : Nat → Int) (wH wB wC : Int) (wL wK : Nat → Prop) (wU wV : Nat → Nat) (PI : Nat → Int → Prop) (im : Int) (PM PT : Nat → Int → Prop) (lS lB lE : Nat → Nat → Int → Prop) (lN : Nat → Int) (o0 : Nat) (p0 : Int32) (p1 : Int32) (p2 : Int32) (p3 : Int32) (p4 : Int32) (tn : Int32) (vt : Nat → Int32)  (hT : gH (dC, dI) kA (SHm q (wP wZ wN wH wB wC wL wK wU wV) PI im PM PT lS lB lE lN) G H0) (hr_o0 : G o0 = some 0) (hm_tn : el H0 o0 (dI 15 11) = some (.int tn)) (hq0 : 0 ≤ tn.toInt ∧ tn.toInt ≤ 400) (hc_vt : ct H0 (q 10) 400 vt) (hgz : ∀ i, 0 ≤ wZ i) (hgn : ∀ i, 6500000 ≤ wN i ∧ wN i ≤ 20200000) (hgh : 0 ≤ wH ∧ wH ≤ 40000) (hgb : 0 ≤ wB ∧ wB ≤ 3850000) (hgc : 0 ≤ wC ∧ wC ≤ 30) (hgi : 0 ≤ im ∧ im ≤ 1) (hgu : ∀ a t, G a = some (t + 1) → a = q t) : Met l yX12_feed w_s_feedC ({ frames := 0, cells := 0, slots := 0, locals := 0 }) (va_Pc [.ref o0, .int p0, .int p1, .int p2, .int p3, .int p4] (fun U => U.heap = H0 ∧ va_K (dC, dI) vwCl (tyl kA) U ∧ EVS adK adV (gA G H0.size) U U.heap)) (va_Qi (fun (r : Int32) (u : Int32 × (Nat → Int32)) => match u with | (t1, vt1) => (-1 ≤ r.toInt ∧ r.toInt ≤ 400) ∧ ((tn.toInt ≤ 380 ∧ r.toInt = tn.toInt + 20 ∧ t1.toInt = tn.toInt + 20 ∧ vt1 = fdS vt tn.toNatClampNeg p0 p1 p2 p3 p4) ∨ (380 < tn.toInt ∧ r.toInt = -1 ∧ t1.toInt = tn.toInt ∧ vt1 = vt))) (fun (u : Int32 × (Nat → Int32)) (t : State) => match u with | (t1, vt1) => gH (dC, dI) kA (SHm q (wP wZ wN wH wB wC wL wK wU wV) PI im PM PT lS lB lE lN) G t.heap ∧ gF (dC, dI) SKm G ([(0, 0), (0, 11), (11, 0), (18, 0)] : List (Nat × Nat)) H0 t.heap ∧ el t.heap o0 (dI 15 11) = some (.int t1) ∧ ct t.heap (q 10) 400 vt1) (gA G H0.size)) 0 0 (gA G H0.size) := by
  refine Met.ofW (cc := cX12_feed) (maxL := 7) (ret := (some .int)) (by decide) rfl ?_
  intro p e s m args below meth c s₁ B hml hv
  obtain ⟨rfl, hH0, hK, hE⟩ := hv
  have hx := B.exec
  have hb := B.bytes
  have hr := B.returns
  have hts := atoms_spec (ws := w_s_feedC) B.pre
  have hown : s.vm.findClass RX12 = some m.cls := findClass_of_methodNamed B.named
  have hlocks := B.notSynchronized
  subst hH0
  generalize hAe : gA G s.heap.size = A at hE ⊢
  have hA : ∀ q : Nat, s.heap.size ≤ q → A q := fun q h => by rw [← hAe]; exact Or.inr h
  have hG := gA_of hAe
  have hS : va_S A s.heap s.heap [] := va_S.rf
  have hF : gF (dC, dI) SKm G ([(0, 0), (0, 11), (11, 0), (18, 0)] : List (Nat × Nat)) s.heap s.heap := gF.rf
  have hl := lv_entry ([.ref o0, .int p0, .int p1, .int p2, .int p3, .int p4]) (n := 7) (Nat.le_of_ble_eq_true rfl)
  rw [lg_entry_eq]
  generalize (lg_sl ([.ref o0, .int p0, .int p1, .int p2, .int p3, .int p4]) ++ List.replicate (7 - (lg_sl ([.ref o0, .int p0, .int p1, .int p2, .int p3, .int p4])).length) Slot.unset).toArray = ls at hl ⊢
  have hl : lv_has ls 7 [(0, .ref o0), (1, .int p0), (2, .int p1), (3, .int p2), (4, .int p3), (5, .int p4)] := hl
  have hg1 : G (q 10) = some 11 := gx_of hT hr_o0 shm_0 (k := 10) (by decide) rfl
  refine lv_aload_n hx hb dX12_feed_0 rfl (lv_at hl 0 rfl) ?_
  refine lv_iconst (v := 0) hx hb dX12_feed_1 (by decide) ?_
  refine tw_put (v := .int 0) (ty := .int) hx hb hts bF_X12 tyX12 tyX12_ok nmX12 hown hK hT hG hS hr_o0 shm_0 rfl 0 (by decide) (ht_at hts 0 rfl) (fun _ h9 => h9) rfl (by decide +kernel) rfl rfl (gl_at rfl (gi_all _)) dX12_feed_2 (fun H locs hT oq m2 oj hS => ?_)
  have hF := hF.put hr_o0 skm_0 oq oj (by decide)
  have m3 := (oj 11 (by decide) (by decide)).trans hm_tn
  have m4 := hc_vt.kept (oq _ (gne hg1 hr_o0 (by decide)))
  refine lv_aload_n hx hb dX12_feed_5 rfl (lv_at hl 0 rfl) ?_
  refine tw_getM (v := .int tn) hx hb hts bF_X12 hown hK hT hr_o0 shm_0 rfl 11 (by decide) (ht_at hts 1 rfl) (fun _ h9 => h9) m3 dX12_feed_6 ?_
  refine lv_bipush (v := 20) hx hb dX12_feed_9 (by decide) ?_
  refine lv_iadd hx hb dX12_feed_11 ?_
  refine lv_topi (fun x5 ex5 => ?_)
  have t6 : x5.toInt = tn.toInt + 20 := ti_add ex5 rfl (by decide) (by omega) (by omega)
  refine lv_sipush (v := 400) hx hb dX12_feed_12 (by decide) ?_
  refine lv_icmp_le (tgt := 20) hx hb dX12_feed_15 (by decide) (fun c7 => ?_) (fun c7 => ?_)
  · have t8 : x5.toInt ≤ 400 := ti_le c7 rfl (by decide)
    have hg9 : G (q 17) = some 18 := gx_of hT hr_o0 shm_0 (k := 17) (by decide) rfl
    obtain ⟨V10, m11, kV10⟩ := ct_of hT hg9 shm_18
    refine lv_aload_n hx hb dX12_feed_20 rfl (lv_at hl 0 rfl) ?_
    refine tw_get hx hb hts bF_X12 hown hK hT hr_o0 shm_0 rfl 17 (by decide) (ht_at hts 2 rfl) (fun _ h9 => h9) dX12_feed_21 (fun v9 m12 h9 => ?_)
    obtain ⟨rfl, hg13⟩ := h9 _ rfl
    refine lv_iconst (v := 0) hx hb dX12_feed_24 (by decide) ?_
    refine lv_iload_n hx hb dX12_feed_25 rfl (lv_at hl 1 rfl) ?_
    refine tw_iast (i := 0) (x := p0) hx hb hK hT hG hS hg9 shm_18 rfl (by unfold vp_in; decide) (gi_all _) dX12_feed_26 (fun H locs hT oq m14 oi hS => ?_)
    have hF := hF.ast hg9 skm_18 oq (by decide)
    have m15 := (el_kept (oq _ (gne hr_o0 hg9 (by decide)))).trans m3
    have m16 := m4.kept (oq _ (gne hg1 hg9 (by decide)))
    have m17 := (el_kept (oq _ (gne hr_o0 hg9 (by decide)))).trans m2
    have m18 := m11.put m14 oi
    refine lv_aload_n hx hb dX12_feed_27 rfl (lv_at hl 0 rfl) ?_
    refine tw_get hx hb hts bF_X12 hown hK hT hr_o0 shm_0 rfl 17 (by decide) (ht_at hts 2 rfl) (fun _ h9 => h9) dX12_feed_28 (fun v9 m19 h9 => ?_)
    obtain ⟨rfl, hg20⟩ := h9 _ rfl
    refine lv_iconst (v := 1) hx hb dX12_feed_31 (by decide) ?_
    refine lv_iload_n hx hb dX12_feed_32 rfl (lv_at hl 2 rfl) ?_
    refine tw_iast (i := 1) (x := p1) hx hb hK hT hG hS hg9 shm_18 rfl (by unfold vp_in; decide) (gi_all _) dX12_feed_33 (fun H locs hT oq m21 oi hS => ?_)
    have hF := hF.ast hg9 skm_18 oq (by decide)
    have m22 := (el_kept (oq _ (gne hr_o0 hg9 (by decide)))).trans m15
    have m23 := m16.kept (oq _ (gne hg1 hg9 (by decide)))
    have m24 := (el_kept (oq _ (gne hr_o0 hg9 (by decide)))).trans m17
    have m25 := m18.put m21 oi
    have m26 := (oi _ (tn_ne (show (0 : Int32).toInt = 0 from (by decide)) (show (1 : Int32).toInt = 1 from (by decide)) (by omega) (by omega) (by omega))).trans m14
    refine lv_aload_n hx hb dX12_feed_34 rfl (lv_at hl 0 rfl) ?_
    refine tw_get hx hb hts bF_X12 hown hK hT hr_o0 shm_0 rfl 17 (by decide) (ht_at hts 2 rfl) (fun _ h9 => h9) dX12_feed_35 (fun v9 m27 h9 => ?_)
    obtain ⟨rfl, hg28⟩ := h9 _ rfl
    refine lv_iconst (v := 2) hx hb dX12_feed_38 (by decide) ?_
    refine lv_iload_n hx hb dX12_feed_39 rfl (lv_at hl 3 rfl) ?_
    refine tw_iast (i := 2) (x := p2) hx hb hK hT hG hS hg9 shm_18 rfl (by unfold vp_in; decide) (gi_all _) dX12_feed_40 (fun H locs hT oq m29 oi hS => ?_)
    have hF := hF.ast hg9 skm_18 oq (by decide)
    have m30 := (el_kept (oq _ (gne hr_o0 hg9 (by decide)))).trans m22
    have m31 := m23.kept (oq _ (gne hg1 hg9 (by decide)))
    have m32 := (el_kept (oq _ (gne hr_o0 hg9 (by decide)))).trans m24
    have m33 := m25.put m29 oi
    have m34 := (oi _ (tn_ne (show (0 : Int32).toInt = 0 from (by decide)) (show (2 : Int32).toInt = 2 from (by decide)) (by omega) (by omega) (by omega))).trans m26
    have m35 := (oi _ (tn_ne (show (1 : Int32).toInt = 1 from (by decide)) (show (2 : Int32).toInt = 2 from (by decide)) (by omega) (by omega) (by omega))).trans m21
    refine lv_aload_n hx hb dX12_feed_41 rfl (lv_at hl 0 rfl) ?_
    refine tw_get hx hb hts bF_X12 hown hK hT hr_o0 shm_0 rfl 17 (by decide) (ht_at hts 2 rfl) (fun _ h9 => h9) dX12_feed_42 (fun v9 m36 h9 => ?_)
    obtain ⟨rfl, hg37⟩ := h9 _ rfl
    refine lv_iconst (v := 3) hx hb dX12_feed_45 (by decide) ?_
    refine lv_iload hx hb dX12_feed_46 (lv_at hl 4 rfl) ?_
    refine tw_iast (i := 3) (x := p3) hx hb hK hT hG hS hg9 shm_18 rfl (by unfold vp_in; decide) (gi_all _) dX12_feed_48 (fun H locs hT oq m38 oi hS => ?_)
    have hF := hF.ast hg9 skm_18 oq (by decide)
    have m39 := (el_kept (oq _ (gne hr_o0 hg9 (by decide)))).trans m30
    have m40 := m31.kept (oq _ (gne hg1 hg9 (by decide)))
    have m41 := (el_kept (oq _ (gne hr_o0 hg9 (by decide)))).trans m32
    have m42 := m33.put m38 oi
    have m43 := (oi _ (tn_ne (show (0 : Int32).toInt = 0 from (by decide)) (show (3 : Int32).toInt = 3 from (by decide)) (by omega) (by omega) (by omega))).trans m34
    have m44 := (oi _ (tn_ne (show (1 : Int32).toInt = 1 from (by decide)) (show (3 : Int32).toInt = 3 from (by decide)) (by omega) (by omega) (by omega))).trans m35
    have m45 := (oi _ (tn_ne (show (2 : Int32).toInt = 2 from (by decide)) (show (3 : Int32).toInt = 3 from (by decide)) (by omega) (by omega) (by omega))).trans m29
    refine lv_aload_n hx hb dX12_feed_49 rfl (lv_at hl 0 rfl) ?_
    refine tw_get hx hb hts bF_X12 hown hK hT hr_o0 shm_0 rfl 17 (by decide) (ht_at hts 2 rfl) (fun _ h9 => h9) dX12_feed_50 (fun v9 m46 h9 => ?_)
    obtain ⟨rfl, hg47⟩ := h9 _ rfl
    refine lv_iconst (v := 4) hx hb dX12_feed_53 (by decide) ?_
    refine lv_iload hx hb dX12_feed_54 (lv_at hl 5 rfl) ?_
    refine tw_iast (i := 4) (x := p4) hx hb hK hT hG hS hg9 shm_18 rfl (by unfold vp_in; decide) (gi_all _) dX12_feed_56 (fun H locs hT oq m48 oi hS => ?_)
    have hF := hF.ast hg9 skm_18 oq (by decide)
    have m49 := (el_kept (oq _ (gne hr_o0 hg9 (by decide)))).trans m39
    have m50 := m40.kept (oq _ (gne hg1 hg9 (by decide)))
    have m51 := (el_kept (oq _ (gne hr_o0 hg9 (by decide)))).trans m41
    have m52 := m42.put m48 oi
    have m53 := (oi _ (tn_ne (show (0 : Int32).toInt = 0 from (by decide)) (show (4 : Int32).toInt = 4 from (by decide)) (by omega) (by omega) (by omega))).trans m43
    have m54 := (oi _ (tn_ne (show (1 : Int32).toInt = 1 from (by decide)) (show (4 : Int32).toInt = 4 from (by decide)) (by omega) (by omega) (by omega))).trans m44
    have m55 := (oi _ (tn_ne (show (2 : Int32).toInt = 2 from (by decide)) (show (4 : Int32).toInt = 4 from (by decide)) (by omega) (by omega) (by omega))).trans m45
    have m56 := (oi _ (tn_ne (show (3 : Int32).toInt = 3 from (by decide)) (show (4 : Int32).toInt = 4 from (by decide)) (by omega) (by omega) (by omega))).trans m38
    refine lv_iconst (v := 0) hx hb dX12_feed_57 (by decide) ?_
    refine lv_istore (lv' := [(6, .int 0), (0, .ref o0), (1, .int p0), (2, .int p1), (3, .int p2), (4, .int p3), (5, .int p4)]) hx hb dX12_feed_58 hl (by decide) rfl (fun ls hl => ?_)
    have key95 : ∀ (n95 i57 : Nat), i57 + n95 = 20 → 0 ≤ i57 → ∀ (H : Heap) (locs : List Loc), gH (dC, dI) kA (SHm q (wP wZ wN wH wB wC wL wK wU wV) PI im PM PT lS lB lE lN) G H → gF (dC, dI) SKm G ([(0, 0), (0, 11), (11, 0), (18, 0)] : List (Nat × Nat)) s.heap H → va_S A s.heap H locs → ct H (q 10) 400 (fdK vt tn.toNatClampNeg p0 p1 p2 p3 p4 i57) → ct H (q 17) 5 (cu (cu (cu (cu (cu V10 (0 : Int32).toNatClampNeg p0) (1 : Int32).toNatClampNeg p1) (2 : Int32).toNatClampNeg p2) (3 : Int32).toNatClampNeg p3) (4 : Int32).toNatClampNeg p4) → el H o0 (dI 15 11) = some (.int tn) → el H o0 (dI 15 0) = some (.int 0) → el H (q 17) (0 : Int32).toNatClampNeg = some (.int p0) → el H (q 17) (1 : Int32).toNatClampNeg = some (.int p1) → el H (q 17) (2 : Int32).toNatClampNeg = some (.int p2) → el H (q 17) (3 : Int32).toNatClampNeg = some (.int p3) → el H (q 17) (4 : Int32).toNatClampNeg = some (.int p4) → ∀ ls : Array Slot, lv_has ls 7 [(6, .int (nI i57)), (0, .ref o0), (1, .int p0), (2, .int p1), (3, .int p2), (4, .int p3), (5, .int p4)] → W p l e (headSpec w_s_feedC ({ frames := 0, cells := 0, slots := 0, locals := 0 })).room s m #[.ref o0, .int p0, .int p1, .int p2, .int p3, .int p4] below meth c H locs 0 0 (MQ below (va_Qi (fun (r : Int32) (u : Int32 × (Nat → Int32)) => match u with | (t1, vt1) => (-1 ≤ r.toInt ∧ r.toInt ≤ 400) ∧ ((tn.toInt ≤ 380 ∧ r.toInt = tn.toInt + 20 ∧ t1.toInt = tn.toInt + 20 ∧ vt1 = fdS vt tn.toNatClampNeg p0 p1 p2 p3 p4) ∨ (380 < tn.toInt ∧ r.toInt = -1 ∧ t1.toInt = tn.toInt ∧ vt1 = vt))) (fun (u : Int32 × (Nat → Int32)) (t : State) => match u with | (t1, vt1) => gH (dC, dI) kA (SHm q (wP wZ wN wH wB wC wL wK wU wV) PI im PM PT lS lB lE lN) G t.heap ∧ gF (dC, dI) SKm G ([(0, 0), (0, 11), (11, 0), (18, 0)] : List (Nat × Nat)) s.heap t.heap ∧ el t.heap o0 (dI 15 11) = some (.int t1) ∧ ct t.heap (q 10) 400 vt1) A) #[.ref o0, .int p0, .int p1, .int p2, .int p3, .int p4] s 0 0 A) (F0 m 60 ls []) := by
      intro n95
      induction n95 with
      | zero =>
        intro i57 hn95 hlo96  H locs hT hF hS m58 m59 m60 m61 m62 m63 m64 m65 m66 ls hl
        obtain rfl : 20 = i57 := by omega
        refine lv_iload hx hb dX12_feed_60 (lv_at hl 0 rfl) ?_
        refine lv_bipush (v := 20) hx hb dX12_feed_62 (by decide) ?_
        refine lv_icmp_ge (tgt := 106) hx hb dX12_feed_64 (by decide) (fun c97 => ?_) (fun c97 => (by exfalso; have q9 : ((20 : Nat) : Int) < 20 := ti_nle c97 (by decide) (nI_toInt (by omega)); omega))
        have t98 : 20 ≤ ((20 : Nat) : Int) := ti_le c97 (by decide) (nI_toInt (by omega))
        refine lv_aload_n hx hb dX12_feed_106 rfl (lv_at hl 1 rfl) ?_
        refine lv_dup hx hb dX12_feed_107 rfl ?_
        refine tw_getM (v := .int tn) hx hb hts bF_X12 hown hK hT hr_o0 shm_0 rfl 11 (by decide) (ht_at hts 1 rfl) (fun _ h9 => h9) m60 dX12_feed_108 ?_
        refine lv_bipush (v := 20) hx hb dX12_feed_111 (by decide) ?_
        refine lv_iadd hx hb dX12_feed_113 ?_
        refine lv_topi (fun x99 ex99 => ?_)
        have t100 : x99.toInt = tn.toInt + 20 := ti_add ex99 rfl (by decide) (by omega) (by omega)
        refine tw_put (v := .int x99) (ty := .int) hx hb hts bF_X12 tyX12 tyX12_ok nmX12 hown hK hT hG hS hr_o0 shm_0 rfl 11 (by decide) (ht_at hts 1 rfl) (fun _ h9 => h9) rfl (by decide +kernel) rfl rfl (gl_at rfl (gi_of (show x99.toInt = x99.toInt from rfl) (by omega) (by omega))) dX12_feed_114 (fun H locs hT oq m101 oj hS => ?_)
        have hF := hF.put hr_o0 skm_0 oq oj (by decide)
        have m102 := m58.kept (oq _ (gne hg1 hr_o0 (by decide)))
        refine lv_aload_n hx hb dX12_feed_117 rfl (lv_at hl 1 rfl) ?_
        refine tw_getM (v := .int x99) hx hb hts bF_X12 hown hK hT hr_o0 shm_0 rfl 11 (by decide) (ht_at hts 1 rfl) (fun _ h9 => h9) m101 dX12_feed_118 ?_
        exact W.iret (v := x99) hx hb hr (fun t ht hW => ⟨⟨x99, (x99, (fdK vt tn.toNatClampNeg p0 p1 p2 p3 p4 20)), rfl, (by exact ⟨(by have q8 := ti_all x99; omega), (Or.inl ⟨by omega, by omega, by omega, (by (try dsimp only); rw [show 20 = 20 from by omega]; exact fdK_20)⟩)⟩), by (try dsimp only); rw [ht]; exact ⟨hT, hF, m101, m102⟩⟩, hS.F ht⟩) hS.2.2 dX12_feed_121
      | succ n95 ih95 =>
        intro i57 hn95 hlo96  H locs hT hF hS m58 m59 m60 m61 m62 m63 m64 m65 m66 ls hl
        have hlt109 : i57 < 20 := by omega
        refine lv_iload hx hb dX12_feed_60 (lv_at hl 0 rfl) ?_
        refine lv_bipush (v := 20) hx hb dX12_feed_62 (by decide) ?_
        refine lv_icmp_ge (tgt := 106) hx hb dX12_feed_64 (by decide) (fun c110 => (by exfalso; have q9 : 20 ≤ ((i57 : Nat) : Int) := ti_le c110 (by decide) (nI_toInt (by omega)); omega)) (fun c110 => ?_)
        have t111 : ((i57 : Nat) : Int) < 20 := ti_nle c110 (by decide) (nI_toInt (by omega))
        refine lv_aload_n hx hb dX12_feed_67 rfl (lv_at hl 1 rfl) ?_
        refine tw_get hx hb hts bF_X12 hown hK hT hr_o0 shm_0 rfl 10 (by decide) (ht_at hts 3 rfl) (fun _ h9 => h9) dX12_feed_68 (fun v9 m112 h9 => ?_)
        obtain ⟨rfl, hg113⟩ := h9 _ rfl
        refine lv_aload_n hx hb dX12_feed_71 rfl (lv_at hl 1 rfl) ?_
        refine tw_getM (v := .int tn) hx hb hts bF_X12 hown hK hT hr_o0 shm_0 rfl 11 (by decide) (ht_at hts 1 rfl) (fun _ h9 => h9) m60 dX12_feed_72 ?_
        refine lv_iload hx hb dX12_feed_75 (lv_at hl 0 rfl) ?_
        refine lv_iadd hx hb dX12_feed_77 ?_
        refine lv_topi (fun x114 ex114 => ?_)
        have t115 : x114.toInt = tn.toInt + ((i57 : Nat) : Int) := ti_add ex114 rfl (nI_toInt (by omega)) (by omega) (by omega)
        refine lv_aload_n hx hb dX12_feed_78 rfl (lv_at hl 1 rfl) ?_
        refine tw_get hx hb hts bF_X12 hown hK hT hr_o0 shm_0 rfl 17 (by decide) (ht_at hts 2 rfl) (fun _ h9 => h9) dX12_feed_79 (fun v9 m116 h9 => ?_)
        obtain ⟨rfl, hg117⟩ := h9 _ rfl
        refine lv_iload hx hb dX12_feed_82 (lv_at hl 0 rfl) ?_
        refine lv_iconst (v := 4) hx hb dX12_feed_84 (by decide) ?_
        refine lv_idiv hx hb dX12_feed_85 (by decide) ?_
        refine lv_topi (fun x118 ex118 => ?_)
        obtain rfl : nI (i57 / 4) = x118 := (ex118.trans (pk_div (a := i57) (d := 4) (by omega) (by decide) (by decide))).symm
        refine tw_iald (i := (nI (i57 / 4))) hx hb hK hT hg9 shm_18 rfl (vp_in_nI (by omega) (by decide)) dX12_feed_86 (fun v9 m119 h9 => ?_)
        obtain ⟨x120, rfl, gx120, kx120⟩ := h9
        have cx120 := m59.at m119 (by have q9 := tn_of (show (nI (i57 / 4)).toInt = ((i57 / 4 : Nat) : Int) from (nI_toInt (by omega))) (by omega); omega)
        refine lv_bipush (v := 24) hx hb dX12_feed_87 (by decide) ?_
        refine lv_bipush (v := 8) hx hb dX12_feed_89 (by decide) ?_
        refine lv_iload hx hb dX12_feed_91 (lv_at hl 0 rfl) ?_
        refine lv_iconst (v := 4) hx hb dX12_feed_93 (by decide) ?_
        refine lv_irem hx hb dX12_feed_94 (by decide) ?_
        refine lv_topi (fun x121 ex121 => ?_)
        obtain rfl : nI (i57 % 4) = x121 := (ex121.trans (pk_rem (a := i57) (d := 4) (by omega) (by decide) (by decide))).symm
        refine lv_imul hx hb dX12_feed_95 ?_
        refine lv_topi (fun x122 ex122 => ?_)
        obtain rfl : nI (8 * (i57 % 4)) = x122 := (ex122.trans (pk_mul 8 (i57 % 4))).symm
        refine lv_isub hx hb dX12_feed_96 ?_
        refine lv_topi (fun x123 ex123 => ?_)
        have t124 : x123.toInt = 24 - ((8 * (i57 % 4) : Nat) : Int) := ti_sub ex123 (by decide) (nI_toInt (by omega)) (by omega) (by omega)
        refine lv_ishr hx hb dX12_feed_97 ?_
        refine lv_topi (fun x125 ex125 => ?_)
        refine lv_i2b (v := x125.toInt8.toInt32) hx hb dX12_feed_98 rfl ?_
        refine lv_topi (fun x126 ex126 => ?_)
        refine tw_bast (i := x114) (x := x126) hx hb hK hT hG hS hg1 shm_11 rfl (vin_t (a := x114.toInt) rfl (by omega) (by omega)) (gi_b _ (by decide) (by decide)) dX12_feed_99 (fun H locs hT oq m127 oi hS => ?_)
        have hF := hF.ast hg1 skm_11 oq (by decide)
        have m128 := m58.put (by rw [nar_y ex126] at m127; exact m127) oi
        have m129 := m59.kept (oq _ (gne hg9 hg1 (by decide)))
        have m130 := (el_kept (oq _ (gne hr_o0 hg1 (by decide)))).trans m60
        have m131 := (el_kept (oq _ (gne hr_o0 hg1 (by decide)))).trans m61
        have m132 := (el_kept (oq _ (gne hg9 hg1 (by decide)))).trans m62
        have m133 := (el_kept (oq _ (gne hg9 hg1 (by decide)))).trans m63
        have m134 := (el_kept (oq _ (gne hg9 hg1 (by decide)))).trans m64
        have m135 := (el_kept (oq _ (gne hg9 hg1 (by decide)))).trans m65
        have m136 := (el_kept (oq _ (gne hg9 hg1 (by decide)))).trans m66
        refine lv_iinc (v := nI (i57 + 1)) (lv' := [(6, .int (nI (i57 + 1))), (0, .ref o0), (1, .int p0), (2, .int p1), (3, .int p2), (4, .int p3), (5, .int p4)]) hx hb dX12_feed_100 hl (k := 0) rfl (nI_add i57 1) (by decide) rfl (fun ls hl => ?_)
        refine lv_goto (tgt := 60) hx hb dX12_feed_103 (by decide) ?_
        exact ih95 (i57 + 1) (by omega) (by omega) _ _ hT hF hS (m128.ext (fun _ _ => fdK_s (by have := tn_of (show x114.toInt = x114.toInt from rfl) (by omega); have := tn_of (show tn.toInt = tn.toInt from rfl) (by omega); omega) (by rw [cx120, show (nI (i57 / 4)).toNatClampNeg = i57 / 4 from by have := tn_of (show (nI (i57 / 4)).toInt = ((i57 / 4 : Nat) : Int) from (nI_toInt (by omega))) (by omega); omega]; exact fdv_5 (by omega)) (by omega) ex125 ex126 _)) m129 m130 m131 m132 m133 m134 m135 m136 ls (lv_sub hl [0, 1, 2, 3, 4, 5, 6] rfl)
    exact key95 (20 - 0) 0 (by omega) (Nat.le_refl _) _ _ hT hF hS (m50.ext (fun _ _ => rfl)) m52 m49 m51 m53 m54 m55 m56 m48 ls (lv_sub hl [0, 1, 2, 3, 4, 5, 6] rfl)
  · have t138 : 400 < x5.toInt := ti_nle c7 rfl (by decide)
    refine lv_iconst (v := (-1)) hx hb dX12_feed_18 (by decide) ?_
    exact W.iret (v := (-1)) hx hb hr (fun t ht hW => ⟨⟨(-1), (tn, vt), rfl, (by exact ⟨(rg_t (a := (-1)) (by decide) (by first | decide | omega) (by first | decide | omega)), (Or.inr ⟨by omega, by have q0 : (0 : Int32).toInt = 0 := (by decide); have q1 : (1 : Int32).toInt = 1 := (by decide); have qm : (-1 : Int32).toInt = -1 := (by decide); omega, by omega, rfl⟩)⟩), by (try dsimp only); rw [ht]; exact ⟨hT, hF, m3, m4⟩⟩, hS.F ht⟩) hS.2.2 dX12_feed_19
def w_s_endC : List Cond := .code yX12_end cX12_end 2 (some .boolean) :: (HAppend.hAppend (α := List Cond) (β := List Cond) (γ := List Cond) [.fieldLink RX12 194 "SeaLandModel" "thrown" "I", .fieldLink RX12 332 "SeaLandModel" "taped" "I"] bs)
set_option maxHeartbeats 4000000 in
set_option maxRecDepth 100000 in
theorem s_endC (l : Launch) (dC : Nat → ClassId) (dI : Nat → Nat → Nat) (kA : Nat → ClassId) (adK adV : Nat → Nat) (G : gT) (H0 : Heap) (q : Nat → Nat) (wZ wN : Nat → Int) (wH wB wC : Int) (wL wK : Nat → Prop) (wU wV : Nat → Nat) (PI : Nat → Int → Prop) (im : Int) (PM PT : Nat → Int → Prop) (lS lB lE : Nat → Nat → Int → Prop) (lN : Nat → Int) (o0 : Nat) (p0 : Int32) (tn : Int32)  (hT : gH (dC, dI) kA (SHm q (wP wZ wN wH wB wC wL wK wU wV) PI im PM PT lS lB lE lN) G H0) (hr_o0 : G o0 = some 0) (hm_tn : el H0 o0 (dI 15 11) = some (.int tn)) (hq0 : 0 ≤ tn.toInt ∧ tn.toInt ≤ 400) (hgz : ∀ i, 0 ≤ wZ i) (hgn : ∀ i, 6500000 ≤ wN i ∧ wN i ≤ 20200000) (hgh : 0 ≤ wH ∧ wH ≤ 40000) (hgb : 0 ≤ wB ∧ wB ≤ 3850000) (hgc : 0 ≤ wC ∧ wC ≤ 30) (hgi : 0 ≤ im ∧ im ≤ 1) (hgu : ∀ a t, G a = some (t + 1) → a = q t) : Met l yX12_end w_s_endC ({ frames := 0, cells := 0, slots := 0, locals := 0 }) (va_Pc [.ref o0, .int p0] (fun U => U.heap = H0 ∧ va_K (dC, dI) vwCl (tyl kA) U ∧ EVS adK adV (gA G H0.size) U U.heap)) (va_Qi (fun (r : Int32) (u : Int32) => (0 ≤ r.toInt ∧ r.toInt ≤ 1) ∧ ((0 ≤ p0.toInt ∧ p0.toInt ≤ tn.toInt ∧ r.toInt = 1 ∧ u.toInt = p0.toInt) ∨ (¬ (0 ≤ p0.toInt ∧ p0.toInt ≤ tn.toInt) ∧ r.toInt = 0 ∧ u.toInt = tn.toInt))) (fun (t1 : Int32) (t : State) => gH (dC, dI) kA (SHm q (wP wZ wN wH wB wC wL wK wU wV) PI im PM PT lS lB lE lN) G t.heap ∧ gF (dC, dI) SKm G ([(0, 0), (0, 11)] : List (Nat × Nat)) H0 t.heap ∧ el t.heap o0 (dI 15 11) = some (.int t1)) (gA G H0.size)) 0 0 (gA G H0.size) := by
  refine Met.ofW (cc := cX12_end) (maxL := 2) (ret := (some .boolean)) (by decide) rfl ?_
  intro p e s m args below meth c s₁ B hml hv
  obtain ⟨rfl, hH0, hK, hE⟩ := hv
  have hx := B.exec
  have hb := B.bytes
  have hr := B.returns
  have hts := atoms_spec (ws := w_s_endC) B.pre
  have hown : s.vm.findClass RX12 = some m.cls := findClass_of_methodNamed B.named
  have hlocks := B.notSynchronized
  subst hH0
  generalize hAe : gA G s.heap.size = A at hE ⊢
  have hA : ∀ q : Nat, s.heap.size ≤ q → A q := fun q h => by rw [← hAe]; exact Or.inr h
  have hG := gA_of hAe
  have hS : va_S A s.heap s.heap [] := va_S.rf
  have hF : gF (dC, dI) SKm G ([(0, 0), (0, 11)] : List (Nat × Nat)) s.heap s.heap := gF.rf
  have hl := lv_entry ([.ref o0, .int p0]) (n := 2) (Nat.le_of_ble_eq_true rfl)
  rw [lg_entry_eq]
  generalize (lg_sl ([.ref o0, .int p0]) ++ List.replicate (2 - (lg_sl ([.ref o0, .int p0])).length) Slot.unset).toArray = ls at hl ⊢
  have hl : lv_has ls 2 [(0, .ref o0), (1, .int p0)] := hl
  refine lv_aload_n hx hb dX12_end_0 rfl (lv_at hl 0 rfl) ?_
  refine lv_iconst (v := 0) hx hb dX12_end_1 (by decide) ?_
  refine tw_put (v := .int 0) (ty := .int) hx hb hts bF_X12 tyX12 tyX12_ok nmX12 hown hK hT hG hS hr_o0 shm_0 rfl 0 (by decide) (ht_at hts 0 rfl) (fun _ h9 => h9) rfl (by decide +kernel) rfl rfl (gl_at rfl (gi_all _)) dX12_end_2 (fun H locs hT oq m1 oj hS => ?_)
  have hF := hF.put hr_o0 skm_0 oq oj (by decide)
  have m2 := (oj 11 (by decide) (by decide)).trans hm_tn
  refine lv_iload_n hx hb dX12_end_5 rfl (lv_at hl 1 rfl) ?_
  refine lv_if_lt (tgt := 17) hx hb dX12_end_6 (by decide) (fun c3 => ?_) (fun c3 => ?_)
  · have t4 : p0.toInt < 0 := ti_lt c3 rfl (by decide)
    refine lv_iconst (v := 0) hx hb dX12_end_17 (by decide) ?_
    exact W.zret (v := 0) hx hb hr (by decide) (fun t ht hW => ⟨⟨0, tn, rfl, (by exact ⟨(rg_t (a := 0) (by decide) (by first | decide | omega) (by first | decide | omega)), (by have : (0 : Int32).toInt = 0 := (by decide); omega)⟩), by (try dsimp only); rw [ht]; exact ⟨hT, hF, m2⟩⟩, hS.F ht⟩) hS.2.2 dX12_end_18
  · have t5 : 0 ≤ p0.toInt := ti_nlt c3 rfl (by decide)
    refine lv_iload_n hx hb dX12_end_9 rfl (lv_at hl 1 rfl) ?_
    refine lv_aload_n hx hb dX12_end_10 rfl (lv_at hl 0 rfl) ?_
    refine tw_getM (v := .int tn) hx hb hts bF_X12 hown hK hT hr_o0 shm_0 rfl 11 (by decide) (ht_at hts 1 rfl) (fun _ h9 => h9) m2 dX12_end_11 ?_
    refine lv_icmp_le (tgt := 19) hx hb dX12_end_14 (by decide) (fun c6 => ?_) (fun c6 => ?_)
    · have t7 : p0.toInt ≤ tn.toInt := ti_le c6 rfl rfl
      refine lv_aload_n hx hb dX12_end_19 rfl (lv_at hl 0 rfl) ?_
      refine lv_iload_n hx hb dX12_end_20 rfl (lv_at hl 1 rfl) ?_
      refine tw_put (v := .int p0) (ty := .int) hx hb hts bF_X12 tyX12 tyX12_ok nmX12 hown hK hT hG hS hr_o0 shm_0 rfl 11 (by decide) (ht_at hts 1 rfl) (fun _ h9 => h9) rfl (by decide +kernel) rfl rfl (gl_at rfl (gi_of (show p0.toInt = p0.toInt from rfl) (by omega) (by omega))) dX12_end_21 (fun H locs hT oq m8 oj hS => ?_)
      have hF := hF.put hr_o0 skm_0 oq oj (by decide)
      refine lv_iconst (v := 1) hx hb dX12_end_24 (by decide) ?_
      exact W.zret (v := 1) hx hb hr (by decide) (fun t ht hW => ⟨⟨1, p0, rfl, (by exact ⟨(rg_t (a := 1) (by decide) (by first | decide | omega) (by first | decide | omega)), (by have : (1 : Int32).toInt = 1 := (by decide); omega)⟩), by (try dsimp only); rw [ht]; exact ⟨hT, hF, m8⟩⟩, hS.F ht⟩) hS.2.2 dX12_end_25
    · have t10 : tn.toInt < p0.toInt := ti_nle c6 rfl rfl
      refine lv_iconst (v := 0) hx hb dX12_end_17 (by decide) ?_
      exact W.zret (v := 0) hx hb hr (by decide) (fun t ht hW => ⟨⟨0, tn, rfl, (by exact ⟨(rg_t (a := 0) (by decide) (by first | decide | omega) (by first | decide | omega)), (by have : (0 : Int32).toInt = 0 := (by decide); omega)⟩), by (try dsimp only); rw [ht]; exact ⟨hT, hF, m2⟩⟩, hS.F ht⟩) hS.2.2 dX12_end_18
def w_s_faultC : List Cond := .code yX12_fault cX12_fault 1 (some .int) :: (HAppend.hAppend (α := List Cond) (β := List Cond) (γ := List Cond) [.fieldLink RX12 194 "SeaLandModel" "thrown" "I", .fieldLink RX12 35 "SeaLandModel" "faultAt" "I"] bs)
set_option maxHeartbeats 4000000 in
set_option maxRecDepth 100000 in
theorem s_faultC (l : Launch) (dC : Nat → ClassId) (dI : Nat → Nat → Nat) (kA : Nat → ClassId) (adK adV : Nat → Nat) (G : gT) (H0 : Heap) (q : Nat → Nat) (wZ wN : Nat → Int) (wH wB wC : Int) (wL wK : Nat → Prop) (wU wV : Nat → Nat) (PI : Nat → Int → Prop) (im : Int) (PM PT : Nat → Int → Prop) (lS lB lE : Nat → Nat → Int → Prop) (lN : Nat → Int) (o0 : Nat) (fa : Int32)  (hT : gH (dC, dI) kA (SHm q (wP wZ wN wH wB wC wL wK wU wV) PI im PM PT lS lB lE lN) G H0) (hr_o0 : G o0 = some 0) (hm_fa : el H0 o0 (dI 15 16) = some (.int fa)) (hgz : ∀ i, 0 ≤ wZ i) (hgn : ∀ i, 6500000 ≤ wN i ∧ wN i ≤ 20200000) (hgh : 0 ≤ wH ∧ wH ≤ 40000) (hgb : 0 ≤ wB ∧ wB ≤ 3850000) (hgc : 0 ≤ wC ∧ wC ≤ 30) (hgi : 0 ≤ im ∧ im ≤ 1) (hgu : ∀ a t, G a = some (t + 1) → a = q t) : Met l yX12_fault w_s_faultC ({ frames := 0, cells := 0, slots := 0, locals := 0 }) (va_Pc [.ref o0] (fun U => U.heap = H0 ∧ va_K (dC, dI) vwCl (tyl kA) U ∧ EVS adK adV (gA G H0.size) U U.heap)) (va_Qi (fun (r : Int32) (u : Unit) => (r = fa)) (fun (_ : Unit) (t : State) => gH (dC, dI) kA (SHm q (wP wZ wN wH wB wC wL wK wU wV) PI im PM PT lS lB lE lN) G t.heap ∧ gF (dC, dI) SKm G ([(0, 0)] : List (Nat × Nat)) H0 t.heap) (gA G H0.size)) 0 0 (gA G H0.size) := by
  refine Met.ofW (cc := cX12_fault) (maxL := 1) (ret := (some .int)) (by decide) rfl ?_
  intro p e s m args below meth c s₁ B hml hv
  obtain ⟨rfl, hH0, hK, hE⟩ := hv
  have hx := B.exec
  have hb := B.bytes
  have hr := B.returns
  have hts := atoms_spec (ws := w_s_faultC) B.pre
  have hown : s.vm.findClass RX12 = some m.cls := findClass_of_methodNamed B.named
  have hlocks := B.notSynchronized
  subst hH0
  generalize hAe : gA G s.heap.size = A at hE ⊢
  have hA : ∀ q : Nat, s.heap.size ≤ q → A q := fun q h => by rw [← hAe]; exact Or.inr h
  have hG := gA_of hAe
  have hS : va_S A s.heap s.heap [] := va_S.rf
  have hF : gF (dC, dI) SKm G ([(0, 0)] : List (Nat × Nat)) s.heap s.heap := gF.rf
  have hl := lv_entry ([.ref o0]) (n := 1) (Nat.le_of_ble_eq_true rfl)
  rw [lg_entry_eq]
  generalize (lg_sl ([.ref o0]) ++ List.replicate (1 - (lg_sl ([.ref o0])).length) Slot.unset).toArray = ls at hl ⊢
  have hl : lv_has ls 1 [(0, .ref o0)] := hl
  refine lv_aload_n hx hb dX12_fault_0 rfl (lv_at hl 0 rfl) ?_
  refine lv_iconst (v := 0) hx hb dX12_fault_1 (by decide) ?_
  refine tw_put (v := .int 0) (ty := .int) hx hb hts bF_X12 tyX12 tyX12_ok nmX12 hown hK hT hG hS hr_o0 shm_0 rfl 0 (by decide) (ht_at hts 0 rfl) (fun _ h9 => h9) rfl (by decide +kernel) rfl rfl (gl_at rfl (gi_all _)) dX12_fault_2 (fun H locs hT oq m1 oj hS => ?_)
  have hF := hF.put hr_o0 skm_0 oq oj (by decide)
  have m2 := (oj 16 (by decide) (by decide)).trans hm_fa
  refine lv_aload_n hx hb dX12_fault_5 rfl (lv_at hl 0 rfl) ?_
  refine tw_getM (v := .int fa) hx hb hts bF_X12 hown hK hT hr_o0 shm_0 rfl 16 (by decide) (ht_at hts 1 rfl) (fun _ h9 => h9) m2 dX12_fault_6 ?_
  exact W.iret (v := fa) hx hb hr (fun t ht hW => ⟨⟨fa, (), rfl, (by exact rfl), by (try dsimp only); rw [ht]; exact ⟨hT, hF⟩⟩, hS.F ht⟩) hS.2.2 dX12_fault_9
def w_s_holdsZ : List Cond := .code yX12_holds cX12_holds 9 (some .boolean) :: (HAppend.hAppend (α := List Cond) (β := List Cond) (γ := List Cond) [.fieldLink RX12 60 "SeaLandModel" "begins" "[I", .fieldLink RX12 63 "SeaLandModel" "ends" "[I", .fieldLink RX12 66 "SeaLandModel" "step" "[I", .fieldLink RX12 72 "SeaLandModel" "value" "[J", .methodLink RX12 471 Lib.MathLoose.max_long.x, .static Lib.MathLoose.max_long.x, .initialized "java/lang/Math", .code Lib.MathLoose.max_long.x Lib.MathLoose.max_long.code 4 (some .long), .fieldLink RX12 69 "SeaLandModel" "than" "[I", .fieldLink RX12 76 "SeaLandModel" "facts" "[J"] bs)
