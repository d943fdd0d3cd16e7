set_option maxHeartbeats 4000000 in
set_option maxRecDepth 100000 in
theorem s_landC (l : Launch) (dC : Nat → ClassId) (dI : Nat → Nat → Nat) (kA : Nat → ClassId) (adK adV : Nat → Nat) (G : gT) (H0 : Heap) (q : Nat → Nat) (wZ wN : Nat → Int) (wH wB wC : Int) (wL wK : Nat → Prop) (wU wV : Nat → Nat) (PI : Nat → Int → Prop) (im : Int) (PM PT : Nat → Int → Prop) (lS lB lE : Nat → Nat → Int → Prop) (lN : Nat → Int) (o0 : Nat) (p0 : Int32) (p1 : Int32) (p2 : Int32) (p3 : Int32) (p4 : Int32) (L : Nat → Int) (hT : gH (dC, dI) kA (SHm q (wP wZ0 wN wH wB wC wL wK wU wV) PI im PM PT lS lB lE lN) G H0) (hr_o0 : G o0 = some 0) (hL : ∀ i, i < 96 → (wL i ↔ L i = 1) ∧ (0 ≤ L i ∧ L i ≤ 1)) (hgz : ∀ i, 0 ≤ wZ i) (hgn : ∀ i, 6500000 ≤ wN i ∧ wN i ≤ 20200000) (hgh : 0 ≤ wH ∧ wH ≤ 40000) (hgb : 0 ≤ wB ∧ wB ≤ 3850000) (hgc : 0 ≤ wC ∧ wC ≤ 30) (hgi : 0 ≤ im ∧ im ≤ 1) (hgu : ∀ a t, G a = some (t + 1) → a = q t) : Met l yX12_land w_s_landC ({ frames := 2, cells := 0, slots := 0, locals := 64 }) (va_Pc [.ref o0, .int p0, .int p1, .int p2, .int p3, .int p4] (fun U => U.heap = H0 ∧ va_K (dC, dI) vwCl (tyl kA) U ∧ EVS adK adV (gA G H0.size) U U.heap)) (va_Qi (fun (r : Int32) (u : Int32 × (Nat → Prop)) => match u with | (t1, wL1) => (0 ≤ r.toInt ∧ r.toInt ≤ 96) ∧ (∀ j, wL j → wL1 j) ∧ ((laC wH p0.toInt p1.toInt p2.toInt p3.toInt p4.toInt = 0 ∧ t1.toInt = 0 ∧ wL1 = lndB wL p0.toInt p1.toInt 96 ∧ r.toInt = ldN L p0.toInt p1.toInt 96) ∨ (laC wH p0.toInt p1.toInt p2.toInt p3.toInt p4.toInt ≠ 0 ∧ t1.toInt = laC wH p0.toInt p1.toInt p2.toInt p3.toInt p4.toInt ∧ wL1 = wL))) (fun (u : Int32 × (Nat → Prop)) (t : State) => match u with | (t1, wL1) => gH (dC, dI) kA (SHm q (wP wZ0 wN wH wB wC wL1 wK wU wV) PI im PM PT lS lB lE lN) G t.heap ∧ gF (dC, dI) SKm G ([(0, 0), (0, 9), (2, 0)] : List (Nat × Nat)) H0 t.heap ∧ el t.heap o0 (dI 15 0) = some (.int t1)) (gA G H0.size)) 0 0 (gA G H0.size) := by
  refine Met.ofW (cc := cX12_land) (maxL := 8) (ret := (some .int)) (by decide) rfl ?_
  intro p e s m args below meth c s₁ B hml hv
  obtain ⟨rfl, hH0, hK, hE⟩ := hv
  have hx := B.exec
  have hb := B.bytes
  have hr := B.returns
  have hts := atoms_spec (ws := w_s_landC) B.pre
  have hown : s.vm.findClass RX12 = some m.cls := findClass_of_methodNamed B.named
  have hlocks := B.notSynchronized
  subst hH0
  generalize hAe : gA G s.heap.size = A at hE ⊢
  have hA : ∀ q : Nat, s.heap.size ≤ q → A q := fun q h => by rw [← hAe]; exact Or.inr h
  have hG := gA_of hAe
  have hS : va_S A s.heap s.heap [] := va_S.rf
  have hF : gF (dC, dI) SKm G ([(0, 0), (0, 9), (2, 0)] : List (Nat × Nat)) s.heap s.heap := gF.rf
  have hl := lv_entry ([.ref o0, .int p0, .int p1, .int p2, .int p3, .int p4]) (n := 8) (Nat.le_of_ble_eq_true rfl)
  rw [lg_entry_eq]
  generalize (lg_sl ([.ref o0, .int p0, .int p1, .int p2, .int p3, .int p4]) ++ List.replicate (8 - (lg_sl ([.ref o0, .int p0, .int p1, .int p2, .int p3, .int p4])).length) Slot.unset).toArray = ls at hl ⊢
  have hl : lv_has ls 8 [(0, .ref o0), (1, .int p0), (2, .int p1), (3, .int p2), (4, .int p3), (5, .int p4)] := hl
  refine lv_aload_n hx hb dX12_land_0 rfl (lv_at hl 0 rfl) ?_
  refine lv_iconst (v := 0) hx hb dX12_land_1 (by decide) ?_
  refine tw_put (v := .int 0) (ty := .int) hx hb hts bF_X12 tyX12 tyX12_ok nmX12 hown hK hT hG hS hr_o0 shm_0 rfl 0 (by decide) (ht_at hts 0 rfl) (fun _ h9 => h9) rfl (by decide +kernel) rfl rfl (gl_at rfl (gi_all _)) dX12_land_2 (fun H locs hT oq m1 oj hS => ?_)
  have hF := hF.put hr_o0 skm_0 oq oj (by decide)
  refine lv_aload_n hx hb dX12_land_5 rfl (lv_at hl 0 rfl) ?_
  refine lv_iload_n hx hb dX12_land_6 rfl (lv_at hl 1 rfl) ?_
  have hFc := gA_free hG hA hS
  refine va_calli (va_runS (As := [.int p0]) (rest := [.ref o0]) ⟨hx, hb, hml, hown, hts⟩ (s_noSquareE l dC dI kA adK adV G H q wZ0 wN wH wB wC wL wK wU wV PI im PM PT lS lB lE lN p0 hT (fun _ => Int.le_refl 0) hgn hgh hgb hgc hgi hgu) (va_cwS 1 hts (goodIn_app (goodIn_r _ [7, 8, 6] rfl (by decide +kernel)) (goodIn_ca (goodIn_r _ [2, 3, 4, 5, 6] rfl (by decide +kernel)) (bs_in _ _))) rfl rfl rfl (by decide +kernel) ⟨(Nat.le_of_ble_eq_true rfl), (Nat.le_of_ble_eq_true rfl)⟩) ⟨fun a U g mk q => by obtain ⟨q0, q1, qK, qE⟩ := q; exact ⟨q0, q1, va_K.moved (u := U) (U := U.calling g mk a) (Vm.Alike.refl U.vm) qK, EVS.blind g mk a qE⟩, fun U hU hW => ⟨rfl, hU, va_K.moved hW.alike hK, hE.call hS hFc hU hW⟩⟩ rfl rfl hl.1 rfl (lv_room (Nat.le_of_ble_eq_true rfl)) dX12_land_7 ⟨(Nat.le_of_ble_eq_true rfl), (Nat.le_of_ble_eq_true rfl)⟩) hS (fun q _ h => hFc q h) hFc (fun r2 u t H locs ht hvm hw3 hB _ _ hS => ?_)
  obtain ⟨hT, hF1⟩ := hB
  rw [ht] at hT hF1
  have m4 := (hF1.fld hr_o0 skm_0 (k := 0) (by decide) (by decide)).trans m1
  have hF := hF.more hF1 (by decide)
  try dsimp only at hw3
  obtain ⟨h5, hf6⟩ := hw3
  refine lv_if_ne (tgt := 20) hx hb dX12_land_10 (by decide) (fun c7 => ?_) (fun c7 => ?_)
  · have t8 : r2.toInt ≠ 0 := ti_ne c7 rfl (by decide)
    refine lv_iconst (v := 1) hx hb dX12_land_20 (by decide) ?_
    refine lv_goto (tgt := 25) hx hb dX12_land_21 (by decide) ?_
    refine lv_iconst (v := 1) hx hb dX12_land_25 (by decide) ?_
    have hFc := gA_free hG hA hS
    refine va_calli (va_runV (As := [.int 1, .int 1]) (rest := []) ⟨hx, hb, hml, hown, hts⟩ (s_throwsIfP l dC dI kA adK adV G H q wZ0 wN wH wB wC wL wK wU wV PI im PM PT lS lB lE lN o0 1 1 0 hT hr_o0 m4 (rg_t (a := 1) (by decide) (by first | decide | omega) (by first | decide | omega)) (fun _ => Int.le_refl 0) hgn hgh hgb hgc hgi hgu) (cwV 2 hts (goodIn_app (goodIn_r _ [10, 11, 12, 6] rfl (by decide +kernel)) (goodIn_ca (goodIn_r _ [9, 1] rfl (by decide +kernel)) (bs_in _ _))) rfl rfl rfl (by decide +kernel) ⟨(Nat.le_of_ble_eq_true rfl), (Nat.le_of_ble_eq_true rfl)⟩) ⟨fun a U g mk q => by obtain ⟨q0, q1, qK, qE⟩ := q; exact ⟨q0, q1, va_K.moved (u := U) (U := U.calling g mk a) (Vm.Alike.refl U.vm) qK, EVS.blind g mk a qE⟩, gH_rc hK hT hr_o0 shm_0 rfl, fun U hU hW => ⟨rfl, hU, va_K.moved hW.alike hK, hE.call hS hFc hU hW⟩⟩ rfl rfl hl.1 rfl (lv_room (Nat.le_of_ble_eq_true rfl)) dX12_land_26 ⟨(Nat.le_of_ble_eq_true rfl), (Nat.le_of_ble_eq_true rfl)⟩) hS (fun q _ h => hFc q h) hFc (fun r9 u t H locs ht hvm hw10 hB _ _ hS => ?_)
    obtain ⟨u11, rfl⟩ : ∃ z, z = u := ⟨_, rfl⟩
    obtain ⟨hT, hF1, m12⟩ := hB
    rw [ht] at hT hF1 m12
    have hF := hF.more hF1 (by decide)
    try dsimp only at hw10
    obtain ⟨h14, hf15, hd16⟩ := hw10
    have t17 : (1 : Int32).toInt = 1 := by decide
    have t18 : (1 : Int32).toInt = 1 := by decide
    have t19 : (0 : Int32).toInt = 0 := by decide
    obtain rfl : (1 : Int32) = r9 := hd16.symm
    refine lv_if_ne (tgt := 99) hx hb dX12_land_29 (by decide) (fun c20 => ?_) (fun c20 => absurd c20 (by decide))
    refine lv_iconst (v := 0) hx hb dX12_land_99 (by decide) ?_
    exact W.iret (v := 0) hx hb hr (fun t ht hW => ⟨⟨0, (u11, wL), rfl, (by exact ⟨(rg_t (a := 0) (by decide) (by first | decide | omega) (by first | decide | omega)), (fun _ h9 => h9), (Or.inr ⟨by have := laC_s wH p0.toInt p1.toInt p2.toInt p3.toInt p4.toInt; have q0 : (0 : Int32).toInt = 0 := (by decide); have q1 : (1 : Int32).toInt = 1 := (by decide); have q2 : (2 : Int32).toInt = 2 := (by decide); have q3 : (3 : Int32).toInt = 3 := (by decide); have qm : (-1 : Int32).toInt = -1 := (by decide); omega, by have := laC_s wH p0.toInt p1.toInt p2.toInt p3.toInt p4.toInt; have q0 : (0 : Int32).toInt = 0 := (by decide); have q1 : (1 : Int32).toInt = 1 := (by decide); have q2 : (2 : Int32).toInt = 2 := (by decide); have q3 : (3 : Int32).toInt = 3 := (by decide); have qm : (-1 : Int32).toInt = -1 := (by decide); omega, rfl⟩)⟩), by (try dsimp only); rw [ht]; exact ⟨hT, hF, m12⟩⟩, hS.F ht⟩) hS.2.2 dX12_land_100
  · have t21 : r2.toInt = 0 := ti_eq c7 rfl (by decide)
    refine lv_iload_n hx hb dX12_land_13 rfl (lv_at hl 2 rfl) ?_
    have hFc := gA_free hG hA hS
    refine va_calli (va_runS (As := [.int p1]) (rest := [.ref o0]) ⟨hx, hb, hml, hown, hts⟩ (s_noSquareE l dC dI kA adK adV G H q wZ0 wN wH wB wC wL wK wU wV PI im PM PT lS lB lE lN p1 hT (fun _ => Int.le_refl 0) hgn hgh hgb hgc hgi hgu) (va_cwS 1 hts (goodIn_app (goodIn_r _ [7, 8, 6] rfl (by decide +kernel)) (goodIn_ca (goodIn_r _ [2, 3, 4, 5, 6] rfl (by decide +kernel)) (bs_in _ _))) rfl rfl rfl (by decide +kernel) ⟨(Nat.le_of_ble_eq_true rfl), (Nat.le_of_ble_eq_true rfl)⟩) ⟨fun a U g mk q => by obtain ⟨q0, q1, qK, qE⟩ := q; exact ⟨q0, q1, va_K.moved (u := U) (U := U.calling g mk a) (Vm.Alike.refl U.vm) qK, EVS.blind g mk a qE⟩, fun U hU hW => ⟨rfl, hU, va_K.moved hW.alike hK, hE.call hS hFc hU hW⟩⟩ rfl rfl hl.1 rfl (lv_room (Nat.le_of_ble_eq_true rfl)) dX12_land_14 ⟨(Nat.le_of_ble_eq_true rfl), (Nat.le_of_ble_eq_true rfl)⟩) hS (fun q _ h => hFc q h) hFc (fun r22 u t H locs ht hvm hw23 hB _ _ hS => ?_)
    obtain ⟨hT, hF1⟩ := hB
    rw [ht] at hT hF1
    have m24 := (hF1.fld hr_o0 skm_0 (k := 0) (by decide) (by decide)).trans m4
    have hF := hF.more hF1 (by decide)
    try dsimp only at hw23
    obtain ⟨h25, hf26⟩ := hw23
    refine lv_if_eq (tgt := 24) hx hb dX12_land_17 (by decide) (fun c27 => ?_) (fun c27 => ?_)
    · have t28 : r22.toInt = 0 := ti_eq c27 rfl (by decide)
      refine lv_iconst (v := 0) hx hb dX12_land_24 (by decide) ?_
      refine lv_iconst (v := 1) hx hb dX12_land_25 (by decide) ?_
      have hFc := gA_free hG hA hS
      refine va_calli (va_runV (As := [.int 0, .int 1]) (rest := []) ⟨hx, hb, hml, hown, hts⟩ (s_throwsIfP l dC dI kA adK adV G H q wZ0 wN wH wB wC wL wK wU wV PI im PM PT lS lB lE lN o0 0 1 0 hT hr_o0 m24 (rg_t (a := 0) (by decide) (by first | decide | omega) (by first | decide | omega)) (fun _ => Int.le_refl 0) hgn hgh hgb hgc hgi hgu) (cwV 2 hts (goodIn_app (goodIn_r _ [10, 11, 12, 6] rfl (by decide +kernel)) (goodIn_ca (goodIn_r _ [9, 1] rfl (by decide +kernel)) (bs_in _ _))) rfl rfl rfl (by decide +kernel) ⟨(Nat.le_of_ble_eq_true rfl), (Nat.le_of_ble_eq_true rfl)⟩) ⟨fun a U g mk q => by obtain ⟨q0, q1, qK, qE⟩ := q; exact ⟨q0, q1, va_K.moved (u := U) (U := U.calling g mk a) (Vm.Alike.refl U.vm) qK, EVS.blind g mk a qE⟩, gH_rc hK hT hr_o0 shm_0 rfl, fun U hU hW => ⟨rfl, hU, va_K.moved hW.alike hK, hE.call hS hFc hU hW⟩⟩ rfl rfl hl.1 rfl (lv_room (Nat.le_of_ble_eq_true rfl)) dX12_land_26 ⟨(Nat.le_of_ble_eq_true rfl), (Nat.le_of_ble_eq_true rfl)⟩) hS (fun q _ h => hFc q h) hFc (fun r29 u t H locs ht hvm hw30 hB _ _ hS => ?_)
      obtain ⟨u31, rfl⟩ : ∃ z, z = u := ⟨_, rfl⟩
      obtain ⟨hT, hF1, m32⟩ := hB
      rw [ht] at hT hF1 m32
      have hF := hF.more hF1 (by decide)
      try dsimp only at hw30
      obtain ⟨h34, hf35, hd36⟩ := hw30
      have t37 : (0 : Int32).toInt = 0 := by decide
      have t38 : (1 : Int32).toInt = 1 := by decide
      have t39 : (0 : Int32).toInt = 0 := by decide
      obtain rfl : (0 : Int32) = r29 := hd36.symm
      refine lv_if_ne (tgt := 99) hx hb dX12_land_29 (by decide) (fun c40 => absurd c40 (by decide)) (fun c40 => ?_)
      refine lv_aload_n hx hb dX12_land_32 rfl (lv_at hl 0 rfl) ?_
      refine lv_iload_n hx hb dX12_land_33 rfl (lv_at hl 3 rfl) ?_
      refine lv_sipush (v := (-900)) hx hb dX12_land_34 (by decide) ?_
      refine lv_sipush (v := 300) hx hb dX12_land_37 (by decide) ?_
      have hFc := gA_free hG hA hS
      refine va_calli (va_runS (As := [.int p2, .int (-900), .int 300]) (rest := [.ref o0]) ⟨hx, hb, hml, hown, hts⟩ (s_in l dC dI kA adK adV G H q wZ0 wN wH wB wC wL wK wU wV PI im PM PT lS lB lE lN p2 (-900) 300 hT (fun _ => Int.le_refl 0) hgn hgh hgb hgc hgi hgu) (va_cwS 3 hts (goodIn_app (goodIn_r _ [4, 5, 6] rfl (by decide +kernel)) (goodIn_ca (goodIn_r _ [3] rfl (by decide +kernel)) (bs_in _ _))) rfl rfl rfl (by decide +kernel) ⟨(Nat.le_of_ble_eq_true rfl), (Nat.le_of_ble_eq_true rfl)⟩) ⟨fun a U g mk q => by obtain ⟨q0, q1, qK, qE⟩ := q; exact ⟨q0, q1, va_K.moved (u := U) (U := U.calling g mk a) (Vm.Alike.refl U.vm) qK, EVS.blind g mk a qE⟩, fun U hU hW => ⟨rfl, hU, va_K.moved hW.alike hK, hE.call hS hFc hU hW⟩⟩ rfl rfl hl.1 rfl (lv_room (Nat.le_of_ble_eq_true rfl)) dX12_land_40 ⟨(Nat.le_of_ble_eq_true rfl), (Nat.le_of_ble_eq_true rfl)⟩) hS (fun q _ h => hFc q h) hFc (fun r41 u t H locs ht hvm hw42 hB _ _ hS => ?_)
      obtain ⟨hT, hF1⟩ := hB
      rw [ht] at hT hF1
      have m43 := (hF1.fld hr_o0 skm_0 (k := 0) (by decide) (by decide)).trans m32
      have hF := hF.more hF1 (by decide)
      try dsimp only at hw42
      obtain ⟨h44, hi45, hi46⟩ := hw42
      refine lv_if_eq (tgt := 67) hx hb dX12_land_43 (by decide) (fun c47 => ?_) (fun c47 => ?_)
      · have t48 : r41.toInt = 0 := ti_eq c47 rfl (by decide)
        have t49 : (-900 : Int32).toInt = (-900) := by decide
        have t50 : (300 : Int32).toInt = 300 := by decide
        have t51 : p2.toInt < (-900 : Int32).toInt ∨ (300 : Int32).toInt < p2.toInt := hi46 c47
        refine lv_iconst (v := 1) hx hb dX12_land_67 (by decide) ?_
        refine lv_goto (tgt := 72) hx hb dX12_land_68 (by decide) ?_
        refine lv_iconst (v := 2) hx hb dX12_land_72 (by decide) ?_
        have hFc := gA_free hG hA hS
        refine va_calli (va_runV (As := [.int 1, .int 2]) (rest := []) ⟨hx, hb, hml, hown, hts⟩ (s_throwsIfP l dC dI kA adK adV G H q wZ0 wN wH wB wC wL wK wU wV PI im PM PT lS lB lE lN o0 1 2 u31 hT hr_o0 m43 (rg_t (a := 1) (by decide) (by first | decide | omega) (by first | decide | omega)) (fun _ => Int.le_refl 0) hgn hgh hgb hgc hgi hgu) (cwV 2 hts (goodIn_app (goodIn_r _ [10, 11, 12, 6] rfl (by decide +kernel)) (goodIn_ca (goodIn_r _ [9, 1] rfl (by decide +kernel)) (bs_in _ _))) rfl rfl rfl (by decide +kernel) ⟨(Nat.le_of_ble_eq_true rfl), (Nat.le_of_ble_eq_true rfl)⟩) ⟨fun a U g mk q => by obtain ⟨q0, q1, qK, qE⟩ := q; exact ⟨q0, q1, va_K.moved (u := U) (U := U.calling g mk a) (Vm.Alike.refl U.vm) qK, EVS.blind g mk a qE⟩, gH_rc hK hT hr_o0 shm_0 rfl, fun U hU hW => ⟨rfl, hU, va_K.moved hW.alike hK, hE.call hS hFc hU hW⟩⟩ rfl rfl hl.1 rfl (lv_room (Nat.le_of_ble_eq_true rfl)) dX12_land_73 ⟨(Nat.le_of_ble_eq_true rfl), (Nat.le_of_ble_eq_true rfl)⟩) hS (fun q _ h => hFc q h) hFc (fun r52 u t H locs ht hvm hw53 hB _ _ hS => ?_)
        obtain ⟨u54, rfl⟩ : ∃ z, z = u := ⟨_, rfl⟩
        obtain ⟨hT, hF1, m55⟩ := hB
        rw [ht] at hT hF1 m55
        have hF := hF.more hF1 (by decide)
        try dsimp only at hw53
        obtain ⟨h57, hf58, hd59⟩ := hw53
        have t60 : (1 : Int32).toInt = 1 := by decide
        have t61 : (2 : Int32).toInt = 2 := by decide
        obtain rfl : (1 : Int32) = r52 := hd59.symm
        refine lv_if_ne (tgt := 99) hx hb dX12_land_76 (by decide) (fun c62 => ?_) (fun c62 => absurd c62 (by decide))
        refine lv_iconst (v := 0) hx hb dX12_land_99 (by decide) ?_
        exact W.iret (v := 0) hx hb hr (fun t ht hW => ⟨⟨0, (u54, wL), rfl, (by exact ⟨(rg_t (a := 0) (by decide) (by first | decide | omega) (by first | decide | omega)), (fun _ h9 => h9), (Or.inr ⟨by have := laC_s wH p0.toInt p1.toInt p2.toInt p3.toInt p4.toInt; have q0 : (0 : Int32).toInt = 0 := (by decide); have q1 : (1 : Int32).toInt = 1 := (by decide); have q2 : (2 : Int32).toInt = 2 := (by decide); have q3 : (3 : Int32).toInt = 3 := (by decide); have qm : (-1 : Int32).toInt = -1 := (by decide); omega, by have := laC_s wH p0.toInt p1.toInt p2.toInt p3.toInt p4.toInt; have q0 : (0 : Int32).toInt = 0 := (by decide); have q1 : (1 : Int32).toInt = 1 := (by decide); have q2 : (2 : Int32).toInt = 2 := (by decide); have q3 : (3 : Int32).toInt = 3 := (by decide); have qm : (-1 : Int32).toInt = -1 := (by decide); omega, rfl⟩)⟩), by (try dsimp only); rw [ht]; exact ⟨hT, hF, m55⟩⟩, hS.F ht⟩) hS.2.2 dX12_land_100
      · have t63 : r41.toInt ≠ 0 := ti_ne c47 rfl (by decide)
        have t64 : (-900 : Int32).toInt = (-900) := by decide
        have t65 : (300 : Int32).toInt = 300 := by decide
        have t66 : (-900 : Int32).toInt ≤ p2.toInt ∧ p2.toInt ≤ (300 : Int32).toInt := hi45 ((bit_of ⟨by omega, by omega⟩).resolve_left c47)
        refine lv_iload hx hb dX12_land_46 (lv_at hl 4 rfl) ?_
        refine lv_iconst (v := 0) hx hb dX12_land_48 (by decide) ?_
        refine lv_iconst (v := 2) hx hb dX12_land_49 (by decide) ?_
        have hFc := gA_free hG hA hS
        refine va_calli (va_runS (As := [.int p3, .int 0, .int 2]) (rest := [.ref o0]) ⟨hx, hb, hml, hown, hts⟩ (s_in l dC dI kA adK adV G H q wZ0 wN wH wB wC wL wK wU wV PI im PM PT lS lB lE lN p3 0 2 hT (fun _ => Int.le_refl 0) hgn hgh hgb hgc hgi hgu) (va_cwS 3 hts (goodIn_app (goodIn_r _ [4, 5, 6] rfl (by decide +kernel)) (goodIn_ca (goodIn_r _ [3] rfl (by decide +kernel)) (bs_in _ _))) rfl rfl rfl (by decide +kernel) ⟨(Nat.le_of_ble_eq_true rfl), (Nat.le_of_ble_eq_true rfl)⟩) ⟨fun a U g mk q => by obtain ⟨q0, q1, qK, qE⟩ := q; exact ⟨q0, q1, va_K.moved (u := U) (U := U.calling g mk a) (Vm.Alike.refl U.vm) qK, EVS.blind g mk a qE⟩, fun U hU hW => ⟨rfl, hU, va_K.moved hW.alike hK, hE.call hS hFc hU hW⟩⟩ rfl rfl hl.1 rfl (lv_room (Nat.le_of_ble_eq_true rfl)) dX12_land_50 ⟨(Nat.le_of_ble_eq_true rfl), (Nat.le_of_ble_eq_true rfl)⟩) hS (fun q _ h => hFc q h) hFc (fun r67 u t H locs ht hvm hw68 hB _ _ hS => ?_)
        obtain ⟨hT, hF1⟩ := hB
        rw [ht] at hT hF1
        have m69 := (hF1.fld hr_o0 skm_0 (k := 0) (by decide) (by decide)).trans m43
        have hF := hF.more hF1 (by decide)
        try dsimp only at hw68
        obtain ⟨h70, hi71, hi72⟩ := hw68
        refine lv_if_eq (tgt := 67) hx hb dX12_land_53 (by decide) (fun c73 => ?_) (fun c73 => ?_)
        · have t74 : r67.toInt = 0 := ti_eq c73 rfl (by decide)
          have t75 : (0 : Int32).toInt = 0 := by decide
          have t76 : (2 : Int32).toInt = 2 := by decide
          have t77 : p3.toInt < (0 : Int32).toInt ∨ (2 : Int32).toInt < p3.toInt := hi72 c73
          refine lv_iconst (v := 1) hx hb dX12_land_67 (by decide) ?_
          refine lv_goto (tgt := 72) hx hb dX12_land_68 (by decide) ?_
          refine lv_iconst (v := 2) hx hb dX12_land_72 (by decide) ?_
          have hFc := gA_free hG hA hS
          refine va_calli (va_runV (As := [.int 1, .int 2]) (rest := []) ⟨hx, hb, hml, hown, hts⟩ (s_throwsIfP l dC dI kA adK adV G H q wZ0 wN wH wB wC wL wK wU wV PI im PM PT lS lB lE lN o0 1 2 u31 hT hr_o0 m69 (rg_t (a := 1) (by decide) (by first | decide | omega) (by first | decide | omega)) (fun _ => Int.le_refl 0) hgn hgh hgb hgc hgi hgu) (cwV 2 hts (goodIn_app (goodIn_r _ [10, 11, 12, 6] rfl (by decide +kernel)) (goodIn_ca (goodIn_r _ [9, 1] rfl (by decide +kernel)) (bs_in _ _))) rfl rfl rfl (by decide +kernel) ⟨(Nat.le_of_ble_eq_true rfl), (Nat.le_of_ble_eq_true rfl)⟩) ⟨fun a U g mk q => by obtain ⟨q0, q1, qK, qE⟩ := q; exact ⟨q0, q1, va_K.moved (u := U) (U := U.calling g mk a) (Vm.Alike.refl U.vm) qK, EVS.blind g mk a qE⟩, gH_rc hK hT hr_o0 shm_0 rfl, fun U hU hW => ⟨rfl, hU, va_K.moved hW.alike hK, hE.call hS hFc hU hW⟩⟩ rfl rfl hl.1 rfl (lv_room (Nat.le_of_ble_eq_true rfl)) dX12_land_73 ⟨(Nat.le_of_ble_eq_true rfl), (Nat.le_of_ble_eq_true rfl)⟩) hS (fun q _ h => hFc q h) hFc (fun r78 u t H locs ht hvm hw79 hB _ _ hS => ?_)
          obtain ⟨u80, rfl⟩ : ∃ z, z = u := ⟨_, rfl⟩
          obtain ⟨hT, hF1, m81⟩ := hB
          rw [ht] at hT hF1 m81
          have hF := hF.more hF1 (by decide)
          try dsimp only at hw79
          obtain ⟨h83, hf84, hd85⟩ := hw79
          have t86 : (1 : Int32).toInt = 1 := by decide
          have t87 : (2 : Int32).toInt = 2 := by decide
          obtain rfl : (1 : Int32) = r78 := hd85.symm
          refine lv_if_ne (tgt := 99) hx hb dX12_land_76 (by decide) (fun c88 => ?_) (fun c88 => absurd c88 (by decide))
          refine lv_iconst (v := 0) hx hb dX12_land_99 (by decide) ?_
          exact W.iret (v := 0) hx hb hr (fun t ht hW => ⟨⟨0, (u80, wL), rfl, (by exact ⟨(rg_t (a := 0) (by decide) (by first | decide | omega) (by first | decide | omega)), (fun _ h9 => h9), (Or.inr ⟨by have := laC_s wH p0.toInt p1.toInt p2.toInt p3.toInt p4.toInt; have q0 : (0 : Int32).toInt = 0 := (by decide); have q1 : (1 : Int32).toInt = 1 := (by decide); have q2 : (2 : Int32).toInt = 2 := (by decide); have q3 : (3 : Int32).toInt = 3 := (by decide); have qm : (-1 : Int32).toInt = -1 := (by decide); omega, by have := laC_s wH p0.toInt p1.toInt p2.toInt p3.toInt p4.toInt; have q0 : (0 : Int32).toInt = 0 := (by decide); have q1 : (1 : Int32).toInt = 1 := (by decide); have q2 : (2 : Int32).toInt = 2 := (by decide); have q3 : (3 : Int32).toInt = 3 := (by decide); have qm : (-1 : Int32).toInt = -1 := (by decide); omega, rfl⟩)⟩), by (try dsimp only); rw [ht]; exact ⟨hT, hF, m81⟩⟩, hS.F ht⟩) hS.2.2 dX12_land_100
        · have t89 : r67.toInt ≠ 0 := ti_ne c73 rfl (by decide)
          have t90 : (0 : Int32).toInt = 0 := by decide
          have t91 : (2 : Int32).toInt = 2 := by decide
          have t92 : (0 : Int32).toInt ≤ p3.toInt ∧ p3.toInt ≤ (2 : Int32).toInt := hi71 ((bit_of ⟨by omega, by omega⟩).resolve_left c73)
          refine lv_iload hx hb dX12_land_56 (lv_at hl 5 rfl) ?_
          refine lv_iconst (v := 0) hx hb dX12_land_58 (by decide) ?_
          refine lv_bipush (v := 20) hx hb dX12_land_59 (by decide) ?_
          have hFc := gA_free hG hA hS
          refine va_calli (va_runS (As := [.int p4, .int 0, .int 20]) (rest := [.ref o0]) ⟨hx, hb, hml, hown, hts⟩ (s_in l dC dI kA adK adV G H q wZ0 wN wH wB wC wL wK wU wV PI im PM PT lS lB lE lN p4 0 20 hT (fun _ => Int.le_refl 0) hgn hgh hgb hgc hgi hgu) (va_cwS 3 hts (goodIn_app (goodIn_r _ [4, 5, 6] rfl (by decide +kernel)) (goodIn_ca (goodIn_r _ [3] rfl (by decide +kernel)) (bs_in _ _))) rfl rfl rfl (by decide +kernel) ⟨(Nat.le_of_ble_eq_true rfl), (Nat.le_of_ble_eq_true rfl)⟩) ⟨fun a U g mk q => by obtain ⟨q0, q1, qK, qE⟩ := q; exact ⟨q0, q1, va_K.moved (u := U) (U := U.calling g mk a) (Vm.Alike.refl U.vm) qK, EVS.blind g mk a qE⟩, fun U hU hW => ⟨rfl, hU, va_K.moved hW.alike hK, hE.call hS hFc hU hW⟩⟩ rfl rfl hl.1 rfl (lv_room (Nat.le_of_ble_eq_true rfl)) dX12_land_61 ⟨(Nat.le_of_ble_eq_true rfl), (Nat.le_of_ble_eq_true rfl)⟩) hS (fun q _ h => hFc q h) hFc (fun r93 u t H locs ht hvm hw94 hB _ _ hS => ?_)
          obtain ⟨hT, hF1⟩ := hB
          rw [ht] at hT hF1
          have m95 := (hF1.fld hr_o0 skm_0 (k := 0) (by decide) (by decide)).trans m69
          have hF := hF.more hF1 (by decide)
          try dsimp only at hw94
          obtain ⟨h96, hi97, hi98⟩ := hw94
          refine lv_if_ne (tgt := 71) hx hb dX12_land_64 (by decide) (fun c99 => ?_) (fun c99 => ?_)
          · have t100 : r93.toInt ≠ 0 := ti_ne c99 rfl (by decide)
            have t101 : (0 : Int32).toInt = 0 := by decide
            have t102 : (20 : Int32).toInt = 20 := by decide
            have t103 : (0 : Int32).toInt ≤ p4.toInt ∧ p4.toInt ≤ (20 : Int32).toInt := hi97 ((bit_of ⟨by omega, by omega⟩).resolve_left c99)
            refine lv_iconst (v := 0) hx hb dX12_land_71 (by decide) ?_
            refine lv_iconst (v := 2) hx hb dX12_land_72 (by decide) ?_
            have hFc := gA_free hG hA hS
            refine va_calli (va_runV (As := [.int 0, .int 2]) (rest := []) ⟨hx, hb, hml, hown, hts⟩ (s_throwsIfP l dC dI kA adK adV G H q wZ0 wN wH wB wC wL wK wU wV PI im PM PT lS lB lE lN o0 0 2 u31 hT hr_o0 m95 (rg_t (a := 0) (by decide) (by first | decide | omega) (by first | decide | omega)) (fun _ => Int.le_refl 0) hgn hgh hgb hgc hgi hgu) (cwV 2 hts (goodIn_app (goodIn_r _ [10, 11, 12, 6] rfl (by decide +kernel)) (goodIn_ca (goodIn_r _ [9, 1] rfl (by decide +kernel)) (bs_in _ _))) rfl rfl rfl (by decide +kernel) ⟨(Nat.le_of_ble_eq_true rfl), (Nat.le_of_ble_eq_true rfl)⟩) ⟨fun a U g mk q => by obtain ⟨q0, q1, qK, qE⟩ := q; exact ⟨q0, q1, va_K.moved (u := U) (U := U.calling g mk a) (Vm.Alike.refl U.vm) qK, EVS.blind g mk a qE⟩, gH_rc hK hT hr_o0 shm_0 rfl, fun U hU hW => ⟨rfl, hU, va_K.moved hW.alike hK, hE.call hS hFc hU hW⟩⟩ rfl rfl hl.1 rfl (lv_room (Nat.le_of_ble_eq_true rfl)) dX12_land_73 ⟨(Nat.le_of_ble_eq_true rfl), (Nat.le_of_ble_eq_true rfl)⟩) hS (fun q _ h => hFc q h) hFc (fun r104 u t H locs ht hvm hw105 hB _ _ hS => ?_)
            obtain ⟨u106, rfl⟩ : ∃ z, z = u := ⟨_, rfl⟩
            obtain ⟨hT, hF1, m107⟩ := hB
            rw [ht] at hT hF1 m107
            have hF := hF.more hF1 (by decide)
            try dsimp only at hw105
            obtain ⟨h109, hf110, hd111⟩ := hw105
            have t112 : (0 : Int32).toInt = 0 := by decide
            have t113 : (2 : Int32).toInt = 2 := by decide
            obtain rfl : (0 : Int32) = r104 := hd111.symm
            refine lv_if_ne (tgt := 99) hx hb dX12_land_76 (by decide) (fun c114 => absurd c114 (by decide)) (fun c114 => ?_)
            refine lv_aload_n hx hb dX12_land_79 rfl (lv_at hl 0 rfl) ?_
            refine lv_aload_n hx hb dX12_land_80 rfl (lv_at hl 0 rfl) ?_
            have hFc := gA_free hG hA hS
            refine va_calli (va_runV (As := []) (rest := [.ref o0]) ⟨hx, hb, hml, hown, hts⟩ (s_hour l dC dI kA adK adV G H q wZ0 wN wH wB wC wL wK wU wV PI im PM PT lS lB lE lN o0 hT hr_o0 (fun _ => Int.le_refl 0) hgn hgh hgb hgc hgi hgu) (cwV 0 hts (goodIn_app (goodIn_r _ [15, 16, 17, 6] rfl (by decide +kernel)) (goodIn_ca (goodIn_r _ [13, 14] rfl (by decide +kernel)) (bs_in _ _))) rfl rfl rfl (by decide +kernel) ⟨(Nat.le_of_ble_eq_true rfl), (Nat.le_of_ble_eq_true rfl)⟩) ⟨fun a U g mk q => by obtain ⟨q0, q1, qK, qE⟩ := q; exact ⟨q0, q1, va_K.moved (u := U) (U := U.calling g mk a) (Vm.Alike.refl U.vm) qK, EVS.blind g mk a qE⟩, gH_rc hK hT hr_o0 shm_0 rfl, fun U hU hW => ⟨rfl, hU, va_K.moved hW.alike hK, hE.call hS hFc hU hW⟩⟩ rfl rfl hl.1 rfl (lv_room (Nat.le_of_ble_eq_true rfl)) dX12_land_81 ⟨(Nat.le_of_ble_eq_true rfl), (Nat.le_of_ble_eq_true rfl)⟩) hS (fun q _ h => hFc q h) hFc (fun r115 u t H locs ht hvm hw116 hB _ _ hS => ?_)
            obtain ⟨hT, hF1⟩ := hB
            rw [ht] at hT hF1
            have m117 := (hF1.fld hr_o0 skm_0 (k := 0) (by decide) (by decide)).trans m107
            have hF := hF.more hF1 (by decide)
            try dsimp only at hw116
            obtain ⟨h118, hf119⟩ := hw116
            refine lv_if_le (tgt := 91) hx hb dX12_land_84 (by decide) (fun c120 => ?_) (fun c120 => ?_)
            · have t121 : r115.toInt ≤ 0 := ti_le c120 rfl (by decide)
              refine lv_iconst (v := 0) hx hb dX12_land_91 (by decide) ?_
              refine lv_iconst (v := 3) hx hb dX12_land_92 (by decide) ?_
              have hFc := gA_free hG hA hS
              refine va_calli (va_runV (As := [.int 0, .int 3]) (rest := []) ⟨hx, hb, hml, hown, hts⟩ (s_throwsIfP l dC dI kA adK adV G H q wZ0 wN wH wB wC wL wK wU wV PI im PM PT lS lB lE lN o0 0 3 u106 hT hr_o0 m117 (rg_t (a := 0) (by decide) (by first | decide | omega) (by first | decide | omega)) (fun _ => Int.le_refl 0) hgn hgh hgb hgc hgi hgu) (cwV 2 hts (goodIn_app (goodIn_r _ [10, 11, 12, 6] rfl (by decide +kernel)) (goodIn_ca (goodIn_r _ [9, 1] rfl (by decide +kernel)) (bs_in _ _))) rfl rfl rfl (by decide +kernel) ⟨(Nat.le_of_ble_eq_true rfl), (Nat.le_of_ble_eq_true rfl)⟩) ⟨fun a U g mk q => by obtain ⟨q0, q1, qK, qE⟩ := q; exact ⟨q0, q1, va_K.moved (u := U) (U := U.calling g mk a) (Vm.Alike.refl U.vm) qK, EVS.blind g mk a qE⟩, gH_rc hK hT hr_o0 shm_0 rfl, fun U hU hW => ⟨rfl, hU, va_K.moved hW.alike hK, hE.call hS hFc hU hW⟩⟩ rfl rfl hl.1 rfl (lv_room (Nat.le_of_ble_eq_true rfl)) dX12_land_93 ⟨(Nat.le_of_ble_eq_true rfl), (Nat.le_of_ble_eq_true rfl)⟩) hS (fun q _ h => hFc q h) hFc (fun r122 u t H locs ht hvm hw123 hB _ _ hS => ?_)
              obtain ⟨u124, rfl⟩ : ∃ z, z = u := ⟨_, rfl⟩
              obtain ⟨hT, hF1, m125⟩ := hB
              rw [ht] at hT hF1 m125
              have hF := hF.more hF1 (by decide)
              try dsimp only at hw123
              obtain ⟨h127, hf128, hd129⟩ := hw123
              have t130 : (0 : Int32).toInt = 0 := by decide
              have t131 : (3 : Int32).toInt = 3 := by decide
              obtain rfl : (0 : Int32) = r122 := hd129.symm
              refine lv_if_eq (tgt := 101) hx hb dX12_land_96 (by decide) (fun c132 => ?_) (fun c132 => absurd c132 (by decide))
              refine lv_iconst (v := 0) hx hb dX12_land_101 (by decide) ?_
              refine lv_istore (lv' := [(6, .int 0), (0, .ref o0), (1, .int p0), (2, .int p1), (3, .int p2), (4, .int p3), (5, .int p4)]) hx hb dX12_land_102 hl (by decide) rfl (fun ls hl => ?_)
              refine lv_iconst (v := 0) hx hb dX12_land_104 (by decide) ?_
              refine lv_istore (lv' := [(7, .int 0), (6, .int 0), (0, .ref o0), (1, .int p0), (2, .int p1), (3, .int p2), (4, .int p3), (5, .int p4)]) hx hb dX12_land_105 hl (by decide) rfl (fun ls hl => ?_)
              have key304 : ∀ (n304 i133 : Nat), i133 + n304 = 96 → 0 ≤ i133 → ∀ (z134 : Int32), ((0 + 0 * (i133 : Int) ≤ z134.toInt ∧ z134.toInt ≤ 0 + 1 * (i133 : Int)) ∧ (z134.toInt = ldN L p0.toInt p1.toInt i133)) → ∀ (H : Heap) (locs : List Loc), gH (dC, dI) kA (SHm q (wP wZ0 wN wH wB wC (lndB wL p0.toInt p1.toInt i133) wK wU wV) PI im PM PT lS lB lE lN) G H → gF (dC, dI) SKm G ([(0, 0), (0, 9), (2, 0)] : List (Nat × Nat)) s.heap H → va_S A s.heap H locs → el H o0 (dI 15 0) = some (.int u124) → ∀ ls : Array Slot, lv_has ls 8 [(7, .int (nI i133)), (6, .int z134), (0, .ref o0), (1, .int p0), (2, .int p1), (3, .int p2), (4, .int p3), (5, .int p4)] → W p l e (headSpec w_s_landC ({ frames := 2, cells := 0, slots := 0, locals := 64 })).room s m #[.ref o0, .int p0, .int p1, .int p2, .int p3, .int p4] below meth c H locs 0 0 (MQ below (va_Qi (fun (r : Int32) (u : Int32 × (Nat → Prop)) => match u with | (t1, wL1) => (0 ≤ r.toInt ∧ r.toInt ≤ 96) ∧ (∀ j, wL j → wL1 j) ∧ ((laC wH p0.toInt p1.toInt p2.toInt p3.toInt p4.toInt = 0 ∧ t1.toInt = 0 ∧ wL1 = lndB wL p0.toInt p1.toInt 96 ∧ r.toInt = ldN L p0.toInt p1.toInt 96) ∨ (laC wH p0.toInt p1.toInt p2.toInt p3.toInt p4.toInt ≠ 0 ∧ t1.toInt = laC wH p0.toInt p1.toInt p2.toInt p3.toInt p4.toInt ∧ wL1 = wL))) (fun (u : Int32 × (Nat → Prop)) (t : State) => match u with | (t1, wL1) => gH (dC, dI) kA (SHm q (wP wZ0 wN wH wB wC wL1 wK wU wV) PI im PM PT lS lB lE lN) G t.heap ∧ gF (dC, dI) SKm G ([(0, 0), (0, 9), (2, 0)] : List (Nat × Nat)) s.heap t.heap ∧ el t.heap o0 (dI 15 0) = some (.int t1)) A) #[.ref o0, .int p0, .int p1, .int p2, .int p3, .int p4] s 0 0 A) (F0 m 107 ls []) := by
                intro n304
                induction n304 with
                | zero =>
                  intro i133 hn304 hlo305 z134 ⟨h135, hj137⟩ H locs hT hF hS m136 ls hl
                  obtain rfl : 96 = i133 := by omega
                  refine lv_iload hx hb dX12_land_107 (lv_at hl 0 rfl) ?_
                  refine lv_bipush (v := 96) hx hb dX12_land_109 (by decide) ?_
                  refine lv_icmp_ge (tgt := 245) hx hb dX12_land_111 (by decide) (fun c306 => ?_) (fun c306 => (by exfalso; have q9 : ((96 : Nat) : Int) < 96 := ti_nle c306 (by decide) (nI_toInt (by omega)); omega))
                  have t307 : 96 ≤ ((96 : Nat) : Int) := ti_le c306 (by decide) (nI_toInt (by omega))
                  refine lv_aload_n hx hb dX12_land_245 rfl (lv_at hl 2 rfl) ?_
                  refine lv_iconst (v := 0) hx hb dX12_land_246 (by decide) ?_
                  refine tw_put (v := .int 0) (ty := .int) hx hb hts bF_X12 tyX12 tyX12_ok nmX12 hown hK hT hG hS hr_o0 shm_0 rfl 9 (by decide) (ht_at hts 17 rfl) (fun _ h9 => h9) rfl (by decide +kernel) rfl rfl (gl_at rfl (gi_of (show (0 : Int32).toInt = 0 from (by decide)) (by first | decide | omega) (by first | decide | omega))) dX12_land_247 (fun H locs hT oq m308 oj hS => ?_)
                  have hF := hF.put hr_o0 skm_0 oq oj (by decide)
                  have m309 := (oj 0 (by decide) (by decide)).trans m136
                  refine lv_iload hx hb dX12_land_250 (lv_at hl 1 rfl) ?_
                  exact W.iret (v := z134) hx hb hr (fun t ht hW => ⟨⟨z134, (u124, (lndB wL p0.toInt p1.toInt 96)), rfl, (by exact ⟨(by have q8 := ti_all z134; omega), (fun _ h9 => Or.inl h9), (Or.inl ⟨by have := laC_s wH p0.toInt p1.toInt p2.toInt p3.toInt p4.toInt; omega, by have q0 : (0 : Int32).toInt = 0 := (by decide); have q1 : (1 : Int32).toInt = 1 := (by decide); have q2 : (2 : Int32).toInt = 2 := (by decide); have q3 : (3 : Int32).toInt = 3 := (by decide); have qm : (-1 : Int32).toInt = -1 := (by decide); omega, rfl, hj137⟩)⟩), by (try dsimp only); rw [ht]; exact ⟨hT, hF, m309⟩⟩, hS.F ht⟩) hS.2.2 dX12_land_252
                | succ n304 ih304 =>
                  intro i133 hn304 hlo305 z134 ⟨h135, hj137⟩ H locs hT hF hS m136 ls hl
                  have hlt309 : i133 < 96 := by omega
                  refine lv_iload hx hb dX12_land_107 (lv_at hl 0 rfl) ?_
                  refine lv_bipush (v := 96) hx hb dX12_land_109 (by decide) ?_
                  refine lv_icmp_ge (tgt := 245) hx hb dX12_land_111 (by decide) (fun c310 => (by exfalso; have q9 : 96 ≤ ((i133 : Nat) : Int) := ti_le c310 (by decide) (nI_toInt (by omega)); omega)) (fun c310 => ?_)
                  have t311 : ((i133 : Nat) : Int) < 96 := ti_nle c310 (by decide) (nI_toInt (by omega))
                  refine lv_iload hx hb dX12_land_114 (lv_at hl 0 rfl) ?_
                  refine lv_iload_n hx hb dX12_land_116 rfl (lv_at hl 3 rfl) ?_
                  refine lv_iload_n hx hb dX12_land_117 rfl (lv_at hl 4 rfl) ?_
                  have hFc := gA_free hG hA hS
                  refine va_calli (va_runS (As := [.int (nI i133), .int p0, .int p1]) (rest := []) ⟨hx, hb, hml, hown, hts⟩ (s_isInE l dC dI kA adK adV G H q wZ0 wN wH wB wC (lndB wL p0.toInt p1.toInt i133) wK wU wV PI im PM PT lS lB lE lN (nI i133) p0 p1 hT (rg_t (a := ((i133 : Nat) : Int)) (nI_toInt (by omega)) (by omega) (by omega)) (by have q8 := ti_all p0; omega) (by have q8 := ti_all p1; omega) (fun _ => Int.le_refl 0) hgn (by omega) (by omega) (by omega) (by omega) hgu) (va_cwS 3 hts (goodIn_app (goodIn_r _ [27, 28, 6] rfl (by decide +kernel)) (goodIn_ca (goodIn_r _ [19, 20, 21, 22, 23, 24, 25, 26, 3, 4, 5, 6] rfl (by decide +kernel)) (bs_in _ _))) rfl rfl rfl (by decide +kernel) ⟨(Nat.le_of_ble_eq_true rfl), (Nat.le_of_ble_eq_true rfl)⟩) ⟨fun a U g mk q => by obtain ⟨q0, q1, qK, qE⟩ := q; exact ⟨q0, q1, va_K.moved (u := U) (U := U.calling g mk a) (Vm.Alike.refl U.vm) qK, EVS.blind g mk a qE⟩, fun U hU hW => ⟨rfl, hU, va_K.moved hW.alike hK, hE.call hS hFc hU hW⟩⟩ rfl rfl hl.1 rfl (lv_room (Nat.le_of_ble_eq_true rfl)) dX12_land_118 ⟨(Nat.le_of_ble_eq_true rfl), (Nat.le_of_ble_eq_true rfl)⟩) hS (fun q _ h => hFc q h) hFc (fun r312 u t H locs ht hvm hw313 hB _ _ hS => ?_)
                  obtain ⟨hT, hF1⟩ := hB
                  rw [ht] at hT hF1
                  have m314 := (hF1.fld hr_o0 skm_0 (k := 0) (by decide) (by decide)).trans m136
                  have hF := hF.more hF1 (by decide)
                  try dsimp only at hw313
                  obtain ⟨h315, hf316⟩ := hw313
                  have t317 : (nI i133).toInt = ((i133 : Nat) : Int) := nI_toInt (by omega)
                  refine lv_if_ne (tgt := 127) hx hb dX12_land_121 (by decide) (fun c318 => ?_) (fun c318 => ?_)
                  · have t319 : r312.toInt ≠ 0 := ti_ne c318 rfl (by decide)
                    refine lv_iload hx hb dX12_land_127 (lv_at hl 1 rfl) ?_
                    refine lv_aload_n hx hb dX12_land_129 rfl (lv_at hl 2 rfl) ?_
                    refine lv_iload hx hb dX12_land_130 (lv_at hl 0 rfl) ?_
                    have hFc := gA_free hG hA hS
                    refine va_calli (va_runV (As := [.int (nI i133)]) (rest := [.int z134]) ⟨hx, hb, hml, hown, hts⟩ (s_isLand l dC dI kA adK adV G H q wZ0 wN wH wB wC (lndB wL p0.toInt p1.toInt i133) wK wU wV PI im PM PT lS lB lE lN o0 (nI i133) hT hr_o0 (rg_t (a := ((i133 : Nat) : Int)) (nI_toInt (by omega)) (by omega) (by omega)) (fun _ => Int.le_refl 0) hgn (by omega) (by omega) (by omega) (by omega) hgu) (cwV 1 hts (goodIn_app (goodIn_r _ [30, 31, 32, 6] rfl (by decide +kernel)) (goodIn_ca (goodIn_r _ [29, 14] rfl (by decide +kernel)) (bs_in _ _))) rfl rfl rfl (by decide +kernel) ⟨(Nat.le_of_ble_eq_true rfl), (Nat.le_of_ble_eq_true rfl)⟩) ⟨fun a U g mk q => by obtain ⟨q0, q1, qK, qE⟩ := q; exact ⟨q0, q1, va_K.moved (u := U) (U := U.calling g mk a) (Vm.Alike.refl U.vm) qK, EVS.blind g mk a qE⟩, gH_rc hK hT hr_o0 shm_0 rfl, fun U hU hW => ⟨rfl, hU, va_K.moved hW.alike hK, hE.call hS hFc hU hW⟩⟩ rfl rfl hl.1 rfl (lv_room (Nat.le_of_ble_eq_true rfl)) dX12_land_132 ⟨(Nat.le_of_ble_eq_true rfl), (Nat.le_of_ble_eq_true rfl)⟩) hS (fun q _ h => hFc q h) hFc (fun r320 u t H locs ht hvm hw321 hB _ _ hS => ?_)
                    obtain ⟨hT, hF1⟩ := hB
                    rw [ht] at hT hF1
                    have m322 := (hF1.fld hr_o0 skm_0 (k := 0) (by decide) (by decide)).trans m314
                    have hF := hF.more hF1 (by decide)
                    try dsimp only at hw321
                    obtain ⟨h323, hi324, hi325⟩ := hw321
                    refine lv_if_eq (tgt := 142) hx hb dX12_land_135 (by decide) (fun c326 => ?_) (fun c326 => ?_)
                    · have t327 : r320.toInt = 0 := ti_eq c326 rfl (by decide)
                      have t328 : ¬ (lndB wL p0.toInt p1.toInt i133) (nI i133).toNatClampNeg := hi325 c326
                      refine lv_iconst (v := 1) hx hb dX12_land_142 (by decide) ?_
                      refine lv_iadd hx hb dX12_land_143 ?_
                      refine lv_topi (fun x329 ex329 => ?_)
                      have t330 : x329.toInt = z134.toInt + 1 := ti_add ex329 rfl (by decide) (by omega) (by omega)
                      refine lv_istore (lv' := [(6, .int x329), (7, .int (nI i133)), (0, .ref o0), (1, .int p0), (2, .int p1), (3, .int p2), (4, .int p3), (5, .int p4)]) hx hb dX12_land_144 hl (by decide) rfl (fun ls hl => ?_)
                      refine lv_aload_n hx hb dX12_land_146 rfl (lv_at hl 2 rfl) ?_
                      refine tw_get hx hb hts bF_X12 hown hK hT hr_o0 shm_0 rfl 1 (by decide) (ht_at hts 13 rfl) (fun _ h9 => h9) dX12_land_147 (fun v9 m331 h9 => ?_)
                      obtain ⟨rfl, hg332⟩ := h9 _ rfl
                      refine lv_sipush (v := 1748) hx hb dX12_land_150 (by decide) ?_
                      refine lv_dup2_11 hx hb dX12_land_153 rfl rfl ?_
                      refine tw_iald (i := 1748) hx hb hK hT hg332 shm_2 rfl (by unfold vp_in; decide) dX12_land_154 (fun v9 m333 h9 => ?_)
                      obtain ⟨x334, rfl, gx334, kx334⟩ := (gp_at h9 (w_fre (by have q9 := tn_of (show (1748 : Int32).toInt = 1748 from (by decide)) (show (0 : Int) ≤ 1748 from by omega); omega)))
                      refine lv_aload_n hx hb dX12_land_155 rfl (lv_at hl 2 rfl) ?_
                      refine tw_get hx hb hts bF_X12 hown hK hT hr_o0 shm_0 rfl 1 (by decide) (ht_at hts 13 rfl) (fun _ h9 => h9) dX12_land_156 (fun v9 m335 h9 => ?_)
                      obtain ⟨rfl, hg336⟩ := h9 _ rfl
                      refine lv_sipush (v := 384) hx hb dX12_land_159 (by decide) ?_
                      refine lv_iload hx hb dX12_land_162 (lv_at hl 1 rfl) ?_
                      refine lv_iadd hx hb dX12_land_164 ?_
                      refine lv_topi (fun x337 ex337 => ?_)
                      obtain rfl : nI (384 + i133) = x337 := (ex337.trans (nI_add 384 i133)).symm
                      refine tw_iald (i := (nI (384 + i133))) hx hb hK hT hg332 shm_2 rfl (vp_in_nI (by omega) (by decide)) dX12_land_165 (fun v9 m338 h9 => ?_)
                      obtain ⟨x339, rfl, gx339, kx339⟩ := (gw_at h9 (w_wat (by have q9 := tn_of (show (nI (384 + i133)).toInt = ((384 + i133 : Nat) : Int) from (nI_toInt (by omega))) (show (0 : Int) ≤ ((384 + i133 : Nat) : Int) from by omega); omega)) hgn (fun _ => Int.le_refl 0))
                      refine lv_isub hx hb dX12_land_166 ?_
                      refine lv_topi (fun x340 ex340 => ?_)
                      refine tw_iast (i := 1748) (x := x340) hx hb hK hT hG hS hg332 shm_2 rfl (by unfold vp_in; decide) (gp_of (gi_all _) (w_fre (by have q9 := tn_of (show (1748 : Int32).toInt = 1748 from (by decide)) (show (0 : Int) ≤ 1748 from by omega); omega)) (wX_o (by have q9 := tn_of (show (1748 : Int32).toInt = 1748 from (by decide)) (show (0 : Int) ≤ 1748 from by omega); omega) (by omega))) dX12_land_167 (fun H locs hT oq m341 oi hS => ?_)
                      have hF := hF.ast hg332 skm_2 oq (by decide)
                      have m342 := (el_kept (oq _ (gne hr_o0 hg332 (by decide)))).trans m322
                      have m343 := (oi _ (tn_ne (show (nI (384 + i133)).toInt = ((384 + i133 : Nat) : Int) from (nI_toInt (by omega))) (show (1748 : Int32).toInt = 1748 from (by decide)) (by omega) (by omega) (by omega))).trans m338
                      refine lv_aload_n hx hb dX12_land_168 rfl (lv_at hl 2 rfl) ?_
                      refine tw_get hx hb hts bF_X12 hown hK hT hr_o0 shm_0 rfl 1 (by decide) (ht_at hts 13 rfl) (fun _ h9 => h9) dX12_land_169 (fun v9 m344 h9 => ?_)
                      obtain ⟨rfl, hg345⟩ := h9 _ rfl
                      refine lv_iconst (v := 0) hx hb dX12_land_172 (by decide) ?_
                      refine lv_iload hx hb dX12_land_173 (lv_at hl 1 rfl) ?_
                      refine lv_iadd hx hb dX12_land_175 ?_
                      refine lv_topi (fun x346 ex346 => ?_)
                      obtain rfl : nI (0 + i133) = x346 := (ex346.trans (nI_add 0 i133)).symm
                      refine lv_iconst (v := 1) hx hb dX12_land_176 (by decide) ?_
                      have t347 : (((nI (0 + i133)).toNatClampNeg : Nat) : Int) = ((0 + i133 : Nat) : Int) := tn_of (show (nI (0 + i133)).toInt = ((0 + i133 : Nat) : Int) from (nI_toInt (by omega))) (by omega)
                      refine tw_iast2 (Sg1 := (SHm q (wP wZ0 wN wH wB wC (fun j => (lndB wL p0.toInt p1.toInt i133) j ∨ j = i133) wK wU wV) PI im PM PT lS lB lE lN)) (i := (nI (0 + i133))) (x := 1) hx hb hK hT hG hS hg332 shm_2 rfl shm_2 shm_o2 (fun b9 h9 => hgu b9 1 h9) (vp_in_nI (by omega) (by decide)) (gp_of (gi_all _) (w_fre (by omega)) (wX_l (by omega) (Or.inr (by omega)) (by decide))) (fun k9 hk9 hne9 v9 hv9 he9 => by obtain ⟨x9, rfl, p9⟩ := he9; exact ⟨x9, rfl, wP_L (fun _ => ⟨Or.inl, fun z9 => z9.resolve_right (by omega)⟩) p9⟩) dX12_land_177 (fun H locs hT oq m348 oi hS => ?_)
                      have hF := hF.ast hg332 skm_2 oq (by decide)
                      have m349 := (el_kept (oq _ (gne hr_o0 hg332 (by decide)))).trans m342
                      have m350 := (oi _ (tn_ne (show (nI (384 + i133)).toInt = ((384 + i133 : Nat) : Int) from (nI_toInt (by omega))) (show (nI (0 + i133)).toInt = ((0 + i133 : Nat) : Int) from (nI_toInt (by omega))) (by omega) (by omega) (by omega))).trans m343
                      have m351 := (oi _ (tn_ne (show (1748 : Int32).toInt = 1748 from (by decide)) (show (nI (0 + i133)).toInt = ((0 + i133 : Nat) : Int) from (nI_toInt (by omega))) (by omega) (by omega) (by omega))).trans m341
                      refine lv_aload_n hx hb dX12_land_178 rfl (lv_at hl 2 rfl) ?_
                      refine tw_get hx hb hts bF_X12 hown hK hT hr_o0 shm_0 rfl 1 (by decide) (ht_at hts 13 rfl) (fun _ h9 => h9) dX12_land_179 (fun v9 m352 h9 => ?_)
                      obtain ⟨rfl, hg353⟩ := h9 _ rfl
                      refine lv_bipush (v := 96) hx hb dX12_land_182 (by decide) ?_
                      refine lv_iload hx hb dX12_land_184 (lv_at hl 1 rfl) ?_
                      refine lv_iadd hx hb dX12_land_186 ?_
                      refine lv_topi (fun x354 ex354 => ?_)
                      obtain rfl : nI (96 + i133) = x354 := (ex354.trans (nI_add 96 i133)).symm
                      refine lv_iload_n hx hb dX12_land_187 rfl (lv_at hl 5 rfl) ?_
                      refine tw_iast (i := (nI (96 + i133))) (x := p2) hx hb hK hT hG hS hg332 shm_2 rfl (vp_in_nI (by omega) (by decide)) (gp_of (gi_of (show p2.toInt = p2.toInt from rfl) (by omega) (by omega)) (w_hgt (by have q9 := tn_of (show (nI (96 + i133)).toInt = ((96 + i133 : Nat) : Int) from (nI_toInt (by omega))) (show (0 : Int) ≤ ((96 + i133 : Nat) : Int) from by omega); omega)) (wX_o (by have q9 := tn_of (show (nI (96 + i133)).toInt = ((96 + i133 : Nat) : Int) from (nI_toInt (by omega))) (show (0 : Int) ≤ ((96 + i133 : Nat) : Int) from by omega); omega) (by omega))) dX12_land_188 (fun H locs hT oq m355 oi hS => ?_)
                      have hF := hF.ast hg332 skm_2 oq (by decide)
                      have m356 := (el_kept (oq _ (gne hr_o0 hg332 (by decide)))).trans m349
                      have m357 := (oi _ (tn_ne (show (nI (384 + i133)).toInt = ((384 + i133 : Nat) : Int) from (nI_toInt (by omega))) (show (nI (96 + i133)).toInt = ((96 + i133 : Nat) : Int) from (nI_toInt (by omega))) (by omega) (by omega) (by omega))).trans m350
                      have m358 := (oi _ (tn_ne (show (1748 : Int32).toInt = 1748 from (by decide)) (show (nI (96 + i133)).toInt = ((96 + i133 : Nat) : Int) from (nI_toInt (by omega))) (by omega) (by omega) (by omega))).trans m351
                      have m359 := (oi _ (tn_ne (show (nI (0 + i133)).toInt = ((0 + i133 : Nat) : Int) from (nI_toInt (by omega))) (show (nI (96 + i133)).toInt = ((96 + i133 : Nat) : Int) from (nI_toInt (by omega))) (by omega) (by omega) (by omega))).trans m348
                      refine lv_aload_n hx hb dX12_land_189 rfl (lv_at hl 2 rfl) ?_
                      refine tw_get hx hb hts bF_X12 hown hK hT hr_o0 shm_0 rfl 1 (by decide) (ht_at hts 13 rfl) (fun _ h9 => h9) dX12_land_190 (fun v9 m360 h9 => ?_)
                      obtain ⟨rfl, hg361⟩ := h9 _ rfl
                      refine lv_sipush (v := 192) hx hb dX12_land_193 (by decide) ?_
                      refine lv_iload hx hb dX12_land_196 (lv_at hl 1 rfl) ?_
                      refine lv_iadd hx hb dX12_land_198 ?_
                      refine lv_topi (fun x362 ex362 => ?_)
                      obtain rfl : nI (192 + i133) = x362 := (ex362.trans (nI_add 192 i133)).symm
                      refine lv_iload hx hb dX12_land_199 (lv_at hl 6 rfl) ?_
                      refine tw_iast (i := (nI (192 + i133))) (x := p3) hx hb hK hT hG hS hg332 shm_2 rfl (vp_in_nI (by omega) (by decide)) (gp_of (gi_all _) (w_fre (by have q9 := tn_of (show (nI (192 + i133)).toInt = ((192 + i133 : Nat) : Int) from (nI_toInt (by omega))) (show (0 : Int) ≤ ((192 + i133 : Nat) : Int) from by omega); omega)) (wX_o (by have q9 := tn_of (show (nI (192 + i133)).toInt = ((192 + i133 : Nat) : Int) from (nI_toInt (by omega))) (show (0 : Int) ≤ ((192 + i133 : Nat) : Int) from by omega); omega) (by omega))) dX12_land_201 (fun H locs hT oq m363 oi hS => ?_)
                      have hF := hF.ast hg332 skm_2 oq (by decide)
                      have m364 := (el_kept (oq _ (gne hr_o0 hg332 (by decide)))).trans m356
                      have m365 := (oi _ (tn_ne (show (nI (384 + i133)).toInt = ((384 + i133 : Nat) : Int) from (nI_toInt (by omega))) (show (nI (192 + i133)).toInt = ((192 + i133 : Nat) : Int) from (nI_toInt (by omega))) (by omega) (by omega) (by omega))).trans m357
                      have m366 := (oi _ (tn_ne (show (1748 : Int32).toInt = 1748 from (by decide)) (show (nI (192 + i133)).toInt = ((192 + i133 : Nat) : Int) from (nI_toInt (by omega))) (by omega) (by omega) (by omega))).trans m358
                      have m367 := (oi _ (tn_ne (show (nI (0 + i133)).toInt = ((0 + i133 : Nat) : Int) from (nI_toInt (by omega))) (show (nI (192 + i133)).toInt = ((192 + i133 : Nat) : Int) from (nI_toInt (by omega))) (by omega) (by omega) (by omega))).trans m359
                      have m368 := (oi _ (tn_ne (show (nI (96 + i133)).toInt = ((96 + i133 : Nat) : Int) from (nI_toInt (by omega))) (show (nI (192 + i133)).toInt = ((192 + i133 : Nat) : Int) from (nI_toInt (by omega))) (by omega) (by omega) (by omega))).trans m355
                      refine lv_aload_n hx hb dX12_land_202 rfl (lv_at hl 2 rfl) ?_
                      refine tw_get hx hb hts bF_X12 hown hK hT hr_o0 shm_0 rfl 1 (by decide) (ht_at hts 13 rfl) (fun _ h9 => h9) dX12_land_203 (fun v9 m369 h9 => ?_)
                      obtain ⟨rfl, hg370⟩ := h9 _ rfl
                      refine lv_sipush (v := 288) hx hb dX12_land_206 (by decide) ?_
                      refine lv_iload hx hb dX12_land_209 (lv_at hl 1 rfl) ?_
                      refine lv_iadd hx hb dX12_land_211 ?_
                      refine lv_topi (fun x371 ex371 => ?_)
                      obtain rfl : nI (288 + i133) = x371 := (ex371.trans (nI_add 288 i133)).symm
                      refine lv_iload hx hb dX12_land_212 (lv_at hl 7 rfl) ?_
                      refine tw_iast (i := (nI (288 + i133))) (x := p4) hx hb hK hT hG hS hg332 shm_2 rfl (vp_in_nI (by omega) (by decide)) (gp_of (gi_of (show p4.toInt = p4.toInt from rfl) (by omega) (by omega)) (w_dit (by have q9 := tn_of (show (nI (288 + i133)).toInt = ((288 + i133 : Nat) : Int) from (nI_toInt (by omega))) (show (0 : Int) ≤ ((288 + i133 : Nat) : Int) from by omega); omega)) (wX_o (by have q9 := tn_of (show (nI (288 + i133)).toInt = ((288 + i133 : Nat) : Int) from (nI_toInt (by omega))) (show (0 : Int) ≤ ((288 + i133 : Nat) : Int) from by omega); omega) (by omega))) dX12_land_214 (fun H locs hT oq m372 oi hS => ?_)
                      have hF := hF.ast hg332 skm_2 oq (by decide)
                      have m373 := (el_kept (oq _ (gne hr_o0 hg332 (by decide)))).trans m364
                      have m374 := (oi _ (tn_ne (show (nI (384 + i133)).toInt = ((384 + i133 : Nat) : Int) from (nI_toInt (by omega))) (show (nI (288 + i133)).toInt = ((288 + i133 : Nat) : Int) from (nI_toInt (by omega))) (by omega) (by omega) (by omega))).trans m365
                      have m375 := (oi _ (tn_ne (show (1748 : Int32).toInt = 1748 from (by decide)) (show (nI (288 + i133)).toInt = ((288 + i133 : Nat) : Int) from (nI_toInt (by omega))) (by omega) (by omega) (by omega))).trans m366
                      have m376 := (oi _ (tn_ne (show (nI (0 + i133)).toInt = ((0 + i133 : Nat) : Int) from (nI_toInt (by omega))) (show (nI (288 + i133)).toInt = ((288 + i133 : Nat) : Int) from (nI_toInt (by omega))) (by omega) (by omega) (by omega))).trans m367
                      have m377 := (oi _ (tn_ne (show (nI (96 + i133)).toInt = ((96 + i133 : Nat) : Int) from (nI_toInt (by omega))) (show (nI (288 + i133)).toInt = ((288 + i133 : Nat) : Int) from (nI_toInt (by omega))) (by omega) (by omega) (by omega))).trans m368
                      have m378 := (oi _ (tn_ne (show (nI (192 + i133)).toInt = ((192 + i133 : Nat) : Int) from (nI_toInt (by omega))) (show (nI (288 + i133)).toInt = ((288 + i133 : Nat) : Int) from (nI_toInt (by omega))) (by omega) (by omega) (by omega))).trans m363
                      refine lv_aload_n hx hb dX12_land_215 rfl (lv_at hl 2 rfl) ?_
                      refine tw_get hx hb hts bF_X12 hown hK hT hr_o0 shm_0 rfl 1 (by decide) (ht_at hts 13 rfl) (fun _ h9 => h9) dX12_land_216 (fun v9 m379 h9 => ?_)
                      obtain ⟨rfl, hg380⟩ := h9 _ rfl
                      refine lv_sipush (v := 384) hx hb dX12_land_219 (by decide) ?_
                      refine lv_iload hx hb dX12_land_222 (lv_at hl 1 rfl) ?_
                      refine lv_iadd hx hb dX12_land_224 ?_
                      refine lv_topi (fun x381 ex381 => ?_)
                      obtain rfl : nI (384 + i133) = x381 := (ex381.trans (nI_add 384 i133)).symm
                      refine lv_iconst (v := 0) hx hb dX12_land_225 (by decide) ?_
                      have t382 : 6500000 ≤ wN (nI (384 + i133)).toNatClampNeg ∧ wN (nI (384 + i133)).toNatClampNeg ≤ 20200000 := hgn _
                      refine tw_iast (i := (nI (384 + i133))) (x := 0) hx hb hK hT hG hS hg332 shm_2 rfl (vp_in_nI (by omega) (by decide)) (gp_of (gi_of (show (0 : Int32).toInt = 0 from (by decide)) (by first | decide | omega) (by first | decide | omega)) (w_wat0 (by have q9 := tn_of (show (nI (384 + i133)).toInt = ((384 + i133 : Nat) : Int) from (nI_toInt (by omega))) (show (0 : Int) ≤ ((384 + i133 : Nat) : Int) from by omega); omega)) (wX_o (by have q9 := tn_of (show (nI (384 + i133)).toInt = ((384 + i133 : Nat) : Int) from (nI_toInt (by omega))) (show (0 : Int) ≤ ((384 + i133 : Nat) : Int) from by omega); omega) (by omega))) dX12_land_226 (fun H locs hT oq m383 oi hS => ?_)
                      have hF := hF.ast hg332 skm_2 oq (by decide)
                      have m384 := (el_kept (oq _ (gne hr_o0 hg332 (by decide)))).trans m373
                      have m385 := (oi _ (tn_ne (show (1748 : Int32).toInt = 1748 from (by decide)) (show (nI (384 + i133)).toInt = ((384 + i133 : Nat) : Int) from (nI_toInt (by omega))) (by omega) (by omega) (by omega))).trans m375
                      have m386 := (oi _ (tn_ne (show (nI (0 + i133)).toInt = ((0 + i133 : Nat) : Int) from (nI_toInt (by omega))) (show (nI (384 + i133)).toInt = ((384 + i133 : Nat) : Int) from (nI_toInt (by omega))) (by omega) (by omega) (by omega))).trans m376
                      have m387 := (oi _ (tn_ne (show (nI (96 + i133)).toInt = ((96 + i133 : Nat) : Int) from (nI_toInt (by omega))) (show (nI (384 + i133)).toInt = ((384 + i133 : Nat) : Int) from (nI_toInt (by omega))) (by omega) (by omega) (by omega))).trans m377
                      have m388 := (oi _ (tn_ne (show (nI (192 + i133)).toInt = ((192 + i133 : Nat) : Int) from (nI_toInt (by omega))) (show (nI (384 + i133)).toInt = ((384 + i133 : Nat) : Int) from (nI_toInt (by omega))) (by omega) (by omega) (by omega))).trans m378
                      have m389 := (oi _ (tn_ne (show (nI (288 + i133)).toInt = ((288 + i133 : Nat) : Int) from (nI_toInt (by omega))) (show (nI (384 + i133)).toInt = ((384 + i133 : Nat) : Int) from (nI_toInt (by omega))) (by omega) (by omega) (by omega))).trans m372
                      refine lv_aload_n hx hb dX12_land_227 rfl (lv_at hl 2 rfl) ?_
                      refine tw_get hx hb hts bF_X12 hown hK hT hr_o0 shm_0 rfl 1 (by decide) (ht_at hts 13 rfl) (fun _ h9 => h9) dX12_land_228 (fun v9 m390 h9 => ?_)
                      obtain ⟨rfl, hg391⟩ := h9 _ rfl
                      refine lv_sipush (v := 480) hx hb dX12_land_231 (by decide) ?_
                      refine lv_iload hx hb dX12_land_234 (lv_at hl 1 rfl) ?_
                      refine lv_iadd hx hb dX12_land_236 ?_
                      refine lv_topi (fun x392 ex392 => ?_)
                      obtain rfl : nI (480 + i133) = x392 := (ex392.trans (nI_add 480 i133)).symm
                      refine lv_iconst (v := 0) hx hb dX12_land_237 (by decide) ?_
                      refine tw_iast (i := (nI (480 + i133))) (x := 0) hx hb hK hT hG hS hg332 shm_2 rfl (vp_in_nI (by omega) (by decide)) (gp_of (gi_all _) (w_fre (by have q9 := tn_of (show (nI (480 + i133)).toInt = ((480 + i133 : Nat) : Int) from (nI_toInt (by omega))) (show (0 : Int) ≤ ((480 + i133 : Nat) : Int) from by omega); omega)) (wX_o (by have q9 := tn_of (show (nI (480 + i133)).toInt = ((480 + i133 : Nat) : Int) from (nI_toInt (by omega))) (show (0 : Int) ≤ ((480 + i133 : Nat) : Int) from by omega); omega) (by omega))) dX12_land_238 (fun H locs hT oq m393 oi hS => ?_)
                      have hF := hF.ast hg332 skm_2 oq (by decide)
                      have m394 := (el_kept (oq _ (gne hr_o0 hg332 (by decide)))).trans m384
                      have m395 := (oi _ (tn_ne (show (1748 : Int32).toInt = 1748 from (by decide)) (show (nI (480 + i133)).toInt = ((480 + i133 : Nat) : Int) from (nI_toInt (by omega))) (by omega) (by omega) (by omega))).trans m385
                      have m396 := (oi _ (tn_ne (show (nI (0 + i133)).toInt = ((0 + i133 : Nat) : Int) from (nI_toInt (by omega))) (show (nI (480 + i133)).toInt = ((480 + i133 : Nat) : Int) from (nI_toInt (by omega))) (by omega) (by omega) (by omega))).trans m386
                      have m397 := (oi _ (tn_ne (show (nI (96 + i133)).toInt = ((96 + i133 : Nat) : Int) from (nI_toInt (by omega))) (show (nI (480 + i133)).toInt = ((480 + i133 : Nat) : Int) from (nI_toInt (by omega))) (by omega) (by omega) (by omega))).trans m387
                      have m398 := (oi _ (tn_ne (show (nI (192 + i133)).toInt = ((192 + i133 : Nat) : Int) from (nI_toInt (by omega))) (show (nI (480 + i133)).toInt = ((480 + i133 : Nat) : Int) from (nI_toInt (by omega))) (by omega) (by omega) (by omega))).trans m388
                      have m399 := (oi _ (tn_ne (show (nI (288 + i133)).toInt = ((288 + i133 : Nat) : Int) from (nI_toInt (by omega))) (show (nI (480 + i133)).toInt = ((480 + i133 : Nat) : Int) from (nI_toInt (by omega))) (by omega) (by omega) (by omega))).trans m389
                      have m400 := (oi _ (tn_ne (show (nI (384 + i133)).toInt = ((384 + i133 : Nat) : Int) from (nI_toInt (by omega))) (show (nI (480 + i133)).toInt = ((480 + i133 : Nat) : Int) from (nI_toInt (by omega))) (by omega) (by omega) (by omega))).trans m383
                      refine lv_iinc (v := nI (i133 + 1)) (lv' := [(7, .int (nI (i133 + 1))), (6, .int x329), (0, .ref o0), (1, .int p0), (2, .int p1), (3, .int p2), (4, .int p3), (5, .int p4)]) hx hb dX12_land_239 hl (k := 1) rfl (nI_add i133 1) (by decide) rfl (fun ls hl => ?_)
                      refine lv_goto (tgt := 107) hx hb dX12_land_242 (by decide) ?_
                      have hT : gH (dC, dI) kA (SHm q (wP wZ0 wN wH wB wC (lndB wL p0.toInt p1.toInt (i133 + 1)) wK wU wV) PI im PM PT lS lB lE lN) G H := SHm_w hT (fun i hi x p => wP_L (fun _ => lb_in (inR_1 (s := ((i133 : Nat) : Int)) (a := p0.toInt) (b := p1.toInt) (by have q9 : (nI i133).toInt = ((i133 : Nat) : Int) := nI_toInt (by omega); omega))) p)
                      exact ih304 (i133 + 1) (by omega) (by omega) x329 ⟨(by have q8 := ti_all x329; omega), (by have := (show x329.toInt = x329.toInt from rfl); first | exact ldN_out (inR_0 (s := ((i133 : Nat) : Int)) (a := p0.toInt) (b := p1.toInt) (by have q9 : (nI i133).toInt = ((i133 : Nat) : Int) := nI_toInt (by omega); omega)) hj137 | exact ldN_no (inR_1 (s := ((i133 : Nat) : Int)) (a := p0.toInt) (b := p1.toInt) (by have q9 : (nI i133).toInt = ((i133 : Nat) : Int) := nI_toInt (by omega); omega)) (lb_L hL (by omega) (tn_nI (by omega)) (by assumption)) (by rw [← hj137]; omega) | exact ldN_one (inR_1 (s := ((i133 : Nat) : Int)) (a := p0.toInt) (b := p1.toInt) (by have q9 : (nI i133).toInt = ((i133 : Nat) : Int) := nI_toInt (by omega); omega)) (lb_N hL (by omega) (tn_nI (by omega)) (by assumption)) hj137 (by omega))⟩ _ _ hT hF hS m394 ls (lv_sub hl [0, 1, 2, 3, 4, 5, 6, 7] rfl)
                    · have t401 : r320.toInt ≠ 0 := ti_ne c326 rfl (by decide)
                      have t402 : (lndB wL p0.toInt p1.toInt i133) (nI i133).toNatClampNeg := hi324 ((bit_of ⟨by omega, by omega⟩).resolve_left c326)
                      refine lv_iconst (v := 0) hx hb dX12_land_138 (by decide) ?_
                      refine lv_goto (tgt := 143) hx hb dX12_land_139 (by decide) ?_
                      refine lv_iadd hx hb dX12_land_143 ?_
                      refine lv_topi (fun x403 ex403 => ?_)
                      have t404 : x403.toInt = z134.toInt + 0 := ti_add ex403 rfl (by decide) (by omega) (by omega)
                      refine lv_istore (lv' := [(6, .int x403), (7, .int (nI i133)), (0, .ref o0), (1, .int p0), (2, .int p1), (3, .int p2), (4, .int p3), (5, .int p4)]) hx hb dX12_land_144 hl (by decide) rfl (fun ls hl => ?_)
                      refine lv_aload_n hx hb dX12_land_146 rfl (lv_at hl 2 rfl) ?_
                      refine tw_get hx hb hts bF_X12 hown hK hT hr_o0 shm_0 rfl 1 (by decide) (ht_at hts 13 rfl) (fun _ h9 => h9) dX12_land_147 (fun v9 m405 h9 => ?_)
                      obtain ⟨rfl, hg406⟩ := h9 _ rfl
                      refine lv_sipush (v := 1748) hx hb dX12_land_150 (by decide) ?_
                      refine lv_dup2_11 hx hb dX12_land_153 rfl rfl ?_
                      refine tw_iald (i := 1748) hx hb hK hT hg406 shm_2 rfl (by unfold vp_in; decide) dX12_land_154 (fun v9 m407 h9 => ?_)
                      obtain ⟨x408, rfl, gx408, kx408⟩ := (gp_at h9 (w_fre (by have q9 := tn_of (show (1748 : Int32).toInt = 1748 from (by decide)) (show (0 : Int) ≤ 1748 from by omega); omega)))
                      refine lv_aload_n hx hb dX12_land_155 rfl (lv_at hl 2 rfl) ?_
                      refine tw_get hx hb hts bF_X12 hown hK hT hr_o0 shm_0 rfl 1 (by decide) (ht_at hts 13 rfl) (fun _ h9 => h9) dX12_land_156 (fun v9 m409 h9 => ?_)
                      obtain ⟨rfl, hg410⟩ := h9 _ rfl
                      refine lv_sipush (v := 384) hx hb dX12_land_159 (by decide) ?_
                      refine lv_iload hx hb dX12_land_162 (lv_at hl 1 rfl) ?_
                      refine lv_iadd hx hb dX12_land_164 ?_
                      refine lv_topi (fun x411 ex411 => ?_)
                      obtain rfl : nI (384 + i133) = x411 := (ex411.trans (nI_add 384 i133)).symm
                      refine tw_iald (i := (nI (384 + i133))) hx hb hK hT hg406 shm_2 rfl (vp_in_nI (by omega) (by decide)) dX12_land_165 (fun v9 m412 h9 => ?_)
                      obtain ⟨x413, rfl, gx413, kx413⟩ := (gw_at h9 (w_wat (by have q9 := tn_of (show (nI (384 + i133)).toInt = ((384 + i133 : Nat) : Int) from (nI_toInt (by omega))) (show (0 : Int) ≤ ((384 + i133 : Nat) : Int) from by omega); omega)) hgn (fun _ => Int.le_refl 0))
                      refine lv_isub hx hb dX12_land_166 ?_
                      refine lv_topi (fun x414 ex414 => ?_)
                      refine tw_iast (i := 1748) (x := x414) hx hb hK hT hG hS hg406 shm_2 rfl (by unfold vp_in; decide) (gp_of (gi_all _) (w_fre (by have q9 := tn_of (show (1748 : Int32).toInt = 1748 from (by decide)) (show (0 : Int) ≤ 1748 from by omega); omega)) (wX_o (by have q9 := tn_of (show (1748 : Int32).toInt = 1748 from (by decide)) (show (0 : Int) ≤ 1748 from by omega); omega) (by omega))) dX12_land_167 (fun H locs hT oq m415 oi hS => ?_)
                      have hF := hF.ast hg406 skm_2 oq (by decide)
                      have m416 := (el_kept (oq _ (gne hr_o0 hg406 (by decide)))).trans m322
                      have m417 := (oi _ (tn_ne (show (nI (384 + i133)).toInt = ((384 + i133 : Nat) : Int) from (nI_toInt (by omega))) (show (1748 : Int32).toInt = 1748 from (by decide)) (by omega) (by omega) (by omega))).trans m412
                      refine lv_aload_n hx hb dX12_land_168 rfl (lv_at hl 2 rfl) ?_
                      refine tw_get hx hb hts bF_X12 hown hK hT hr_o0 shm_0 rfl 1 (by decide) (ht_at hts 13 rfl) (fun _ h9 => h9) dX12_land_169 (fun v9 m418 h9 => ?_)
                      obtain ⟨rfl, hg419⟩ := h9 _ rfl
                      refine lv_iconst (v := 0) hx hb dX12_land_172 (by decide) ?_
                      refine lv_iload hx hb dX12_land_173 (lv_at hl 1 rfl) ?_
                      refine lv_iadd hx hb dX12_land_175 ?_
                      refine lv_topi (fun x420 ex420 => ?_)
                      obtain rfl : nI (0 + i133) = x420 := (ex420.trans (nI_add 0 i133)).symm
                      refine lv_iconst (v := 1) hx hb dX12_land_176 (by decide) ?_
                      have t421 : (((nI (0 + i133)).toNatClampNeg : Nat) : Int) = ((0 + i133 : Nat) : Int) := tn_of (show (nI (0 + i133)).toInt = ((0 + i133 : Nat) : Int) from (nI_toInt (by omega))) (by omega)
                      refine tw_iast2 (Sg1 := (SHm q (wP wZ0 wN wH wB wC (fun j => (lndB wL p0.toInt p1.toInt i133) j ∨ j = i133) wK wU wV) PI im PM PT lS lB lE lN)) (i := (nI (0 + i133))) (x := 1) hx hb hK hT hG hS hg406 shm_2 rfl shm_2 shm_o2 (fun b9 h9 => hgu b9 1 h9) (vp_in_nI (by omega) (by decide)) (gp_of (gi_all _) (w_fre (by omega)) (wX_l (by omega) (Or.inr (by omega)) (by decide))) (fun k9 hk9 hne9 v9 hv9 he9 => by obtain ⟨x9, rfl, p9⟩ := he9; exact ⟨x9, rfl, wP_L (fun _ => ⟨Or.inl, fun z9 => z9.resolve_right (by omega)⟩) p9⟩) dX12_land_177 (fun H locs hT oq m422 oi hS => ?_)
                      have hF := hF.ast hg406 skm_2 oq (by decide)
                      have m423 := (el_kept (oq _ (gne hr_o0 hg406 (by decide)))).trans m416
                      have m424 := (oi _ (tn_ne (show (nI (384 + i133)).toInt = ((384 + i133 : Nat) : Int) from (nI_toInt (by omega))) (show (nI (0 + i133)).toInt = ((0 + i133 : Nat) : Int) from (nI_toInt (by omega))) (by omega) (by omega) (by omega))).trans m417
                      have m425 := (oi _ (tn_ne (show (1748 : Int32).toInt = 1748 from (by decide)) (show (nI (0 + i133)).toInt = ((0 + i133 : Nat) : Int) from (nI_toInt (by omega))) (by omega) (by omega) (by omega))).trans m415
                      refine lv_aload_n hx hb dX12_land_178 rfl (lv_at hl 2 rfl) ?_
                      refine tw_get hx hb hts bF_X12 hown hK hT hr_o0 shm_0 rfl 1 (by decide) (ht_at hts 13 rfl) (fun _ h9 => h9) dX12_land_179 (fun v9 m426 h9 => ?_)
                      obtain ⟨rfl, hg427⟩ := h9 _ rfl
                      refine lv_bipush (v := 96) hx hb dX12_land_182 (by decide) ?_
                      refine lv_iload hx hb dX12_land_184 (lv_at hl 1 rfl) ?_
                      refine lv_iadd hx hb dX12_land_186 ?_
                      refine lv_topi (fun x428 ex428 => ?_)
                      obtain rfl : nI (96 + i133) = x428 := (ex428.trans (nI_add 96 i133)).symm
                      refine lv_iload_n hx hb dX12_land_187 rfl (lv_at hl 5 rfl) ?_
                      refine tw_iast (i := (nI (96 + i133))) (x := p2) hx hb hK hT hG hS hg406 shm_2 rfl (vp_in_nI (by omega) (by decide)) (gp_of (gi_of (show p2.toInt = p2.toInt from rfl) (by omega) (by omega)) (w_hgt (by have q9 := tn_of (show (nI (96 + i133)).toInt = ((96 + i133 : Nat) : Int) from (nI_toInt (by omega))) (show (0 : Int) ≤ ((96 + i133 : Nat) : Int) from by omega); omega)) (wX_o (by have q9 := tn_of (show (nI (96 + i133)).toInt = ((96 + i133 : Nat) : Int) from (nI_toInt (by omega))) (show (0 : Int) ≤ ((96 + i133 : Nat) : Int) from by omega); omega) (by omega))) dX12_land_188 (fun H locs hT oq m429 oi hS => ?_)
                      have hF := hF.ast hg406 skm_2 oq (by decide)
                      have m430 := (el_kept (oq _ (gne hr_o0 hg406 (by decide)))).trans m423
                      have m431 := (oi _ (tn_ne (show (nI (384 + i133)).toInt = ((384 + i133 : Nat) : Int) from (nI_toInt (by omega))) (show (nI (96 + i133)).toInt = ((96 + i133 : Nat) : Int) from (nI_toInt (by omega))) (by omega) (by omega) (by omega))).trans m424
                      have m432 := (oi _ (tn_ne (show (1748 : Int32).toInt = 1748 from (by decide)) (show (nI (96 + i133)).toInt = ((96 + i133 : Nat) : Int) from (nI_toInt (by omega))) (by omega) (by omega) (by omega))).trans m425
                      have m433 := (oi _ (tn_ne (show (nI (0 + i133)).toInt = ((0 + i133 : Nat) : Int) from (nI_toInt (by omega))) (show (nI (96 + i133)).toInt = ((96 + i133 : Nat) : Int) from (nI_toInt (by omega))) (by omega) (by omega) (by omega))).trans m422
                      refine lv_aload_n hx hb dX12_land_189 rfl (lv_at hl 2 rfl) ?_
                      refine tw_get hx hb hts bF_X12 hown hK hT hr_o0 shm_0 rfl 1 (by decide) (ht_at hts 13 rfl) (fun _ h9 => h9) dX12_land_190 (fun v9 m434 h9 => ?_)
                      obtain ⟨rfl, hg435⟩ := h9 _ rfl
                      refine lv_sipush (v := 192) hx hb dX12_land_193 (by decide) ?_
                      refine lv_iload hx hb dX12_land_196 (lv_at hl 1 rfl) ?_
                      refine lv_iadd hx hb dX12_land_198 ?_
                      refine lv_topi (fun x436 ex436 => ?_)
                      obtain rfl : nI (192 + i133) = x436 := (ex436.trans (nI_add 192 i133)).symm
                      refine lv_iload hx hb dX12_land_199 (lv_at hl 6 rfl) ?_
                      refine tw_iast (i := (nI (192 + i133))) (x := p3) hx hb hK hT hG hS hg406 shm_2 rfl (vp_in_nI (by omega) (by decide)) (gp_of (gi_all _) (w_fre (by have q9 := tn_of (show (nI (192 + i133)).toInt = ((192 + i133 : Nat) : Int) from (nI_toInt (by omega))) (show (0 : Int) ≤ ((192 + i133 : Nat) : Int) from by omega); omega)) (wX_o (by have q9 := tn_of (show (nI (192 + i133)).toInt = ((192 + i133 : Nat) : Int) from (nI_toInt (by omega))) (show (0 : Int) ≤ ((192 + i133 : Nat) : Int) from by omega); omega) (by omega))) dX12_land_201 (fun H locs hT oq m437 oi hS => ?_)
                      have hF := hF.ast hg406 skm_2 oq (by decide)
                      have m438 := (el_kept (oq _ (gne hr_o0 hg406 (by decide)))).trans m430
                      have m439 := (oi _ (tn_ne (show (nI (384 + i133)).toInt = ((384 + i133 : Nat) : Int) from (nI_toInt (by omega))) (show (nI (192 + i133)).toInt = ((192 + i133 : Nat) : Int) from (nI_toInt (by omega))) (by omega) (by omega) (by omega))).trans m431
                      have m440 := (oi _ (tn_ne (show (1748 : Int32).toInt = 1748 from (by decide)) (show (nI (192 + i133)).toInt = ((192 + i133 : Nat) : Int) from (nI_toInt (by omega))) (by omega) (by omega) (by omega))).trans m432
                      have m441 := (oi _ (tn_ne (show (nI (0 + i133)).toInt = ((0 + i133 : Nat) : Int) from (nI_toInt (by omega))) (show (nI (192 + i133)).toInt = ((192 + i133 : Nat) : Int) from (nI_toInt (by omega))) (by omega) (by omega) (by omega))).trans m433
                      have m442 := (oi _ (tn_ne (show (nI (96 + i133)).toInt = ((96 + i133 : Nat) : Int) from (nI_toInt (by omega))) (show (nI (192 + i133)).toInt = ((192 + i133 : Nat) : Int) from (nI_toInt (by omega))) (by omega) (by omega) (by omega))).trans m429
                      refine lv_aload_n hx hb dX12_land_202 rfl (lv_at hl 2 rfl) ?_
                      refine tw_get hx hb hts bF_X12 hown hK hT hr_o0 shm_0 rfl 1 (by decide) (ht_at hts 13 rfl) (fun _ h9 => h9) dX12_land_203 (fun v9 m443 h9 => ?_)
                      obtain ⟨rfl, hg444⟩ := h9 _ rfl
                      refine lv_sipush (v := 288) hx hb dX12_land_206 (by decide) ?_
                      refine lv_iload hx hb dX12_land_209 (lv_at hl 1 rfl) ?_
                      refine lv_iadd hx hb dX12_land_211 ?_
                      refine lv_topi (fun x445 ex445 => ?_)
                      obtain rfl : nI (288 + i133) = x445 := (ex445.trans (nI_add 288 i133)).symm
                      refine lv_iload hx hb dX12_land_212 (lv_at hl 7 rfl) ?_
                      refine tw_iast (i := (nI (288 + i133))) (x := p4) hx hb hK hT hG hS hg406 shm_2 rfl (vp_in_nI (by omega) (by decide)) (gp_of (gi_of (show p4.toInt = p4.toInt from rfl) (by omega) (by omega)) (w_dit (by have q9 := tn_of (show (nI (288 + i133)).toInt = ((288 + i133 : Nat) : Int) from (nI_toInt (by omega))) (show (0 : Int) ≤ ((288 + i133 : Nat) : Int) from by omega); omega)) (wX_o (by have q9 := tn_of (show (nI (288 + i133)).toInt = ((288 + i133 : Nat) : Int) from (nI_toInt (by omega))) (show (0 : Int) ≤ ((288 + i133 : Nat) : Int) from by omega); omega) (by omega))) dX12_land_214 (fun H locs hT oq m446 oi hS => ?_)
                      have hF := hF.ast hg406 skm_2 oq (by decide)
                      have m447 := (el_kept (oq _ (gne hr_o0 hg406 (by decide)))).trans m438
                      have m448 := (oi _ (tn_ne (show (nI (384 + i133)).toInt = ((384 + i133 : Nat) : Int) from (nI_toInt (by omega))) (show (nI (288 + i133)).toInt = ((288 + i133 : Nat) : Int) from (nI_toInt (by omega))) (by omega) (by omega) (by omega))).trans m439
                      have m449 := (oi _ (tn_ne (show (1748 : Int32).toInt = 1748 from (by decide)) (show (nI (288 + i133)).toInt = ((288 + i133 : Nat) : Int) from (nI_toInt (by omega))) (by omega) (by omega) (by omega))).trans m440
                      have m450 := (oi _ (tn_ne (show (nI (0 + i133)).toInt = ((0 + i133 : Nat) : Int) from (nI_toInt (by omega))) (show (nI (288 + i133)).toInt = ((288 + i133 : Nat) : Int) from (nI_toInt (by omega))) (by omega) (by omega) (by omega))).trans m441
                      have m451 := (oi _ (tn_ne (show (nI (96 + i133)).toInt = ((96 + i133 : Nat) : Int) from (nI_toInt (by omega))) (show (nI (288 + i133)).toInt = ((288 + i133 : Nat) : Int) from (nI_toInt (by omega))) (by omega) (by omega) (by omega))).trans m442
                      have m452 := (oi _ (tn_ne (show (nI (192 + i133)).toInt = ((192 + i133 : Nat) : Int) from (nI_toInt (by omega))) (show (nI (288 + i133)).toInt = ((288 + i133 : Nat) : Int) from (nI_toInt (by omega))) (by omega) (by omega) (by omega))).trans m437
                      refine lv_aload_n hx hb dX12_land_215 rfl (lv_at hl 2 rfl) ?_
                      refine tw_get hx hb hts bF_X12 hown hK hT hr_o0 shm_0 rfl 1 (by decide) (ht_at hts 13 rfl) (fun _ h9 => h9) dX12_land_216 (fun v9 m453 h9 => ?_)
                      obtain ⟨rfl, hg454⟩ := h9 _ rfl
                      refine lv_sipush (v := 384) hx hb dX12_land_219 (by decide) ?_
                      refine lv_iload hx hb dX12_land_222 (lv_at hl 1 rfl) ?_
                      refine lv_iadd hx hb dX12_land_224 ?_
                      refine lv_topi (fun x455 ex455 => ?_)
                      obtain rfl : nI (384 + i133) = x455 := (ex455.trans (nI_add 384 i133)).symm
                      refine lv_iconst (v := 0) hx hb dX12_land_225 (by decide) ?_
                      have t456 : 6500000 ≤ wN (nI (384 + i133)).toNatClampNeg ∧ wN (nI (384 + i133)).toNatClampNeg ≤ 20200000 := hgn _
                      refine tw_iast (i := (nI (384 + i133))) (x := 0) hx hb hK hT hG hS hg406 shm_2 rfl (vp_in_nI (by omega) (by decide)) (gp_of (gi_of (show (0 : Int32).toInt = 0 from (by decide)) (by first | decide | omega) (by first | decide | omega)) (w_wat0 (by have q9 := tn_of (show (nI (384 + i133)).toInt = ((384 + i133 : Nat) : Int) from (nI_toInt (by omega))) (show (0 : Int) ≤ ((384 + i133 : Nat) : Int) from by omega); omega)) (wX_o (by have q9 := tn_of (show (nI (384 + i133)).toInt = ((384 + i133 : Nat) : Int) from (nI_toInt (by omega))) (show (0 : Int) ≤ ((384 + i133 : Nat) : Int) from by omega); omega) (by omega))) dX12_land_226 (fun H locs hT oq m457 oi hS => ?_)
                      have hF := hF.ast hg406 skm_2 oq (by decide)
                      have m458 := (el_kept (oq _ (gne hr_o0 hg406 (by decide)))).trans m447
                      have m459 := (oi _ (tn_ne (show (1748 : Int32).toInt = 1748 from (by decide)) (show (nI (384 + i133)).toInt = ((384 + i133 : Nat) : Int) from (nI_toInt (by omega))) (by omega) (by omega) (by omega))).trans m449
                      have m460 := (oi _ (tn_ne (show (nI (0 + i133)).toInt = ((0 + i133 : Nat) : Int) from (nI_toInt (by omega))) (show (nI (384 + i133)).toInt = ((384 + i133 : Nat) : Int) from (nI_toInt (by omega))) (by omega) (by omega) (by omega))).trans m450
                      have m461 := (oi _ (tn_ne (show (nI (96 + i133)).toInt = ((96 + i133 : Nat) : Int) from (nI_toInt (by omega))) (show (nI (384 + i133)).toInt = ((384 + i133 : Nat) : Int) from (nI_toInt (by omega))) (by omega) (by omega) (by omega))).trans m451
                      have m462 := (oi _ (tn_ne (show (nI (192 + i133)).toInt = ((192 + i133 : Nat) : Int) from (nI_toInt (by omega))) (show (nI (384 + i133)).toInt = ((384 + i133 : Nat) : Int) from (nI_toInt (by omega))) (by omega) (by omega) (by omega))).trans m452
                      have m463 := (oi _ (tn_ne (show (nI (288 + i133)).toInt = ((288 + i133 : Nat) : Int) from (nI_toInt (by omega))) (show (nI (384 + i133)).toInt = ((384 + i133 : Nat) : Int) from (nI_toInt (by omega))) (by omega) (by omega) (by omega))).trans m446
                      refine lv_aload_n hx hb dX12_land_227 rfl (lv_at hl 2 rfl) ?_
                      refine tw_get hx hb hts bF_X12 hown hK hT hr_o0 shm_0 rfl 1 (by decide) (ht_at hts 13 rfl) (fun _ h9 => h9) dX12_land_228 (fun v9 m464 h9 => ?_)
                      obtain ⟨rfl, hg465⟩ := h9 _ rfl
                      refine lv_sipush (v := 480) hx hb dX12_land_231 (by decide) ?_
                      refine lv_iload hx hb dX12_land_234 (lv_at hl 1 rfl) ?_
                      refine lv_iadd hx hb dX12_land_236 ?_
                      refine lv_topi (fun x466 ex466 => ?_)
                      obtain rfl : nI (480 + i133) = x466 := (ex466.trans (nI_add 480 i133)).symm
                      refine lv_iconst (v := 0) hx hb dX12_land_237 (by decide) ?_
                      refine tw_iast (i := (nI (480 + i133))) (x := 0) hx hb hK hT hG hS hg406 shm_2 rfl (vp_in_nI (by omega) (by decide)) (gp_of (gi_all _) (w_fre (by have q9 := tn_of (show (nI (480 + i133)).toInt = ((480 + i133 : Nat) : Int) from (nI_toInt (by omega))) (show (0 : Int) ≤ ((480 + i133 : Nat) : Int) from by omega); omega)) (wX_o (by have q9 := tn_of (show (nI (480 + i133)).toInt = ((480 + i133 : Nat) : Int) from (nI_toInt (by omega))) (show (0 : Int) ≤ ((480 + i133 : Nat) : Int) from by omega); omega) (by omega))) dX12_land_238 (fun H locs hT oq m467 oi hS => ?_)
                      have hF := hF.ast hg406 skm_2 oq (by decide)
                      have m468 := (el_kept (oq _ (gne hr_o0 hg406 (by decide)))).trans m458
                      have m469 := (oi _ (tn_ne (show (1748 : Int32).toInt = 1748 from (by decide)) (show (nI (480 + i133)).toInt = ((480 + i133 : Nat) : Int) from (nI_toInt (by omega))) (by omega) (by omega) (by omega))).trans m459
                      have m470 := (oi _ (tn_ne (show (nI (0 + i133)).toInt = ((0 + i133 : Nat) : Int) from (nI_toInt (by omega))) (show (nI (480 + i133)).toInt = ((480 + i133 : Nat) : Int) from (nI_toInt (by omega))) (by omega) (by omega) (by omega))).trans m460
                      have m471 := (oi _ (tn_ne (show (nI (96 + i133)).toInt = ((96 + i133 : Nat) : Int) from (nI_toInt (by omega))) (show (nI (480 + i133)).toInt = ((480 + i133 : Nat) : Int) from (nI_toInt (by omega))) (by omega) (by omega) (by omega))).trans m461
                      have m472 := (oi _ (tn_ne (show (nI (192 + i133)).toInt = ((192 + i133 : Nat) : Int) from (nI_toInt (by omega))) (show (nI (480 + i133)).toInt = ((480 + i133 : Nat) : Int) from (nI_toInt (by omega))) (by omega) (by omega) (by omega))).trans m462
                      have m473 := (oi _ (tn_ne (show (nI (288 + i133)).toInt = ((288 + i133 : Nat) : Int) from (nI_toInt (by omega))) (show (nI (480 + i133)).toInt = ((480 + i133 : Nat) : Int) from (nI_toInt (by omega))) (by omega) (by omega) (by omega))).trans m463
                      have m474 := (oi _ (tn_ne (show (nI (384 + i133)).toInt = ((384 + i133 : Nat) : Int) from (nI_toInt (by omega))) (show (nI (480 + i133)).toInt = ((480 + i133 : Nat) : Int) from (nI_toInt (by omega))) (by omega) (by omega) (by omega))).trans m457
                      refine lv_iinc (v := nI (i133 + 1)) (lv' := [(7, .int (nI (i133 + 1))), (6, .int x403), (0, .ref o0), (1, .int p0), (2, .int p1), (3, .int p2), (4, .int p3), (5, .int p4)]) hx hb dX12_land_239 hl (k := 1) rfl (nI_add i133 1) (by decide) rfl (fun ls hl => ?_)
                      refine lv_goto (tgt := 107) hx hb dX12_land_242 (by decide) ?_
                      have hT : gH (dC, dI) kA (SHm q (wP wZ0 wN wH wB wC (lndB wL p0.toInt p1.toInt (i133 + 1)) wK wU wV) PI im PM PT lS lB lE lN) G H := SHm_w hT (fun i hi x p => wP_L (fun _ => lb_in (inR_1 (s := ((i133 : Nat) : Int)) (a := p0.toInt) (b := p1.toInt) (by have q9 : (nI i133).toInt = ((i133 : Nat) : Int) := nI_toInt (by omega); omega))) p)
                      exact ih304 (i133 + 1) (by omega) (by omega) x403 ⟨(by have q8 := ti_all x403; omega), (by have := (show x403.toInt = x403.toInt from rfl); first | exact ldN_out (inR_0 (s := ((i133 : Nat) : Int)) (a := p0.toInt) (b := p1.toInt) (by have q9 : (nI i133).toInt = ((i133 : Nat) : Int) := nI_toInt (by omega); omega)) hj137 | exact ldN_no (inR_1 (s := ((i133 : Nat) : Int)) (a := p0.toInt) (b := p1.toInt) (by have q9 : (nI i133).toInt = ((i133 : Nat) : Int) := nI_toInt (by omega); omega)) (lb_L hL (by omega) (tn_nI (by omega)) (by assumption)) (by rw [← hj137]; omega) | exact ldN_one (inR_1 (s := ((i133 : Nat) : Int)) (a := p0.toInt) (b := p1.toInt) (by have q9 : (nI i133).toInt = ((i133 : Nat) : Int) := nI_toInt (by omega); omega)) (lb_N hL (by omega) (tn_nI (by omega)) (by assumption)) hj137 (by omega))⟩ _ _ hT hF hS m468 ls (lv_sub hl [0, 1, 2, 3, 4, 5, 6, 7] rfl)
                  · have t475 : r312.toInt = 0 := ti_eq c318 rfl (by decide)
                    refine lv_goto (tgt := 239) hx hb dX12_land_124 (by decide) ?_
                    refine lv_iinc (v := nI (i133 + 1)) (lv' := [(7, .int (nI (i133 + 1))), (6, .int z134), (0, .ref o0), (1, .int p0), (2, .int p1), (3, .int p2), (4, .int p3), (5, .int p4)]) hx hb dX12_land_239 hl (k := 0) rfl (nI_add i133 1) (by decide) rfl (fun ls hl => ?_)
                    refine lv_goto (tgt := 107) hx hb dX12_land_242 (by decide) ?_
                    have hT : gH (dC, dI) kA (SHm q (wP wZ0 wN wH wB wC (lndB wL p0.toInt p1.toInt (i133 + 1)) wK wU wV) PI im PM PT lS lB lE lN) G H := SHm_w hT (fun i hi x p => wP_L (fun _ => lb_out (inR_0 (s := ((i133 : Nat) : Int)) (a := p0.toInt) (b := p1.toInt) (by have q9 : (nI i133).toInt = ((i133 : Nat) : Int) := nI_toInt (by omega); omega))) p)
                    exact ih304 (i133 + 1) (by omega) (by omega) z134 ⟨(by have q8 := ti_all z134; omega), (by have := (show z134.toInt = z134.toInt from rfl); first | exact ldN_out (inR_0 (s := ((i133 : Nat) : Int)) (a := p0.toInt) (b := p1.toInt) (by have q9 : (nI i133).toInt = ((i133 : Nat) : Int) := nI_toInt (by omega); omega)) hj137 | exact ldN_no (inR_1 (s := ((i133 : Nat) : Int)) (a := p0.toInt) (b := p1.toInt) (by have q9 : (nI i133).toInt = ((i133 : Nat) : Int) := nI_toInt (by omega); omega)) (lb_L hL (by omega) (tn_nI (by omega)) (by assumption)) (by rw [← hj137]; omega) | exact ldN_one (inR_1 (s := ((i133 : Nat) : Int)) (a := p0.toInt) (b := p1.toInt) (by have q9 : (nI i133).toInt = ((i133 : Nat) : Int) := nI_toInt (by omega); omega)) (lb_N hL (by omega) (tn_nI (by omega)) (by assumption)) hj137 (by omega))⟩ _ _ hT hF hS m314 ls (lv_sub hl [0, 1, 2, 3, 4, 5, 6, 7] rfl)
              have hT : gH (dC, dI) kA (SHm q (wP wZ0 wN wH wB wC (lndB wL p0.toInt p1.toInt 0) wK wU wV) PI im PM PT lS lB lE lN) G H := SHm_w hT (fun i hi x p => wP_L (fun _ => lb_0) p)
              exact key304 (96 - 0) 0 (by omega) (Nat.le_refl _) 0 ⟨(rg_t (a := 0) (by decide) (by first | decide | omega) (by first | decide | omega)), (show (0 : Int32).toInt = 0 from by decide)⟩ _ _ hT hF hS m125 ls (lv_sub hl [0, 1, 2, 3, 4, 5, 6, 7] rfl)
            · have t476 : 0 < r115.toInt := ti_nle c120 rfl (by decide)
              refine lv_iconst (v := 1) hx hb dX12_land_87 (by decide) ?_
              refine lv_goto (tgt := 92) hx hb dX12_land_88 (by decide) ?_
              refine lv_iconst (v := 3) hx hb dX12_land_92 (by decide) ?_
              have hFc := gA_free hG hA hS
              refine va_calli (va_runV (As := [.int 1, .int 3]) (rest := []) ⟨hx, hb, hml, hown, hts⟩ (s_throwsIfP l dC dI kA adK adV G H q wZ0 wN wH wB wC wL wK wU wV PI im PM PT lS lB lE lN o0 1 3 u106 hT hr_o0 m117 (rg_t (a := 1) (by decide) (by first | decide | omega) (by first | decide | omega)) (fun _ => Int.le_refl 0) hgn hgh hgb hgc hgi hgu) (cwV 2 hts (goodIn_app (goodIn_r _ [10, 11, 12, 6] rfl (by decide +kernel)) (goodIn_ca (goodIn_r _ [9, 1] rfl (by decide +kernel)) (bs_in _ _))) rfl rfl rfl (by decide +kernel) ⟨(Nat.le_of_ble_eq_true rfl), (Nat.le_of_ble_eq_true rfl)⟩) ⟨fun a U g mk q => by obtain ⟨q0, q1, qK, qE⟩ := q; exact ⟨q0, q1, va_K.moved (u := U) (U := U.calling g mk a) (Vm.Alike.refl U.vm) qK, EVS.blind g mk a qE⟩, gH_rc hK hT hr_o0 shm_0 rfl, fun U hU hW => ⟨rfl, hU, va_K.moved hW.alike hK, hE.call hS hFc hU hW⟩⟩ rfl rfl hl.1 rfl (lv_room (Nat.le_of_ble_eq_true rfl)) dX12_land_93 ⟨(Nat.le_of_ble_eq_true rfl), (Nat.le_of_ble_eq_true rfl)⟩) hS (fun q _ h => hFc q h) hFc (fun r477 u t H locs ht hvm hw478 hB _ _ hS => ?_)
              obtain ⟨u479, rfl⟩ : ∃ z, z = u := ⟨_, rfl⟩
              obtain ⟨hT, hF1, m480⟩ := hB
              rw [ht] at hT hF1 m480
              have hF := hF.more hF1 (by decide)
              try dsimp only at hw478
              obtain ⟨h482, hf483, hd484⟩ := hw478
              have t485 : (1 : Int32).toInt = 1 := by decide
              have t486 : (3 : Int32).toInt = 3 := by decide
              obtain rfl : (1 : Int32) = r477 := hd484.symm
              refine lv_if_eq (tgt := 101) hx hb dX12_land_96 (by decide) (fun c487 => absurd c487 (by decide)) (fun c487 => ?_)
              refine lv_iconst (v := 0) hx hb dX12_land_99 (by decide) ?_
              exact W.iret (v := 0) hx hb hr (fun t ht hW => ⟨⟨0, (u479, wL), rfl, (by exact ⟨(rg_t (a := 0) (by decide) (by first | decide | omega) (by first | decide | omega)), (fun _ h9 => h9), (Or.inr ⟨by have := laC_s wH p0.toInt p1.toInt p2.toInt p3.toInt p4.toInt; have q0 : (0 : Int32).toInt = 0 := (by decide); have q1 : (1 : Int32).toInt = 1 := (by decide); have q2 : (2 : Int32).toInt = 2 := (by decide); have q3 : (3 : Int32).toInt = 3 := (by decide); have qm : (-1 : Int32).toInt = -1 := (by decide); omega, by have := laC_s wH p0.toInt p1.toInt p2.toInt p3.toInt p4.toInt; have q0 : (0 : Int32).toInt = 0 := (by decide); have q1 : (1 : Int32).toInt = 1 := (by decide); have q2 : (2 : Int32).toInt = 2 := (by decide); have q3 : (3 : Int32).toInt = 3 := (by decide); have qm : (-1 : Int32).toInt = -1 := (by decide); omega, rfl⟩)⟩), by (try dsimp only); rw [ht]; exact ⟨hT, hF, m480⟩⟩, hS.F ht⟩) hS.2.2 dX12_land_100
          · have t488 : r93.toInt = 0 := ti_eq c99 rfl (by decide)
            have t489 : (0 : Int32).toInt = 0 := by decide
            have t490 : (20 : Int32).toInt = 20 := by decide
            have t491 : p4.toInt < (0 : Int32).toInt ∨ (20 : Int32).toInt < p4.toInt := hi98 c99
            refine lv_iconst (v := 1) hx hb dX12_land_67 (by decide) ?_
            refine lv_goto (tgt := 72) hx hb dX12_land_68 (by decide) ?_
            refine lv_iconst (v := 2) hx hb dX12_land_72 (by decide) ?_
            have hFc := gA_free hG hA hS
            refine va_calli (va_runV (As := [.int 1, .int 2]) (rest := []) ⟨hx, hb, hml, hown, hts⟩ (s_throwsIfP l dC dI kA adK adV G H q wZ0 wN wH wB wC wL wK wU wV PI im PM PT lS lB lE lN o0 1 2 u31 hT hr_o0 m95 (rg_t (a := 1) (by decide) (by first | decide | omega) (by first | decide | omega)) (fun _ => Int.le_refl 0) hgn hgh hgb hgc hgi hgu) (cwV 2 hts (goodIn_app (goodIn_r _ [10, 11, 12, 6] rfl (by decide +kernel)) (goodIn_ca (goodIn_r _ [9, 1] rfl (by decide +kernel)) (bs_in _ _))) rfl rfl rfl (by decide +kernel) ⟨(Nat.le_of_ble_eq_true rfl), (Nat.le_of_ble_eq_true rfl)⟩) ⟨fun a U g mk q => by obtain ⟨q0, q1, qK, qE⟩ := q; exact ⟨q0, q1, va_K.moved (u := U) (U := U.calling g mk a) (Vm.Alike.refl U.vm) qK, EVS.blind g mk a qE⟩, gH_rc hK hT hr_o0 shm_0 rfl, fun U hU hW => ⟨rfl, hU, va_K.moved hW.alike hK, hE.call hS hFc hU hW⟩⟩ rfl rfl hl.1 rfl (lv_room (Nat.le_of_ble_eq_true rfl)) dX12_land_73 ⟨(Nat.le_of_ble_eq_true rfl), (Nat.le_of_ble_eq_true rfl)⟩) hS (fun q _ h => hFc q h) hFc (fun r492 u t H locs ht hvm hw493 hB _ _ hS => ?_)
            obtain ⟨u494, rfl⟩ : ∃ z, z = u := ⟨_, rfl⟩
            obtain ⟨hT, hF1, m495⟩ := hB
            rw [ht] at hT hF1 m495
            have hF := hF.more hF1 (by decide)
            try dsimp only at hw493
            obtain ⟨h497, hf498, hd499⟩ := hw493
            have t500 : (1 : Int32).toInt = 1 := by decide
            have t501 : (2 : Int32).toInt = 2 := by decide
            obtain rfl : (1 : Int32) = r492 := hd499.symm
            refine lv_if_ne (tgt := 99) hx hb dX12_land_76 (by decide) (fun c502 => ?_) (fun c502 => absurd c502 (by decide))
            refine lv_iconst (v := 0) hx hb dX12_land_99 (by decide) ?_
            exact W.iret (v := 0) hx hb hr (fun t ht hW => ⟨⟨0, (u494, wL), rfl, (by exact ⟨(rg_t (a := 0) (by decide) (by first | decide | omega) (by first | decide | omega)), (fun _ h9 => h9), (Or.inr ⟨by have := laC_s wH p0.toInt p1.toInt p2.toInt p3.toInt p4.toInt; have q0 : (0 : Int32).toInt = 0 := (by decide); have q1 : (1 : Int32).toInt = 1 := (by decide); have q2 : (2 : Int32).toInt = 2 := (by decide); have q3 : (3 : Int32).toInt = 3 := (by decide); have qm : (-1 : Int32).toInt = -1 := (by decide); omega, by have := laC_s wH p0.toInt p1.toInt p2.toInt p3.toInt p4.toInt; have q0 : (0 : Int32).toInt = 0 := (by decide); have q1 : (1 : Int32).toInt = 1 := (by decide); have q2 : (2 : Int32).toInt = 2 := (by decide); have q3 : (3 : Int32).toInt = 3 := (by decide); have qm : (-1 : Int32).toInt = -1 := (by decide); omega, rfl⟩)⟩), by (try dsimp only); rw [ht]; exact ⟨hT, hF, m495⟩⟩, hS.F ht⟩) hS.2.2 dX12_land_100
    · have t503 : r22.toInt ≠ 0 := ti_ne c27 rfl (by decide)
      refine lv_iconst (v := 1) hx hb dX12_land_20 (by decide) ?_
      refine lv_goto (tgt := 25) hx hb dX12_land_21 (by decide) ?_
      refine lv_iconst (v := 1) hx hb dX12_land_25 (by decide) ?_
      have hFc := gA_free hG hA hS
      refine va_calli (va_runV (As := [.int 1, .int 1]) (rest := []) ⟨hx, hb, hml, hown, hts⟩ (s_throwsIfP l dC dI kA adK adV G H q wZ0 wN wH wB wC wL wK wU wV PI im PM PT lS lB lE lN o0 1 1 0 hT hr_o0 m24 (rg_t (a := 1) (by decide) (by first | decide | omega) (by first | decide | omega)) (fun _ => Int.le_refl 0) hgn hgh hgb hgc hgi hgu) (cwV 2 hts (goodIn_app (goodIn_r _ [10, 11, 12, 6] rfl (by decide +kernel)) (goodIn_ca (goodIn_r _ [9, 1] rfl (by decide +kernel)) (bs_in _ _))) rfl rfl rfl (by decide +kernel) ⟨(Nat.le_of_ble_eq_true rfl), (Nat.le_of_ble_eq_true rfl)⟩) ⟨fun a U g mk q => by obtain ⟨q0, q1, qK, qE⟩ := q; exact ⟨q0, q1, va_K.moved (u := U) (U := U.calling g mk a) (Vm.Alike.refl U.vm) qK, EVS.blind g mk a qE⟩, gH_rc hK hT hr_o0 shm_0 rfl, fun U hU hW => ⟨rfl, hU, va_K.moved hW.alike hK, hE.call hS hFc hU hW⟩⟩ rfl rfl hl.1 rfl (lv_room (Nat.le_of_ble_eq_true rfl)) dX12_land_26 ⟨(Nat.le_of_ble_eq_true rfl), (Nat.le_of_ble_eq_true rfl)⟩) hS (fun q _ h => hFc q h) hFc (fun r504 u t H locs ht hvm hw505 hB _ _ hS => ?_)
      obtain ⟨u506, rfl⟩ : ∃ z, z = u := ⟨_, rfl⟩
      obtain ⟨hT, hF1, m507⟩ := hB
      rw [ht] at hT hF1 m507
      have hF := hF.more hF1 (by decide)
      try dsimp only at hw505
      obtain ⟨h509, hf510, hd511⟩ := hw505
      have t512 : (1 : Int32).toInt = 1 := by decide
      have t513 : (1 : Int32).toInt = 1 := by decide
      have t514 : (0 : Int32).toInt = 0 := by decide
      obtain rfl : (1 : Int32) = r504 := hd511.symm
      refine lv_if_ne (tgt := 99) hx hb dX12_land_29 (by decide) (fun c515 => ?_) (fun c515 => absurd c515 (by decide))
      refine lv_iconst (v := 0) hx hb dX12_land_99 (by decide) ?_
      exact W.iret (v := 0) hx hb hr (fun t ht hW => ⟨⟨0, (u506, wL), rfl, (by exact ⟨(rg_t (a := 0) (by decide) (by first | decide | omega) (by first | decide | omega)), (fun _ h9 => h9), (Or.inr ⟨by have := laC_s wH p0.toInt p1.toInt p2.toInt p3.toInt p4.toInt; have q0 : (0 : Int32).toInt = 0 := (by decide); have q1 : (1 : Int32).toInt = 1 := (by decide); have q2 : (2 : Int32).toInt = 2 := (by decide); have q3 : (3 : Int32).toInt = 3 := (by decide); have qm : (-1 : Int32).toInt = -1 := (by decide); omega, by have := laC_s wH p0.toInt p1.toInt p2.toInt p3.toInt p4.toInt; have q0 : (0 : Int32).toInt = 0 := (by decide); have q1 : (1 : Int32).toInt = 1 := (by decide); have q2 : (2 : Int32).toInt = 2 := (by decide); have q3 : (3 : Int32).toInt = 3 := (by decide); have qm : (-1 : Int32).toInt = -1 := (by decide); omega, rfl⟩)⟩), by (try dsimp only); rw [ht]; exact ⟨hT, hF, m507⟩⟩, hS.F ht⟩) hS.2.2 dX12_land_100
