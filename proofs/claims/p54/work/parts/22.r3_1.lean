def w_s_layer : List Cond := .code yX12_layer cX12_layer 4 (some .int) :: (HAppend.hAppend (α := List Cond) (β := List Cond) (γ := List Cond) [.fieldLink RX12 194 "SeaLandModel" "thrown" "I", .code yX12_noWork cX12_noWork 2 (some .boolean), .fieldLink RX12 9 "SeaLandModel" "world" "[I", .code yX12_in cX12_in 3 (some .boolean), .methodLink RX12 197 yX12_in, .static yX12_in, .initialized RX12, .methodLink RX12 269 yX12_noWork, .instanceMethod yX12_noWork, .selects RX12 yX12_noWork yX12_noWork, .code yX12_throwsIf cX12_throwsIf 3 (some .boolean), .methodLink RX12 224 yX12_throwsIf, .instanceMethod yX12_throwsIf, .selects RX12 yX12_throwsIf yX12_throwsIf, .code yX12_isDike cX12_isDike 2 (some .boolean), .code yX12_of cX12_of 3 (some .int), .code yX12_at cX12_at 2 (some .int), .methodLink RX12 214 yX12_at, .static yX12_at, .methodLink RX12 217 yX12_of, .instanceMethod yX12_of, .selects RX12 yX12_of yX12_of, .methodLink RX12 272 yX12_isDike, .instanceMethod yX12_isDike, .selects RX12 yX12_isDike yX12_isDike, .code yX12_lays cX12_lays 5 none, .fieldLink RX12 238 "SeaLandModel" "rows" "I", .methodLink RX12 275 yX12_lays, .instanceMethod yX12_lays, .selects RX12 yX12_lays yX12_lays] bs)
set_option maxHeartbeats 4000000 in
set_option maxRecDepth 100000 in
theorem s_layer (l : Launch) (dC : Nat → ClassId) (dI : Nat → Nat → Nat) (kA : Nat → ClassId) (adK adV : Nat → Nat) (G : gT) (H0 : Heap) (q : Nat → Nat) (wZ wN : Nat → Int) (wH wB wC : Int) (wL wK : Nat → Prop) (wU wV : Nat → Nat) (PI : Nat → Int → Prop) (im : Int) (PM PT : Nat → Int → Prop) (lS lB lE : Nat → Nat → Int → Prop) (lN : Nat → Int) (o0 : Nat) (p0 : Int32) (p1 : Int32) (p2 : Int32)  (hT : gH (dC, dI) kA (SHm q (wP wZ wN wH wB wC wL wK wU wV) PI im PM PT lS lB lE lN) G H0) (hr_o0 : G o0 = some 0) (hgz : ∀ i, 0 ≤ wZ i) (hgn : ∀ i, 6500000 ≤ wN i ∧ wN i ≤ 20200000) (hgh : 0 ≤ wH ∧ wH ≤ 40000) (hgb : 0 ≤ wB ∧ wB ≤ 3850000) (hgc : 0 ≤ wC ∧ wC ≤ 30) (hgi : 0 ≤ im ∧ im ≤ 1) (hgu : ∀ a t, G a = some (t + 1) → a = q t) : Met l yX12_layer w_s_layer ({ frames := 3, cells := 0, slots := 0, locals := 67 }) (va_Pc [.ref o0, .int p0, .int p1, .int p2] (fun U => U.heap = H0 ∧ va_K (dC, dI) vwCl (tyl kA) U ∧ EVS adK adV (gA G H0.size) U U.heap)) (va_Qi (fun (r : Int32) (u : Unit) => (-1 ≤ r.toInt ∧ r.toInt ≤ 6)) (fun (_ : Unit) (t : State) => gH (dC, dI) kA (SHm q (wP wZ wN wH wB wC wL wK wU wV) PI im PM PT lS lB lE lN) G t.heap ∧ gF (dC, dI) SKm G ([(0, 0), (0, 9), (2, 0)] : List (Nat × Nat)) H0 t.heap) (gA G H0.size)) 0 0 (gA G H0.size) := by
  refine Met.ofW (cc := cX12_layer) (maxL := 4) (ret := (some .int)) (by decide) rfl ?_
  intro p e s m args below meth c s₁ B hml hv
  obtain ⟨rfl, hH0, hK, hE⟩ := hv
  have hx := B.exec
  have hb := B.bytes
  have hr := B.returns
  have hts := atoms_spec (ws := w_s_layer) B.pre
  have hown : s.vm.findClass RX12 = some m.cls := findClass_of_methodNamed B.named
  have hlocks := B.notSynchronized
  subst hH0
  generalize hAe : gA G s.heap.size = A at hE ⊢
  have hA : ∀ q : Nat, s.heap.size ≤ q → A q := fun q h => by rw [← hAe]; exact Or.inr h
  have hG := gA_of hAe
  have hS : va_S A s.heap s.heap [] := va_S.rf
  have hF : gF (dC, dI) SKm G ([(0, 0), (0, 9), (2, 0)] : List (Nat × Nat)) s.heap s.heap := gF.rf
  have hl := lv_entry ([.ref o0, .int p0, .int p1, .int p2]) (n := 4) (Nat.le_of_ble_eq_true rfl)
  rw [lg_entry_eq]
  generalize (lg_sl ([.ref o0, .int p0, .int p1, .int p2]) ++ List.replicate (4 - (lg_sl ([.ref o0, .int p0, .int p1, .int p2])).length) Slot.unset).toArray = ls at hl ⊢
  have hl : lv_has ls 4 [(0, .ref o0), (1, .int p0), (2, .int p1), (3, .int p2)] := hl
  refine lv_aload_n hx hb dX12_layer_0 rfl (lv_at hl 0 rfl) ?_
  refine lv_iconst (v := 0) hx hb dX12_layer_1 (by decide) ?_
  refine tw_put (v := .int 0) (ty := .int) hx hb hts bF_X12 tyX12 tyX12_ok nmX12 hown hK hT hG hS hr_o0 shm_0 rfl 0 (by decide) (ht_at hts 0 rfl) (fun _ h9 => h9) rfl (by decide +kernel) rfl rfl (gl_at rfl (gi_all _)) dX12_layer_2 (fun H locs hT oq m1 oj hS => ?_)
  have hF := hF.put hr_o0 skm_0 oq oj (by decide)
  refine lv_aload_n hx hb dX12_layer_5 rfl (lv_at hl 0 rfl) ?_
  refine lv_aload_n hx hb dX12_layer_6 rfl (lv_at hl 0 rfl) ?_
  refine lv_iload_n hx hb dX12_layer_7 rfl (lv_at hl 1 rfl) ?_
  have hFc := gA_free hG hA hS
  refine va_calli (va_runV (As := [.int p0]) (rest := [.ref o0]) ⟨hx, hb, hml, hown, hts⟩ (s_noWork l dC dI kA adK adV G H q wZ wN wH wB wC wL wK wU wV PI im PM PT lS lB lE lN o0 p0 hT hr_o0 hgz hgn hgh hgb hgc hgi hgu) (cwV 1 hts (goodIn_app (goodIn_r _ [8, 9, 10, 7] rfl (by decide +kernel)) (goodIn_ca (goodIn_r _ [2, 3, 4, 5, 6, 7] rfl (by decide +kernel)) (bs_in _ _))) rfl rfl rfl (by decide +kernel) ⟨(Nat.le_of_ble_eq_true rfl), (Nat.le_of_ble_eq_true rfl)⟩) ⟨fun a U g mk q => by obtain ⟨q0, q1, qK, qE⟩ := q; exact ⟨q0, q1, va_K.moved (u := U) (U := U.calling g mk a) (Vm.Alike.refl U.vm) qK, EVS.blind g mk a qE⟩, gH_rc hK hT hr_o0 shm_0 rfl, fun U hU hW => ⟨rfl, hU, va_K.moved hW.alike hK, hE.call hS hFc hU hW⟩⟩ rfl rfl hl.1 rfl (lv_room (Nat.le_of_ble_eq_true rfl)) dX12_layer_8 ⟨(Nat.le_of_ble_eq_true rfl), (Nat.le_of_ble_eq_true rfl)⟩) hS (fun q _ h => hFc q h) hFc (fun r2 u t H locs ht hvm hw3 hB _ _ hS => ?_)
  obtain ⟨hT, hF1⟩ := hB
  rw [ht] at hT hF1
  have hF := hF.more hF1 (by decide)
  try dsimp only at hw3
  obtain ⟨h5, hi6⟩ := hw3
  refine lv_iconst (v := 1) hx hb dX12_layer_11 (by decide) ?_
  have hFc := gA_free hG hA hS
  refine va_calli (va_runV (As := [.int r2, .int 1]) (rest := []) ⟨hx, hb, hml, hown, hts⟩ (s_throwsIf l dC dI kA adK adV G H q wZ wN wH wB wC wL wK wU wV PI im PM PT lS lB lE lN o0 r2 1 hT hr_o0 (by have q8 := ti_all r2; omega) hgz hgn hgh hgb hgc hgi hgu) (cwV 2 hts (goodIn_app (goodIn_r _ [12, 13, 14, 7] rfl (by decide +kernel)) (goodIn_ca (goodIn_r _ [11, 1] rfl (by decide +kernel)) (bs_in _ _))) rfl rfl rfl (by decide +kernel) ⟨(Nat.le_of_ble_eq_true rfl), (Nat.le_of_ble_eq_true rfl)⟩) ⟨fun a U g mk q => by obtain ⟨q0, q1, qK, qE⟩ := q; exact ⟨q0, q1, va_K.moved (u := U) (U := U.calling g mk a) (Vm.Alike.refl U.vm) qK, EVS.blind g mk a qE⟩, gH_rc hK hT hr_o0 shm_0 rfl, fun U hU hW => ⟨rfl, hU, va_K.moved hW.alike hK, hE.call hS hFc hU hW⟩⟩ rfl rfl hl.1 rfl (lv_room (Nat.le_of_ble_eq_true rfl)) dX12_layer_12 ⟨(Nat.le_of_ble_eq_true rfl), (Nat.le_of_ble_eq_true rfl)⟩) hS (fun q _ h => hFc q h) hFc (fun r7 u t H locs ht hvm hw8 hB _ _ hS => ?_)
  obtain ⟨hT, hF1⟩ := hB
  rw [ht] at hT hF1
  have hF := hF.more hF1 (by decide)
  try dsimp only at hw8
  obtain ⟨h10, hd11⟩ := hw8
  obtain rfl : r2 = r7 := hd11.symm
  refine lv_if_ne (tgt := 73) hx hb dX12_layer_15 (by decide) (fun c12 => ?_) (fun c12 => ?_)
  · have t13 : r2.toInt ≠ 0 := ti_ne c12 rfl (by decide)
    refine lv_iconst (v := 0) hx hb dX12_layer_73 (by decide) ?_
    exact W.iret (v := 0) hx hb hr (fun t ht hW => ⟨⟨0, (), rfl, (by exact (rg_t (a := 0) (by decide) (by first | decide | omega) (by first | decide | omega))), by (try dsimp only); rw [ht]; exact ⟨hT, hF⟩⟩, hS.F ht⟩) hS.2.2 dX12_layer_74
  · have t14 : r2.toInt = 0 := ti_eq c12 rfl (by decide)
    have t15 : 0 ≤ p0.toInt ∧ p0.toInt ≤ 29 ∧ p0.toInt < wC := hi6 c12
    refine lv_aload_n hx hb dX12_layer_18 rfl (lv_at hl 0 rfl) ?_
    refine lv_iload_n hx hb dX12_layer_19 rfl (lv_at hl 2 rfl) ?_
    refine lv_iconst (v := 1) hx hb dX12_layer_20 (by decide) ?_
    refine lv_sipush (v := 300) hx hb dX12_layer_21 (by decide) ?_
    have hFc := gA_free hG hA hS
    refine va_calli (va_runS (As := [.int p1, .int 1, .int 300]) (rest := [.ref o0]) ⟨hx, hb, hml, hown, hts⟩ (s_in l dC dI kA adK adV G H q wZ wN wH wB wC wL wK wU wV PI im PM PT lS lB lE lN p1 1 300 hT hgz hgn hgh hgb hgc hgi hgu) (va_cwS 3 hts (goodIn_app (goodIn_r _ [5, 6, 7] rfl (by decide +kernel)) (goodIn_ca (goodIn_r _ [4] rfl (by decide +kernel)) (bs_in _ _))) rfl rfl rfl (by decide +kernel) ⟨(Nat.le_of_ble_eq_true rfl), (Nat.le_of_ble_eq_true rfl)⟩) ⟨fun a U g mk q => by obtain ⟨q0, q1, qK, qE⟩ := q; exact ⟨q0, q1, va_K.moved (u := U) (U := U.calling g mk a) (Vm.Alike.refl U.vm) qK, EVS.blind g mk a qE⟩, fun U hU hW => ⟨rfl, hU, va_K.moved hW.alike hK, hE.call hS hFc hU hW⟩⟩ rfl rfl hl.1 rfl (lv_room (Nat.le_of_ble_eq_true rfl)) dX12_layer_24 ⟨(Nat.le_of_ble_eq_true rfl), (Nat.le_of_ble_eq_true rfl)⟩) hS (fun q _ h => hFc q h) hFc (fun r16 u t H locs ht hvm hw17 hB _ _ hS => ?_)
    obtain ⟨hT, hF1⟩ := hB
    rw [ht] at hT hF1
    have hF := hF.more hF1 (by decide)
    try dsimp only at hw17
    obtain ⟨h18, hi19, hi20⟩ := hw17
    refine lv_if_eq (tgt := 40) hx hb dX12_layer_27 (by decide) (fun c21 => ?_) (fun c21 => ?_)
    · have t22 : r16.toInt = 0 := ti_eq c21 rfl (by decide)
      have t23 : (300 : Int32).toInt = 300 := by decide
      have t24 : (1 : Int32).toInt = 1 := by decide
      have t25 : p1.toInt < (1 : Int32).toInt ∨ (300 : Int32).toInt < p1.toInt := hi20 c21
      refine lv_iconst (v := 1) hx hb dX12_layer_40 (by decide) ?_
      refine lv_goto (tgt := 45) hx hb dX12_layer_41 (by decide) ?_
      refine lv_iconst (v := 2) hx hb dX12_layer_45 (by decide) ?_
      have hFc := gA_free hG hA hS
      refine va_calli (va_runV (As := [.int 1, .int 2]) (rest := []) ⟨hx, hb, hml, hown, hts⟩ (s_throwsIf l dC dI kA adK adV G H q wZ wN wH wB wC wL wK wU wV PI im PM PT lS lB lE lN o0 1 2 hT hr_o0 (rg_t (a := 1) (by decide) (by first | decide | omega) (by first | decide | omega)) hgz hgn hgh hgb hgc hgi hgu) (cwV 2 hts (goodIn_app (goodIn_r _ [12, 13, 14, 7] rfl (by decide +kernel)) (goodIn_ca (goodIn_r _ [11, 1] rfl (by decide +kernel)) (bs_in _ _))) rfl rfl rfl (by decide +kernel) ⟨(Nat.le_of_ble_eq_true rfl), (Nat.le_of_ble_eq_true rfl)⟩) ⟨fun a U g mk q => by obtain ⟨q0, q1, qK, qE⟩ := q; exact ⟨q0, q1, va_K.moved (u := U) (U := U.calling g mk a) (Vm.Alike.refl U.vm) qK, EVS.blind g mk a qE⟩, gH_rc hK hT hr_o0 shm_0 rfl, fun U hU hW => ⟨rfl, hU, va_K.moved hW.alike hK, hE.call hS hFc hU hW⟩⟩ rfl rfl hl.1 rfl (lv_room (Nat.le_of_ble_eq_true rfl)) dX12_layer_46 ⟨(Nat.le_of_ble_eq_true rfl), (Nat.le_of_ble_eq_true rfl)⟩) hS (fun q _ h => hFc q h) hFc (fun r26 u t H locs ht hvm hw27 hB _ _ hS => ?_)
      obtain ⟨hT, hF1⟩ := hB
      rw [ht] at hT hF1
      have hF := hF.more hF1 (by decide)
      try dsimp only at hw27
      obtain ⟨h28, hd29⟩ := hw27
      obtain rfl : (1 : Int32) = r26 := hd29.symm
      refine lv_if_ne (tgt := 73) hx hb dX12_layer_49 (by decide) (fun c30 => ?_) (fun c30 => absurd c30 (by decide))
      refine lv_iconst (v := 0) hx hb dX12_layer_73 (by decide) ?_
      exact W.iret (v := 0) hx hb hr (fun t ht hW => ⟨⟨0, (), rfl, (by exact (rg_t (a := 0) (by decide) (by first | decide | omega) (by first | decide | omega))), by (try dsimp only); rw [ht]; exact ⟨hT, hF⟩⟩, hS.F ht⟩) hS.2.2 dX12_layer_74
    · have t31 : r16.toInt ≠ 0 := ti_ne c21 rfl (by decide)
      have t32 : (300 : Int32).toInt = 300 := by decide
      have t33 : (1 : Int32).toInt = 1 := by decide
      have t34 : (1 : Int32).toInt ≤ p1.toInt ∧ p1.toInt ≤ (300 : Int32).toInt := hi19 ((bit_of ⟨by omega, by omega⟩).resolve_left c21)
      refine lv_iload_n hx hb dX12_layer_30 rfl (lv_at hl 3 rfl) ?_
      refine lv_iconst (v := 0) hx hb dX12_layer_31 (by decide) ?_
      refine lv_bipush (v := 9) hx hb dX12_layer_32 (by decide) ?_
      have hFc := gA_free hG hA hS
      refine va_calli (va_runS (As := [.int p2, .int 0, .int 9]) (rest := [.ref o0]) ⟨hx, hb, hml, hown, hts⟩ (s_in l dC dI kA adK adV G H q wZ wN wH wB wC wL wK wU wV PI im PM PT lS lB lE lN p2 0 9 hT hgz hgn hgh hgb hgc hgi hgu) (va_cwS 3 hts (goodIn_app (goodIn_r _ [5, 6, 7] rfl (by decide +kernel)) (goodIn_ca (goodIn_r _ [4] rfl (by decide +kernel)) (bs_in _ _))) rfl rfl rfl (by decide +kernel) ⟨(Nat.le_of_ble_eq_true rfl), (Nat.le_of_ble_eq_true rfl)⟩) ⟨fun a U g mk q => by obtain ⟨q0, q1, qK, qE⟩ := q; exact ⟨q0, q1, va_K.moved (u := U) (U := U.calling g mk a) (Vm.Alike.refl U.vm) qK, EVS.blind g mk a qE⟩, fun U hU hW => ⟨rfl, hU, va_K.moved hW.alike hK, hE.call hS hFc hU hW⟩⟩ rfl rfl hl.1 rfl (lv_room (Nat.le_of_ble_eq_true rfl)) dX12_layer_34 ⟨(Nat.le_of_ble_eq_true rfl), (Nat.le_of_ble_eq_true rfl)⟩) hS (fun q _ h => hFc q h) hFc (fun r35 u t H locs ht hvm hw36 hB _ _ hS => ?_)
      obtain ⟨hT, hF1⟩ := hB
      rw [ht] at hT hF1
      have hF := hF.more hF1 (by decide)
      try dsimp only at hw36
      obtain ⟨h37, hi38, hi39⟩ := hw36
      refine lv_if_ne (tgt := 44) hx hb dX12_layer_37 (by decide) (fun c40 => ?_) (fun c40 => ?_)
      · have t41 : r35.toInt ≠ 0 := ti_ne c40 rfl (by decide)
        have t42 : (9 : Int32).toInt = 9 := by decide
        have t43 : (0 : Int32).toInt = 0 := by decide
        have t44 : (0 : Int32).toInt ≤ p2.toInt ∧ p2.toInt ≤ (9 : Int32).toInt := hi38 ((bit_of ⟨by omega, by omega⟩).resolve_left c40)
        refine lv_iconst (v := 0) hx hb dX12_layer_44 (by decide) ?_
        refine lv_iconst (v := 2) hx hb dX12_layer_45 (by decide) ?_
        have hFc := gA_free hG hA hS
        refine va_calli (va_runV (As := [.int 0, .int 2]) (rest := []) ⟨hx, hb, hml, hown, hts⟩ (s_throwsIf l dC dI kA adK adV G H q wZ wN wH wB wC wL wK wU wV PI im PM PT lS lB lE lN o0 0 2 hT hr_o0 (rg_t (a := 0) (by decide) (by first | decide | omega) (by first | decide | omega)) hgz hgn hgh hgb hgc hgi hgu) (cwV 2 hts (goodIn_app (goodIn_r _ [12, 13, 14, 7] rfl (by decide +kernel)) (goodIn_ca (goodIn_r _ [11, 1] rfl (by decide +kernel)) (bs_in _ _))) rfl rfl rfl (by decide +kernel) ⟨(Nat.le_of_ble_eq_true rfl), (Nat.le_of_ble_eq_true rfl)⟩) ⟨fun a U g mk q => by obtain ⟨q0, q1, qK, qE⟩ := q; exact ⟨q0, q1, va_K.moved (u := U) (U := U.calling g mk a) (Vm.Alike.refl U.vm) qK, EVS.blind g mk a qE⟩, gH_rc hK hT hr_o0 shm_0 rfl, fun U hU hW => ⟨rfl, hU, va_K.moved hW.alike hK, hE.call hS hFc hU hW⟩⟩ rfl rfl hl.1 rfl (lv_room (Nat.le_of_ble_eq_true rfl)) dX12_layer_46 ⟨(Nat.le_of_ble_eq_true rfl), (Nat.le_of_ble_eq_true rfl)⟩) hS (fun q _ h => hFc q h) hFc (fun r45 u t H locs ht hvm hw46 hB _ _ hS => ?_)
        obtain ⟨hT, hF1⟩ := hB
        rw [ht] at hT hF1
        have hF := hF.more hF1 (by decide)
        try dsimp only at hw46
        obtain ⟨h47, hd48⟩ := hw46
        obtain rfl : (0 : Int32) = r45 := hd48.symm
        refine lv_if_ne (tgt := 73) hx hb dX12_layer_49 (by decide) (fun c49 => absurd c49 (by decide)) (fun c49 => ?_)
        refine lv_aload_n hx hb dX12_layer_52 rfl (lv_at hl 0 rfl) ?_
        refine lv_aload_n hx hb dX12_layer_53 rfl (lv_at hl 0 rfl) ?_
        refine lv_iload_n hx hb dX12_layer_54 rfl (lv_at hl 1 rfl) ?_
        have hFc := gA_free hG hA hS
        refine va_calli (va_runV (As := [.int p0]) (rest := [.ref o0]) ⟨hx, hb, hml, hown, hts⟩ (s_isDike l dC dI kA adK adV G H q wZ wN wH wB wC wL wK wU wV PI im PM PT lS lB lE lN o0 p0 hT hr_o0 (by have q8 := ti_all p0; omega) hgz hgn hgh hgb hgc hgi hgu) (cwV 1 hts (goodIn_app (goodIn_r _ [23, 24, 25, 7] rfl (by decide +kernel)) (goodIn_ca (goodIn_r _ [15, 16, 3, 17, 18, 19, 7, 20, 21, 22] rfl (by decide +kernel)) (bs_in _ _))) rfl rfl rfl (by decide +kernel) ⟨(Nat.le_of_ble_eq_true rfl), (Nat.le_of_ble_eq_true rfl)⟩) ⟨fun a U g mk q => by obtain ⟨q0, q1, qK, qE⟩ := q; exact ⟨q0, q1, va_K.moved (u := U) (U := U.calling g mk a) (Vm.Alike.refl U.vm) qK, EVS.blind g mk a qE⟩, gH_rc hK hT hr_o0 shm_0 rfl, fun U hU hW => ⟨rfl, hU, va_K.moved hW.alike hK, hE.call hS hFc hU hW⟩⟩ rfl rfl hl.1 rfl (lv_room (Nat.le_of_ble_eq_true rfl)) dX12_layer_55 ⟨(Nat.le_of_ble_eq_true rfl), (Nat.le_of_ble_eq_true rfl)⟩) hS (fun q _ h => hFc q h) hFc (fun r50 u t H locs ht hvm hw51 hB _ _ hS => ?_)
        obtain ⟨hT, hF1⟩ := hB
        rw [ht] at hT hF1
        have hF := hF.more hF1 (by decide)
        try dsimp only at hw51
        obtain ⟨h52, hi53⟩ := hw51
        refine lv_if_ne (tgt := 65) hx hb dX12_layer_58 (by decide) (fun c54 => ?_) (fun c54 => ?_)
        · have t55 : r50.toInt ≠ 0 := ti_ne c54 rfl (by decide)
          have t56 : p0.toInt < wC → wK p0.toNatClampNeg := hi53 ((bit_of ⟨by omega, by omega⟩).resolve_left c54)
          refine lv_iconst (v := 0) hx hb dX12_layer_65 (by decide) ?_
          refine lv_iconst (v := 3) hx hb dX12_layer_66 (by decide) ?_
          have hFc := gA_free hG hA hS
          refine va_calli (va_runV (As := [.int 0, .int 3]) (rest := []) ⟨hx, hb, hml, hown, hts⟩ (s_throwsIf l dC dI kA adK adV G H q wZ wN wH wB wC wL wK wU wV PI im PM PT lS lB lE lN o0 0 3 hT hr_o0 (rg_t (a := 0) (by decide) (by first | decide | omega) (by first | decide | omega)) hgz hgn hgh hgb hgc hgi hgu) (cwV 2 hts (goodIn_app (goodIn_r _ [12, 13, 14, 7] rfl (by decide +kernel)) (goodIn_ca (goodIn_r _ [11, 1] rfl (by decide +kernel)) (bs_in _ _))) rfl rfl rfl (by decide +kernel) ⟨(Nat.le_of_ble_eq_true rfl), (Nat.le_of_ble_eq_true rfl)⟩) ⟨fun a U g mk q => by obtain ⟨q0, q1, qK, qE⟩ := q; exact ⟨q0, q1, va_K.moved (u := U) (U := U.calling g mk a) (Vm.Alike.refl U.vm) qK, EVS.blind g mk a qE⟩, gH_rc hK hT hr_o0 shm_0 rfl, fun U hU hW => ⟨rfl, hU, va_K.moved hW.alike hK, hE.call hS hFc hU hW⟩⟩ rfl rfl hl.1 rfl (lv_room (Nat.le_of_ble_eq_true rfl)) dX12_layer_67 ⟨(Nat.le_of_ble_eq_true rfl), (Nat.le_of_ble_eq_true rfl)⟩) hS (fun q _ h => hFc q h) hFc (fun r57 u t H locs ht hvm hw58 hB _ _ hS => ?_)
          obtain ⟨hT, hF1⟩ := hB
          rw [ht] at hT hF1
          have hF := hF.more hF1 (by decide)
          try dsimp only at hw58
          obtain ⟨h59, hd60⟩ := hw58
          obtain rfl : (0 : Int32) = r57 := hd60.symm
          refine lv_if_eq (tgt := 75) hx hb dX12_layer_70 (by decide) (fun c61 => ?_) (fun c61 => absurd c61 (by decide))
          refine lv_aload_n hx hb dX12_layer_75 rfl (lv_at hl 0 rfl) ?_
          refine lv_iload_n hx hb dX12_layer_76 rfl (lv_at hl 1 rfl) ?_
          refine lv_iconst (v := 4) hx hb dX12_layer_77 (by decide) ?_
          have hFc := gA_free hG hA hS
          refine va_calli (va_runV (As := [.int p0, .int 4]) (rest := []) ⟨hx, hb, hml, hown, hts⟩ (s_of4 l dC dI kA adK adV G H q wZ wN wH wB wC wL wK wU wV PI im PM PT lS lB lE lN o0 p0 hT hr_o0 (by have q8 := ti_all p0; omega) hgz hgn hgh hgb hgc hgi hgu) (cwV 2 hts (goodIn_app (goodIn_r _ [20, 21, 22, 7] rfl (by decide +kernel)) (goodIn_ca (goodIn_r _ [16, 3, 17, 18, 19, 7] rfl (by decide +kernel)) (bs_in _ _))) rfl rfl rfl (by decide +kernel) ⟨(Nat.le_of_ble_eq_true rfl), (Nat.le_of_ble_eq_true rfl)⟩) ⟨fun a U g mk q => by obtain ⟨q0, q1, qK, qE⟩ := q; exact ⟨q0, q1, va_K.moved (u := U) (U := U.calling g mk a) (Vm.Alike.refl U.vm) qK, EVS.blind g mk a qE⟩, gH_rc hK hT hr_o0 shm_0 rfl, fun U hU hW => ⟨rfl, hU, va_K.moved hW.alike hK, hE.call hS hFc hU hW⟩⟩ rfl rfl hl.1 rfl (lv_room (Nat.le_of_ble_eq_true rfl)) dX12_layer_78 ⟨(Nat.le_of_ble_eq_true rfl), (Nat.le_of_ble_eq_true rfl)⟩) hS (fun q _ h => hFc q h) hFc (fun r62 u t H locs ht hvm hw63 hB _ _ hS => ?_)
          obtain ⟨hT, hF1⟩ := hB
          rw [ht] at hT hF1
          have hF := hF.more hF1 (by decide)
          try dsimp only at hw63
          obtain ⟨h64, ⟨ix65, hix65, m66⟩⟩ := hw63
          have hg67 : G (q 1) = some 2 := gx_of hT hr_o0 shm_0 (k := 1) (by decide) rfl
          have m68 := (el_kept (hF1.arr hg67 skm_2 (by decide))).trans m66
          refine lv_bipush (v := 6) hx hb dX12_layer_81 (by decide) ?_
          refine lv_icmp_eq (tgt := 96) hx hb dX12_layer_83 (by decide) (fun c69 => ?_) (fun c69 => ?_)
          · have t70 : r62.toInt = 6 := ti_eq c69 rfl (by decide)
            refine lv_iconst (v := (-1)) hx hb dX12_layer_96 (by decide) ?_
            exact W.iret (v := (-1)) hx hb hr (fun t ht hW => ⟨⟨(-1), (), rfl, (by exact (rg_t (a := (-1)) (by decide) (by first | decide | omega) (by first | decide | omega))), by (try dsimp only); rw [ht]; exact ⟨hT, hF⟩⟩, hS.F ht⟩) hS.2.2 dX12_layer_97
          · have t71 : r62.toInt ≠ 6 := ti_ne c69 rfl (by decide)
            refine lv_aload_n hx hb dX12_layer_86 rfl (lv_at hl 0 rfl) ?_
            refine lv_iload_n hx hb dX12_layer_87 rfl (lv_at hl 1 rfl) ?_
            refine lv_iconst (v := 0) hx hb dX12_layer_88 (by decide) ?_
            have hFc := gA_free hG hA hS
            refine va_calli (va_runV (As := [.int p0, .int 0]) (rest := []) ⟨hx, hb, hml, hown, hts⟩ (s_of0 l dC dI kA adK adV G H q wZ wN wH wB wC wL wK wU wV PI im PM PT lS lB lE lN o0 p0 hT hr_o0 (by have q8 := ti_all p0; omega) hgz hgn hgh hgb hgc hgi hgu) (cwV 2 hts (goodIn_app (goodIn_r _ [20, 21, 22, 7] rfl (by decide +kernel)) (goodIn_ca (goodIn_r _ [16, 3, 17, 18, 19, 7] rfl (by decide +kernel)) (bs_in _ _))) rfl rfl rfl (by decide +kernel) ⟨(Nat.le_of_ble_eq_true rfl), (Nat.le_of_ble_eq_true rfl)⟩) ⟨fun a U g mk q => by obtain ⟨q0, q1, qK, qE⟩ := q; exact ⟨q0, q1, va_K.moved (u := U) (U := U.calling g mk a) (Vm.Alike.refl U.vm) qK, EVS.blind g mk a qE⟩, gH_rc hK hT hr_o0 shm_0 rfl, fun U hU hW => ⟨rfl, hU, va_K.moved hW.alike hK, hE.call hS hFc hU hW⟩⟩ rfl rfl hl.1 rfl (lv_room (Nat.le_of_ble_eq_true rfl)) dX12_layer_89 ⟨(Nat.le_of_ble_eq_true rfl), (Nat.le_of_ble_eq_true rfl)⟩) hS (fun q _ h => hFc q h) hFc (fun r72 u t H locs ht hvm hw73 hB _ _ hS => ?_)
            obtain ⟨hT, hF1⟩ := hB
            rw [ht] at hT hF1
            have m74 := (el_kept (hF1.arr hg67 skm_2 (by decide))).trans m68
            have hF := hF.more hF1 (by decide)
            try dsimp only at hw73
            have ⟨ix75, hix75, m76⟩ := hw73
            refine lv_iconst (v := 1) hx hb dX12_layer_92 (by decide) ?_
            refine lv_icmp_ne (tgt := 98) hx hb dX12_layer_93 (by decide) (fun c78 => ?_) (fun c78 => ?_)
            · have t79 : r72.toInt ≠ 1 := ti_ne c78 rfl (by decide)
              refine lv_aload_n hx hb dX12_layer_98 rfl (lv_at hl 0 rfl) ?_
              refine lv_iload_n hx hb dX12_layer_99 rfl (lv_at hl 1 rfl) ?_
              refine lv_iload_n hx hb dX12_layer_100 rfl (lv_at hl 2 rfl) ?_
              refine lv_iload_n hx hb dX12_layer_101 rfl (lv_at hl 3 rfl) ?_
              have hFc := gA_free hG hA hS
              refine va_callv (va_runV (As := [.int p0, .int p1, .int p2]) (rest := []) ⟨hx, hb, hml, hown, hts⟩ (s_lays l dC dI kA adK adV G H q wZ wN wH wB wC wL wK wU wV PI im PM PT lS lB lE lN o0 p0 p1 p2 r62 ix65 hT hr_o0 (by have q8 := ti_all p0; omega) (by have q8 := ti_all p2; omega) (by have q9 := (show ix65.toInt = ix65.toInt from rfl); have := (show p0.toInt = p0.toInt from rfl); omega) m74 (by have q8 := ti_all r62; omega) hgz hgn hgh hgb hgc hgi hgu) (cwV 3 hts (goodIn_app (goodIn_r _ [28, 29, 30, 7] rfl (by decide +kernel)) (goodIn_ca (goodIn_r _ [26, 16, 3, 17, 18, 19, 7, 20, 21, 22, 27] rfl (by decide +kernel)) (bs_in _ _))) rfl rfl rfl (by decide +kernel) ⟨(Nat.le_of_ble_eq_true rfl), (Nat.le_of_ble_eq_true rfl)⟩) ⟨fun a U g mk q => by obtain ⟨q0, q1, qK, qE⟩ := q; exact ⟨q0, q1, va_K.moved (u := U) (U := U.calling g mk a) (Vm.Alike.refl U.vm) qK, EVS.blind g mk a qE⟩, gH_rc hK hT hr_o0 shm_0 rfl, fun U hU hW => ⟨rfl, hU, va_K.moved hW.alike hK, hE.call hS hFc hU hW⟩⟩ rfl rfl hl.1 rfl (lv_room (Nat.le_of_ble_eq_true rfl)) dX12_layer_102 ⟨(Nat.le_of_ble_eq_true rfl), (Nat.le_of_ble_eq_true rfl)⟩) hS (fun q _ h => hFc q h) hFc (fun u t H locs ht hvm hw81 hB _ _ hS => ?_)
              obtain ⟨hT, hF1⟩ := hB
              rw [ht] at hT hF1
              have hF := hF.more hF1 (by decide)
              try dsimp only at hw81
              refine lv_aload_n hx hb dX12_layer_105 rfl (lv_at hl 0 rfl) ?_
              refine lv_iload_n hx hb dX12_layer_106 rfl (lv_at hl 1 rfl) ?_
              refine lv_iconst (v := 4) hx hb dX12_layer_107 (by decide) ?_
              have hFc := gA_free hG hA hS
              refine va_calli (va_runV (As := [.int p0, .int 4]) (rest := []) ⟨hx, hb, hml, hown, hts⟩ (s_of4 l dC dI kA adK adV G H q wZ wN wH wB wC wL wK wU wV PI im PM PT lS lB lE lN o0 p0 hT hr_o0 (by have q8 := ti_all p0; omega) hgz hgn hgh hgb hgc hgi hgu) (cwV 2 hts (goodIn_app (goodIn_r _ [20, 21, 22, 7] rfl (by decide +kernel)) (goodIn_ca (goodIn_r _ [16, 3, 17, 18, 19, 7] rfl (by decide +kernel)) (bs_in _ _))) rfl rfl rfl (by decide +kernel) ⟨(Nat.le_of_ble_eq_true rfl), (Nat.le_of_ble_eq_true rfl)⟩) ⟨fun a U g mk q => by obtain ⟨q0, q1, qK, qE⟩ := q; exact ⟨q0, q1, va_K.moved (u := U) (U := U.calling g mk a) (Vm.Alike.refl U.vm) qK, EVS.blind g mk a qE⟩, gH_rc hK hT hr_o0 shm_0 rfl, fun U hU hW => ⟨rfl, hU, va_K.moved hW.alike hK, hE.call hS hFc hU hW⟩⟩ rfl rfl hl.1 rfl (lv_room (Nat.le_of_ble_eq_true rfl)) dX12_layer_108 ⟨(Nat.le_of_ble_eq_true rfl), (Nat.le_of_ble_eq_true rfl)⟩) hS (fun q _ h => hFc q h) hFc (fun r84 u t H locs ht hvm hw85 hB _ _ hS => ?_)
              obtain ⟨hT, hF1⟩ := hB
              rw [ht] at hT hF1
              have hF := hF.more hF1 (by decide)
              try dsimp only at hw85
              obtain ⟨h86, ⟨ix87, hix87, m88⟩⟩ := hw85
              exact W.iret (v := r84) hx hb hr (fun t ht hW => ⟨⟨r84, (), rfl, (by exact (by have q8 := ti_all r84; omega)), by (try dsimp only); rw [ht]; exact ⟨hT, hF⟩⟩, hS.F ht⟩) hS.2.2 dX12_layer_111
            · have t90 : r72.toInt = 1 := ti_eq c78 rfl (by decide)
              refine lv_iconst (v := (-1)) hx hb dX12_layer_96 (by decide) ?_
              exact W.iret (v := (-1)) hx hb hr (fun t ht hW => ⟨⟨(-1), (), rfl, (by exact (rg_t (a := (-1)) (by decide) (by first | decide | omega) (by first | decide | omega))), by (try dsimp only); rw [ht]; exact ⟨hT, hF⟩⟩, hS.F ht⟩) hS.2.2 dX12_layer_97
        · have t91 : r50.toInt = 0 := ti_eq c54 rfl (by decide)
          refine lv_iconst (v := 1) hx hb dX12_layer_61 (by decide) ?_
          refine lv_goto (tgt := 66) hx hb dX12_layer_62 (by decide) ?_
          refine lv_iconst (v := 3) hx hb dX12_layer_66 (by decide) ?_
          have hFc := gA_free hG hA hS
          refine va_calli (va_runV (As := [.int 1, .int 3]) (rest := []) ⟨hx, hb, hml, hown, hts⟩ (s_throwsIf l dC dI kA adK adV G H q wZ wN wH wB wC wL wK wU wV PI im PM PT lS lB lE lN o0 1 3 hT hr_o0 (rg_t (a := 1) (by decide) (by first | decide | omega) (by first | decide | omega)) hgz hgn hgh hgb hgc hgi hgu) (cwV 2 hts (goodIn_app (goodIn_r _ [12, 13, 14, 7] rfl (by decide +kernel)) (goodIn_ca (goodIn_r _ [11, 1] rfl (by decide +kernel)) (bs_in _ _))) rfl rfl rfl (by decide +kernel) ⟨(Nat.le_of_ble_eq_true rfl), (Nat.le_of_ble_eq_true rfl)⟩) ⟨fun a U g mk q => by obtain ⟨q0, q1, qK, qE⟩ := q; exact ⟨q0, q1, va_K.moved (u := U) (U := U.calling g mk a) (Vm.Alike.refl U.vm) qK, EVS.blind g mk a qE⟩, gH_rc hK hT hr_o0 shm_0 rfl, fun U hU hW => ⟨rfl, hU, va_K.moved hW.alike hK, hE.call hS hFc hU hW⟩⟩ rfl rfl hl.1 rfl (lv_room (Nat.le_of_ble_eq_true rfl)) dX12_layer_67 ⟨(Nat.le_of_ble_eq_true rfl), (Nat.le_of_ble_eq_true rfl)⟩) hS (fun q _ h => hFc q h) hFc (fun r92 u t H locs ht hvm hw93 hB _ _ hS => ?_)
          obtain ⟨hT, hF1⟩ := hB
          rw [ht] at hT hF1
          have hF := hF.more hF1 (by decide)
          try dsimp only at hw93
          obtain ⟨h94, hd95⟩ := hw93
          obtain rfl : (1 : Int32) = r92 := hd95.symm
          refine lv_if_eq (tgt := 75) hx hb dX12_layer_70 (by decide) (fun c96 => absurd c96 (by decide)) (fun c96 => ?_)
          refine lv_iconst (v := 0) hx hb dX12_layer_73 (by decide) ?_
          exact W.iret (v := 0) hx hb hr (fun t ht hW => ⟨⟨0, (), rfl, (by exact (rg_t (a := 0) (by decide) (by first | decide | omega) (by first | decide | omega))), by (try dsimp only); rw [ht]; exact ⟨hT, hF⟩⟩, hS.F ht⟩) hS.2.2 dX12_layer_74
      · have t97 : r35.toInt = 0 := ti_eq c40 rfl (by decide)
        have t98 : (9 : Int32).toInt = 9 := by decide
        have t99 : (0 : Int32).toInt = 0 := by decide
        have t100 : p2.toInt < (0 : Int32).toInt ∨ (9 : Int32).toInt < p2.toInt := hi39 c40
        refine lv_iconst (v := 1) hx hb dX12_layer_40 (by decide) ?_
        refine lv_goto (tgt := 45) hx hb dX12_layer_41 (by decide) ?_
        refine lv_iconst (v := 2) hx hb dX12_layer_45 (by decide) ?_
        have hFc := gA_free hG hA hS
        refine va_calli (va_runV (As := [.int 1, .int 2]) (rest := []) ⟨hx, hb, hml, hown, hts⟩ (s_throwsIf l dC dI kA adK adV G H q wZ wN wH wB wC wL wK wU wV PI im PM PT lS lB lE lN o0 1 2 hT hr_o0 (rg_t (a := 1) (by decide) (by first | decide | omega) (by first | decide | omega)) hgz hgn hgh hgb hgc hgi hgu) (cwV 2 hts (goodIn_app (goodIn_r _ [12, 13, 14, 7] rfl (by decide +kernel)) (goodIn_ca (goodIn_r _ [11, 1] rfl (by decide +kernel)) (bs_in _ _))) rfl rfl rfl (by decide +kernel) ⟨(Nat.le_of_ble_eq_true rfl), (Nat.le_of_ble_eq_true rfl)⟩) ⟨fun a U g mk q => by obtain ⟨q0, q1, qK, qE⟩ := q; exact ⟨q0, q1, va_K.moved (u := U) (U := U.calling g mk a) (Vm.Alike.refl U.vm) qK, EVS.blind g mk a qE⟩, gH_rc hK hT hr_o0 shm_0 rfl, fun U hU hW => ⟨rfl, hU, va_K.moved hW.alike hK, hE.call hS hFc hU hW⟩⟩ rfl rfl hl.1 rfl (lv_room (Nat.le_of_ble_eq_true rfl)) dX12_layer_46 ⟨(Nat.le_of_ble_eq_true rfl), (Nat.le_of_ble_eq_true rfl)⟩) hS (fun q _ h => hFc q h) hFc (fun r101 u t H locs ht hvm hw102 hB _ _ hS => ?_)
        obtain ⟨hT, hF1⟩ := hB
        rw [ht] at hT hF1
        have hF := hF.more hF1 (by decide)
        try dsimp only at hw102
        obtain ⟨h103, hd104⟩ := hw102
        obtain rfl : (1 : Int32) = r101 := hd104.symm
        refine lv_if_ne (tgt := 73) hx hb dX12_layer_49 (by decide) (fun c105 => ?_) (fun c105 => absurd c105 (by decide))
        refine lv_iconst (v := 0) hx hb dX12_layer_73 (by decide) ?_
        exact W.iret (v := 0) hx hb hr (fun t ht hW => ⟨⟨0, (), rfl, (by exact (rg_t (a := 0) (by decide) (by first | decide | omega) (by first | decide | omega))), by (try dsimp only); rw [ht]; exact ⟨hT, hF⟩⟩, hS.F ht⟩) hS.2.2 dX12_layer_74
def w_s_check : List Cond := .code yX12_check cX12_check 2 (some .int) :: (HAppend.hAppend (α := List Cond) (β := List Cond) (γ := List Cond) [.fieldLink RX12 194 "SeaLandModel" "thrown" "I", .fieldLink RX12 238 "SeaLandModel" "rows" "I", .fieldLink RX12 25 "SeaLandModel" "rowTold" "[I", .fieldLink RX12 28 "SeaLandModel" "rowTrue" "[I"] bs)
set_option maxHeartbeats 4000000 in
set_option maxRecDepth 100000 in
theorem s_check (l : Launch) (dC : Nat → ClassId) (dI : Nat → Nat → Nat) (kA : Nat → ClassId) (adK adV : Nat → Nat) (G : gT) (H0 : Heap) (q : Nat → Nat) (wZ wN : Nat → Int) (wH wB wC : Int) (wL wK : Nat → Prop) (wU wV : Nat → Nat) (PI : Nat → Int → Prop) (im : Int) (PM PT : Nat → Int → Prop) (lS lB lE : Nat → Nat → Int → Prop) (lN : Nat → Int) (o0 : Nat)  (hT : gH (dC, dI) kA (SHm q (wP wZ wN wH wB wC wL wK wU wV) PI im PM PT lS lB lE lN) G H0) (hr_o0 : G o0 = some 0) (hgz : ∀ i, 0 ≤ wZ i) (hgn : ∀ i, 6500000 ≤ wN i ∧ wN i ≤ 20200000) (hgh : 0 ≤ wH ∧ wH ≤ 40000) (hgb : 0 ≤ wB ∧ wB ≤ 3850000) (hgc : 0 ≤ wC ∧ wC ≤ 30) (hgi : 0 ≤ im ∧ im ≤ 1) (hgu : ∀ a t, G a = some (t + 1) → a = q t) : Met l yX12_check w_s_check ({ frames := 0, cells := 0, slots := 0, locals := 0 }) (va_Pc [.ref o0] (fun U => U.heap = H0 ∧ va_K (dC, dI) vwCl (tyl kA) U ∧ EVS adK adV (gA G H0.size) U U.heap)) (va_Qi (fun (r : Int32) (u : Unit) => (-1 ≤ r.toInt ∧ r.toInt ≤ 2303)) (fun (_ : Unit) (t : State) => gH (dC, dI) kA (SHm q (wP wZ wN wH wB wC wL wK wU wV) PI im PM PT lS lB lE lN) G t.heap ∧ gF (dC, dI) SKm G ([(0, 0)] : List (Nat × Nat)) H0 t.heap) (gA G H0.size)) 0 0 (gA G H0.size) := by
  refine Met.ofW (cc := cX12_check) (maxL := 2) (ret := (some .int)) (by decide) rfl ?_
  intro p e s m args below meth c s₁ B hml hv
  obtain ⟨rfl, hH0, hK, hE⟩ := hv
  have hx := B.exec
  have hb := B.bytes
  have hr := B.returns
  have hts := atoms_spec (ws := w_s_check) B.pre
  have hown : s.vm.findClass RX12 = some m.cls := findClass_of_methodNamed B.named
  have hlocks := B.notSynchronized
  subst hH0
  generalize hAe : gA G s.heap.size = A at hE ⊢
  have hA : ∀ q : Nat, s.heap.size ≤ q → A q := fun q h => by rw [← hAe]; exact Or.inr h
  have hG := gA_of hAe
  have hS : va_S A s.heap s.heap [] := va_S.rf
  have hF : gF (dC, dI) SKm G ([(0, 0)] : List (Nat × Nat)) s.heap s.heap := gF.rf
  have hl := lv_entry ([.ref o0]) (n := 2) (Nat.le_of_ble_eq_true rfl)
  rw [lg_entry_eq]
  generalize (lg_sl ([.ref o0]) ++ List.replicate (2 - (lg_sl ([.ref o0])).length) Slot.unset).toArray = ls at hl ⊢
  have hl : lv_has ls 2 [(0, .ref o0)] := hl
  refine lv_aload_n hx hb dX12_check_0 rfl (lv_at hl 0 rfl) ?_
  refine lv_iconst (v := 0) hx hb dX12_check_1 (by decide) ?_
  refine tw_put (v := .int 0) (ty := .int) hx hb hts bF_X12 tyX12 tyX12_ok nmX12 hown hK hT hG hS hr_o0 shm_0 rfl 0 (by decide) (ht_at hts 0 rfl) (fun _ h9 => h9) rfl (by decide +kernel) rfl rfl (gl_at rfl (gi_all _)) dX12_check_2 (fun H locs hT oq m1 oj hS => ?_)
  have hF := hF.put hr_o0 skm_0 oq oj (by decide)
  refine lv_iconst (v := 0) hx hb dX12_check_5 (by decide) ?_
  refine lv_istore_n (lv' := [(1, .int 0), (0, .ref o0)]) hx hb dX12_check_6 rfl hl (by decide) rfl (fun ls hl => ?_)
  have key22 : ∀ (n22 i2 : Nat), i2 + n22 = 2304 → 0 ≤ i2 → ∀ (H : Heap) (locs : List Loc), gH (dC, dI) kA (SHm q (wP wZ wN wH wB wC wL wK wU wV) PI im PM PT lS lB lE lN) G H → gF (dC, dI) SKm G ([(0, 0)] : List (Nat × Nat)) s.heap H → va_S A s.heap H locs → el H o0 (dI 15 0) = some (.int 0) → ∀ ls : Array Slot, lv_has ls 2 [(1, .int (nI i2)), (0, .ref o0)] → W p l e (headSpec w_s_check ({ frames := 0, cells := 0, slots := 0, locals := 0 })).room s m #[.ref o0] below meth c H locs 0 0 (MQ below (va_Qi (fun (r : Int32) (u : Unit) => (-1 ≤ r.toInt ∧ r.toInt ≤ 2303)) (fun (_ : Unit) (t : State) => gH (dC, dI) kA (SHm q (wP wZ wN wH wB wC wL wK wU wV) PI im PM PT lS lB lE lN) G t.heap ∧ gF (dC, dI) SKm G ([(0, 0)] : List (Nat × Nat)) s.heap t.heap) A) #[.ref o0] s 0 0 A) (F0 m 7 ls []) := by
    intro n22
    induction n22 with
    | zero =>
      intro i2 hn22 hlo23  H locs hT hF hS m3 ls hl
      obtain rfl : 2304 = i2 := by omega
      refine lv_iload_n hx hb dX12_check_7 rfl (lv_at hl 0 rfl) ?_
      refine lv_bipush (v := 96) hx hb dX12_check_8 (by decide) ?_
      refine lv_aload_n hx hb dX12_check_10 rfl (lv_at hl 1 rfl) ?_
      refine tw_get hx hb hts bF_X12 hown hK hT hr_o0 shm_0 rfl 9 (by decide) (ht_at hts 1 rfl) (fun _ h9 => h9) dX12_check_11 (fun v9 m24 h9 => ?_)
      obtain ⟨x25, rfl, gx25, kx25⟩ := h9 _ rfl
      refine lv_imul hx hb dX12_check_14 ?_
      refine lv_topi (fun x26 ex26 => ?_)
      have t27 : x26.toInt = 96 * x25.toInt := ti_mul ex26 (by decide) rfl (by omega) (by omega)
      refine lv_icmp_ge (tgt := 41) hx hb dX12_check_15 (by decide) (fun c28 => ?_) (fun c28 => (by exfalso; have q9 : ((2304 : Nat) : Int) < x26.toInt := ti_nle c28 rfl (nI_toInt (by omega)); omega))
      have t29 : x26.toInt ≤ ((2304 : Nat) : Int) := ti_le c28 rfl (nI_toInt (by omega))
      refine lv_iconst (v := (-1)) hx hb dX12_check_41 (by decide) ?_
      exact W.iret (v := (-1)) hx hb hr (fun t ht hW => ⟨⟨(-1), (), rfl, (by exact (rg_t (a := (-1)) (by decide) (by first | decide | omega) (by first | decide | omega))), by (try dsimp only); rw [ht]; exact ⟨hT, hF⟩⟩, hS.F ht⟩) hS.2.2 dX12_check_42
    | succ n22 ih22 =>
      intro i2 hn22 hlo23  H locs hT hF hS m3 ls hl
      have hlt29 : i2 < 2304 := by omega
      refine lv_iload_n hx hb dX12_check_7 rfl (lv_at hl 0 rfl) ?_
      refine lv_bipush (v := 96) hx hb dX12_check_8 (by decide) ?_
      refine lv_aload_n hx hb dX12_check_10 rfl (lv_at hl 1 rfl) ?_
      refine tw_get hx hb hts bF_X12 hown hK hT hr_o0 shm_0 rfl 9 (by decide) (ht_at hts 1 rfl) (fun _ h9 => h9) dX12_check_11 (fun v9 m30 h9 => ?_)
      obtain ⟨x31, rfl, gx31, kx31⟩ := h9 _ rfl
      refine lv_imul hx hb dX12_check_14 ?_
      refine lv_topi (fun x32 ex32 => ?_)
      have t33 : x32.toInt = 96 * x31.toInt := ti_mul ex32 (by decide) rfl (by omega) (by omega)
      refine lv_icmp_ge (tgt := 41) hx hb dX12_check_15 (by decide) (fun c34 => ?_) (fun c34 => ?_)
      · have t35 : x32.toInt ≤ ((i2 : Nat) : Int) := ti_le c34 rfl (nI_toInt (by omega))
        refine lv_iconst (v := (-1)) hx hb dX12_check_41 (by decide) ?_
        exact W.iret (v := (-1)) hx hb hr (fun t ht hW => ⟨⟨(-1), (), rfl, (by exact (rg_t (a := (-1)) (by decide) (by first | decide | omega) (by first | decide | omega))), by (try dsimp only); rw [ht]; exact ⟨hT, hF⟩⟩, hS.F ht⟩) hS.2.2 dX12_check_42
      · have t36 : ((i2 : Nat) : Int) < x32.toInt := ti_nle c34 rfl (nI_toInt (by omega))
        refine lv_aload_n hx hb dX12_check_18 rfl (lv_at hl 1 rfl) ?_
        refine tw_get hx hb hts bF_X12 hown hK hT hr_o0 shm_0 rfl 7 (by decide) (ht_at hts 2 rfl) (fun _ h9 => h9) dX12_check_19 (fun v9 m37 h9 => ?_)
        obtain ⟨rfl, hg38⟩ := h9 _ rfl
        refine lv_iload_n hx hb dX12_check_22 rfl (lv_at hl 0 rfl) ?_
        refine tw_iald (i := (nI i2)) hx hb hK hT hg38 shm_8 rfl (vp_in_nI (by omega) (by decide)) dX12_check_23 (fun v9 m39 h9 => ?_)
        obtain ⟨x40, rfl, gx40, kx40⟩ := h9
        refine lv_aload_n hx hb dX12_check_24 rfl (lv_at hl 1 rfl) ?_
        refine tw_get hx hb hts bF_X12 hown hK hT hr_o0 shm_0 rfl 8 (by decide) (ht_at hts 3 rfl) (fun _ h9 => h9) dX12_check_25 (fun v9 m41 h9 => ?_)
        obtain ⟨rfl, hg42⟩ := h9 _ rfl
        refine lv_iload_n hx hb dX12_check_28 rfl (lv_at hl 0 rfl) ?_
        refine tw_iald (i := (nI i2)) hx hb hK hT hg42 shm_9 rfl (vp_in_nI (by omega) (by decide)) dX12_check_29 (fun v9 m43 h9 => ?_)
        obtain ⟨x44, rfl, gx44, kx44⟩ := h9
        refine lv_icmp_eq (tgt := 35) hx hb dX12_check_30 (by decide) (fun c45 => ?_) (fun c45 => ?_)
        · have t46 : x40.toInt = x44.toInt := ti_eq c45 rfl rfl
          refine lv_iinc (v := nI (i2 + 1)) (lv' := [(1, .int (nI (i2 + 1))), (0, .ref o0)]) hx hb dX12_check_35 hl (k := 0) rfl (nI_add i2 1) (by decide) rfl (fun ls hl => ?_)
          refine lv_goto (tgt := 7) hx hb dX12_check_38 (by decide) ?_
          exact ih22 (i2 + 1) (by omega) (by omega) _ _ hT hF hS m3 ls (lv_sub hl [0, 1] rfl)
        · have t47 : x40.toInt ≠ x44.toInt := ti_ne c45 rfl rfl
          refine lv_iload_n hx hb dX12_check_33 rfl (lv_at hl 0 rfl) ?_
          exact W.iret (v := nI i2) hx hb hr (fun t ht hW => ⟨⟨nI i2, (), rfl, (by exact (rg_t (a := ((i2 : Nat) : Int)) (nI_toInt (by omega)) (by omega) (by omega))), by (try dsimp only); rw [ht]; exact ⟨hT, hF⟩⟩, hS.F ht⟩) hS.2.2 dX12_check_34
  exact key22 (2304 - 0) 0 (by omega) (Nat.le_refl _) _ _ hT hF hS m1 ls (lv_sub hl [0, 1] rfl)
def w_s_sow : List Cond := .code yX12_sow cX12_sow 4 (some .boolean) :: (HAppend.hAppend (α := List Cond) (β := List Cond) (γ := List Cond) [.fieldLink RX12 194 "SeaLandModel" "thrown" "I", .code yX12_noFarm cX12_noFarm 2 (some .boolean), .fieldLink RX12 498 "SeaLandModel" "farms" "I", .code yX12_in cX12_in 3 (some .boolean), .methodLink RX12 197 yX12_in, .static yX12_in, .initialized RX12, .methodLink RX12 502 yX12_noFarm, .instanceMethod yX12_noFarm, .selects RX12 yX12_noFarm yX12_noFarm, .code yX12_throwsIf cX12_throwsIf 3 (some .boolean), .methodLink RX12 224 yX12_throwsIf, .instanceMethod yX12_throwsIf, .selects RX12 yX12_throwsIf yX12_throwsIf, .fieldLink RX12 119 "SeaLandModel" "crop" "[I"] bs)
set_option maxHeartbeats 4000000 in
set_option maxRecDepth 100000 in
theorem s_sow (l : Launch) (dC : Nat → ClassId) (dI : Nat → Nat → Nat) (kA : Nat → ClassId) (adK adV : Nat → Nat) (G : gT) (H0 : Heap) (q : Nat → Nat) (wZ wN : Nat → Int) (wH wB wC : Int) (wL wK : Nat → Prop) (wU wV : Nat → Nat) (PI : Nat → Int → Prop) (im : Int) (PM PT : Nat → Int → Prop) (lS lB lE : Nat → Nat → Int → Prop) (lN : Nat → Int) (o0 : Nat) (p0 : Int32) (p1 : Int32)  (hT : gH (dC, dI) kA (SHm q (wP wZ wN wH wB wC wL wK wU wV) PI im PM PT lS lB lE lN) G H0) (hr_o0 : G o0 = some 0) (hgz : ∀ i, 0 ≤ wZ i) (hgn : ∀ i, 6500000 ≤ wN i ∧ wN i ≤ 20200000) (hgh : 0 ≤ wH ∧ wH ≤ 40000) (hgb : 0 ≤ wB ∧ wB ≤ 3850000) (hgc : 0 ≤ wC ∧ wC ≤ 30) (hgi : 0 ≤ im ∧ im ≤ 1) (hgu : ∀ a t, G a = some (t + 1) → a = q t) : Met l yX12_sow w_s_sow ({ frames := 2, cells := 0, slots := 0, locals := 43 }) (va_Pc [.ref o0, .int p0, .int p1] (fun U => U.heap = H0 ∧ va_K (dC, dI) vwCl (tyl kA) U ∧ EVS adK adV (gA G H0.size) U U.heap)) (va_Qi (fun (r : Int32) (u : Unit) => (0 ≤ r.toInt ∧ r.toInt ≤ 1)) (fun (_ : Unit) (t : State) => gH (dC, dI) kA (SHm q (wP wZ wN wH wB wC wL wK wU wV) PI im PM PT lS lB lE lN) G t.heap ∧ gF (dC, dI) SKm G ([(0, 0), (46, 0)] : List (Nat × Nat)) H0 t.heap) (gA G H0.size)) 0 0 (gA G H0.size) := by
  refine Met.ofW (cc := cX12_sow) (maxL := 4) (ret := (some .boolean)) (by decide) rfl ?_
  intro p e s m args below meth c s₁ B hml hv
  obtain ⟨rfl, hH0, hK, hE⟩ := hv
  have hx := B.exec
  have hb := B.bytes
  have hr := B.returns
  have hts := atoms_spec (ws := w_s_sow) B.pre
  have hown : s.vm.findClass RX12 = some m.cls := findClass_of_methodNamed B.named
  have hlocks := B.notSynchronized
  subst hH0
  generalize hAe : gA G s.heap.size = A at hE ⊢
  have hA : ∀ q : Nat, s.heap.size ≤ q → A q := fun q h => by rw [← hAe]; exact Or.inr h
  have hG := gA_of hAe
  have hS : va_S A s.heap s.heap [] := va_S.rf
  have hF : gF (dC, dI) SKm G ([(0, 0), (46, 0)] : List (Nat × Nat)) s.heap s.heap := gF.rf
  have hl := lv_entry ([.ref o0, .int p0, .int p1]) (n := 4) (Nat.le_of_ble_eq_true rfl)
  rw [lg_entry_eq]
  generalize (lg_sl ([.ref o0, .int p0, .int p1]) ++ List.replicate (4 - (lg_sl ([.ref o0, .int p0, .int p1])).length) Slot.unset).toArray = ls at hl ⊢
  have hl : lv_has ls 4 [(0, .ref o0), (1, .int p0), (2, .int p1)] := hl
  refine lv_aload_n hx hb dX12_sow_0 rfl (lv_at hl 0 rfl) ?_
  refine lv_iconst (v := 0) hx hb dX12_sow_1 (by decide) ?_
  refine tw_put (v := .int 0) (ty := .int) hx hb hts bF_X12 tyX12 tyX12_ok nmX12 hown hK hT hG hS hr_o0 shm_0 rfl 0 (by decide) (ht_at hts 0 rfl) (fun _ h9 => h9) rfl (by decide +kernel) rfl rfl (gl_at rfl (gi_all _)) dX12_sow_2 (fun H locs hT oq m1 oj hS => ?_)
  have hF := hF.put hr_o0 skm_0 oq oj (by decide)
  refine lv_aload_n hx hb dX12_sow_5 rfl (lv_at hl 0 rfl) ?_
  refine lv_aload_n hx hb dX12_sow_6 rfl (lv_at hl 0 rfl) ?_
  refine lv_iload_n hx hb dX12_sow_7 rfl (lv_at hl 1 rfl) ?_
  have hFc := gA_free hG hA hS
  refine va_calli (va_runV (As := [.int p0]) (rest := [.ref o0]) ⟨hx, hb, hml, hown, hts⟩ (s_noFarm l dC dI kA adK adV G H q wZ wN wH wB wC wL wK wU wV PI im PM PT lS lB lE lN o0 p0 hT hr_o0 hgz hgn hgh hgb hgc hgi hgu) (cwV 1 hts (goodIn_app (goodIn_r _ [8, 9, 10, 7] rfl (by decide +kernel)) (goodIn_ca (goodIn_r _ [2, 3, 4, 5, 6, 7] rfl (by decide +kernel)) (bs_in _ _))) rfl rfl rfl (by decide +kernel) ⟨(Nat.le_of_ble_eq_true rfl), (Nat.le_of_ble_eq_true rfl)⟩) ⟨fun a U g mk q => by obtain ⟨q0, q1, qK, qE⟩ := q; exact ⟨q0, q1, va_K.moved (u := U) (U := U.calling g mk a) (Vm.Alike.refl U.vm) qK, EVS.blind g mk a qE⟩, gH_rc hK hT hr_o0 shm_0 rfl, fun U hU hW => ⟨rfl, hU, va_K.moved hW.alike hK, hE.call hS hFc hU hW⟩⟩ rfl rfl hl.1 rfl (lv_room (Nat.le_of_ble_eq_true rfl)) dX12_sow_8 ⟨(Nat.le_of_ble_eq_true rfl), (Nat.le_of_ble_eq_true rfl)⟩) hS (fun q _ h => hFc q h) hFc (fun r2 u t H locs ht hvm hw3 hB _ _ hS => ?_)
  obtain ⟨hT, hF1⟩ := hB
  rw [ht] at hT hF1
  have hF := hF.more hF1 (by decide)
  try dsimp only at hw3
  obtain ⟨h5, hi6⟩ := hw3
  refine lv_iconst (v := 1) hx hb dX12_sow_11 (by decide) ?_
  have hFc := gA_free hG hA hS
  refine va_calli (va_runV (As := [.int r2, .int 1]) (rest := []) ⟨hx, hb, hml, hown, hts⟩ (s_throwsIf l dC dI kA adK adV G H q wZ wN wH wB wC wL wK wU wV PI im PM PT lS lB lE lN o0 r2 1 hT hr_o0 (by have q8 := ti_all r2; omega) hgz hgn hgh hgb hgc hgi hgu) (cwV 2 hts (goodIn_app (goodIn_r _ [12, 13, 14, 7] rfl (by decide +kernel)) (goodIn_ca (goodIn_r _ [11, 1] rfl (by decide +kernel)) (bs_in _ _))) rfl rfl rfl (by decide +kernel) ⟨(Nat.le_of_ble_eq_true rfl), (Nat.le_of_ble_eq_true rfl)⟩) ⟨fun a U g mk q => by obtain ⟨q0, q1, qK, qE⟩ := q; exact ⟨q0, q1, va_K.moved (u := U) (U := U.calling g mk a) (Vm.Alike.refl U.vm) qK, EVS.blind g mk a qE⟩, gH_rc hK hT hr_o0 shm_0 rfl, fun U hU hW => ⟨rfl, hU, va_K.moved hW.alike hK, hE.call hS hFc hU hW⟩⟩ rfl rfl hl.1 rfl (lv_room (Nat.le_of_ble_eq_true rfl)) dX12_sow_12 ⟨(Nat.le_of_ble_eq_true rfl), (Nat.le_of_ble_eq_true rfl)⟩) hS (fun q _ h => hFc q h) hFc (fun r7 u t H locs ht hvm hw8 hB _ _ hS => ?_)
  obtain ⟨hT, hF1⟩ := hB
  rw [ht] at hT hF1
  have hF := hF.more hF1 (by decide)
  try dsimp only at hw8
  obtain ⟨h10, hd11⟩ := hw8
  obtain rfl : r2 = r7 := hd11.symm
  refine lv_if_ne (tgt := 40) hx hb dX12_sow_15 (by decide) (fun c12 => ?_) (fun c12 => ?_)
  · have t13 : r2.toInt ≠ 0 := ti_ne c12 rfl (by decide)
    refine lv_iconst (v := 0) hx hb dX12_sow_40 (by decide) ?_
    exact W.zret (v := 0) hx hb hr (by decide) (fun t ht hW => ⟨⟨0, (), rfl, (by exact (rg_t (a := 0) (by decide) (by first | decide | omega) (by first | decide | omega))), by (try dsimp only); rw [ht]; exact ⟨hT, hF⟩⟩, hS.F ht⟩) hS.2.2 dX12_sow_41
  · have t14 : r2.toInt = 0 := ti_eq c12 rfl (by decide)
    have t15 : 0 ≤ p0.toInt ∧ p0.toInt ≤ 29 := hi6 c12
    refine lv_aload_n hx hb dX12_sow_18 rfl (lv_at hl 0 rfl) ?_
    refine lv_iload_n hx hb dX12_sow_19 rfl (lv_at hl 2 rfl) ?_
    refine lv_iconst (v := 0) hx hb dX12_sow_20 (by decide) ?_
    refine lv_iconst (v := 3) hx hb dX12_sow_21 (by decide) ?_
    have hFc := gA_free hG hA hS
    refine va_calli (va_runS (As := [.int p1, .int 0, .int 3]) (rest := [.ref o0]) ⟨hx, hb, hml, hown, hts⟩ (s_in l dC dI kA adK adV G H q wZ wN wH wB wC wL wK wU wV PI im PM PT lS lB lE lN p1 0 3 hT hgz hgn hgh hgb hgc hgi hgu) (va_cwS 3 hts (goodIn_app (goodIn_r _ [5, 6, 7] rfl (by decide +kernel)) (goodIn_ca (goodIn_r _ [4] rfl (by decide +kernel)) (bs_in _ _))) rfl rfl rfl (by decide +kernel) ⟨(Nat.le_of_ble_eq_true rfl), (Nat.le_of_ble_eq_true rfl)⟩) ⟨fun a U g mk q => by obtain ⟨q0, q1, qK, qE⟩ := q; exact ⟨q0, q1, va_K.moved (u := U) (U := U.calling g mk a) (Vm.Alike.refl U.vm) qK, EVS.blind g mk a qE⟩, fun U hU hW => ⟨rfl, hU, va_K.moved hW.alike hK, hE.call hS hFc hU hW⟩⟩ rfl rfl hl.1 rfl (lv_room (Nat.le_of_ble_eq_true rfl)) dX12_sow_22 ⟨(Nat.le_of_ble_eq_true rfl), (Nat.le_of_ble_eq_true rfl)⟩) hS (fun q _ h => hFc q h) hFc (fun r16 u t H locs ht hvm hw17 hB _ _ hS => ?_)
    obtain ⟨hT, hF1⟩ := hB
    rw [ht] at hT hF1
    have hF := hF.more hF1 (by decide)
    try dsimp only at hw17
    obtain ⟨h18, hi19, hi20⟩ := hw17
    refine lv_if_ne (tgt := 32) hx hb dX12_sow_25 (by decide) (fun c21 => ?_) (fun c21 => ?_)
    · have t22 : r16.toInt ≠ 0 := ti_ne c21 rfl (by decide)
      have t23 : (3 : Int32).toInt = 3 := by decide
      have t24 : (0 : Int32).toInt = 0 := by decide
      have t25 : (0 : Int32).toInt ≤ p1.toInt ∧ p1.toInt ≤ (3 : Int32).toInt := hi19 ((bit_of ⟨by omega, by omega⟩).resolve_left c21)
      refine lv_iconst (v := 0) hx hb dX12_sow_32 (by decide) ?_
      refine lv_iconst (v := 2) hx hb dX12_sow_33 (by decide) ?_
      have hFc := gA_free hG hA hS
      refine va_calli (va_runV (As := [.int 0, .int 2]) (rest := []) ⟨hx, hb, hml, hown, hts⟩ (s_throwsIf l dC dI kA adK adV G H q wZ wN wH wB wC wL wK wU wV PI im PM PT lS lB lE lN o0 0 2 hT hr_o0 (rg_t (a := 0) (by decide) (by first | decide | omega) (by first | decide | omega)) hgz hgn hgh hgb hgc hgi hgu) (cwV 2 hts (goodIn_app (goodIn_r _ [12, 13, 14, 7] rfl (by decide +kernel)) (goodIn_ca (goodIn_r _ [11, 1] rfl (by decide +kernel)) (bs_in _ _))) rfl rfl rfl (by decide +kernel) ⟨(Nat.le_of_ble_eq_true rfl), (Nat.le_of_ble_eq_true rfl)⟩) ⟨fun a U g mk q => by obtain ⟨q0, q1, qK, qE⟩ := q; exact ⟨q0, q1, va_K.moved (u := U) (U := U.calling g mk a) (Vm.Alike.refl U.vm) qK, EVS.blind g mk a qE⟩, gH_rc hK hT hr_o0 shm_0 rfl, fun U hU hW => ⟨rfl, hU, va_K.moved hW.alike hK, hE.call hS hFc hU hW⟩⟩ rfl rfl hl.1 rfl (lv_room (Nat.le_of_ble_eq_true rfl)) dX12_sow_34 ⟨(Nat.le_of_ble_eq_true rfl), (Nat.le_of_ble_eq_true rfl)⟩) hS (fun q _ h => hFc q h) hFc (fun r26 u t H locs ht hvm hw27 hB _ _ hS => ?_)
      obtain ⟨hT, hF1⟩ := hB
      rw [ht] at hT hF1
      have hF := hF.more hF1 (by decide)
      try dsimp only at hw27
      obtain ⟨h28, hd29⟩ := hw27
      obtain rfl : (0 : Int32) = r26 := hd29.symm
      refine lv_if_eq (tgt := 42) hx hb dX12_sow_37 (by decide) (fun c30 => ?_) (fun c30 => absurd c30 (by decide))
      refine lv_aload_n hx hb dX12_sow_42 rfl (lv_at hl 0 rfl) ?_
      refine tw_get hx hb hts bF_X12 hown hK hT hr_o0 shm_0 rfl 45 (by decide) (ht_at hts 14 rfl) (fun _ h9 => h9) dX12_sow_43 (fun v9 m31 h9 => ?_)
      obtain ⟨rfl, hg32⟩ := h9 _ rfl
      refine lv_iload_n hx hb dX12_sow_46 rfl (lv_at hl 1 rfl) ?_
      refine tw_iald (i := p0) hx hb hK hT hg32 shm_46 rfl (vin_t (a := p0.toInt) rfl (by omega) (by omega)) dX12_sow_47 (fun v9 m33 h9 => ?_)
      obtain ⟨x34, rfl, gx34, kx34⟩ := h9
      refine lv_iload_n hx hb dX12_sow_48 rfl (lv_at hl 2 rfl) ?_
      refine lv_icmp_eq (tgt := 56) hx hb dX12_sow_49 (by decide) (fun c35 => ?_) (fun c35 => ?_)
      · have t36 : x34.toInt = p1.toInt := ti_eq c35 rfl rfl
        refine lv_iconst (v := 0) hx hb dX12_sow_56 (by decide) ?_
        refine lv_istore_n (lv' := [(3, .int 0), (0, .ref o0), (1, .int p0), (2, .int p1)]) hx hb dX12_sow_57 rfl hl (by decide) rfl (fun ls hl => ?_)
        refine lv_aload_n hx hb dX12_sow_58 rfl (lv_at hl 1 rfl) ?_
        refine tw_get hx hb hts bF_X12 hown hK hT hr_o0 shm_0 rfl 45 (by decide) (ht_at hts 14 rfl) (fun _ h9 => h9) dX12_sow_59 (fun v9 m37 h9 => ?_)
        obtain ⟨rfl, hg38⟩ := h9 _ rfl
        refine lv_iload_n hx hb dX12_sow_62 rfl (lv_at hl 2 rfl) ?_
        refine lv_iload_n hx hb dX12_sow_63 rfl (lv_at hl 3 rfl) ?_
        refine tw_iast (i := p0) (x := p1) hx hb hK hT hG hS hg32 shm_46 rfl (vin_t (a := p0.toInt) rfl (by omega) (by omega)) (gi_all _) dX12_sow_64 (fun H locs hT oq m39 oi hS => ?_)
        have hF := hF.ast hg32 skm_46 oq (by decide)
        refine lv_iload_n hx hb dX12_sow_65 rfl (lv_at hl 0 rfl) ?_
        exact W.zret (v := 0) hx hb hr (by decide) (fun t ht hW => ⟨⟨0, (), rfl, (by exact (rg_t (a := 0) (by decide) (by first | decide | omega) (by first | decide | omega))), by (try dsimp only); rw [ht]; exact ⟨hT, hF⟩⟩, hS.F ht⟩) hS.2.2 dX12_sow_66
      · have t40 : x34.toInt ≠ p1.toInt := ti_ne c35 rfl rfl
        refine lv_iconst (v := 1) hx hb dX12_sow_52 (by decide) ?_
        refine lv_goto (tgt := 57) hx hb dX12_sow_53 (by decide) ?_
        refine lv_istore_n (lv' := [(3, .int 1), (0, .ref o0), (1, .int p0), (2, .int p1)]) hx hb dX12_sow_57 rfl hl (by decide) rfl (fun ls hl => ?_)
        refine lv_aload_n hx hb dX12_sow_58 rfl (lv_at hl 1 rfl) ?_
        refine tw_get hx hb hts bF_X12 hown hK hT hr_o0 shm_0 rfl 45 (by decide) (ht_at hts 14 rfl) (fun _ h9 => h9) dX12_sow_59 (fun v9 m41 h9 => ?_)
        obtain ⟨rfl, hg42⟩ := h9 _ rfl
        refine lv_iload_n hx hb dX12_sow_62 rfl (lv_at hl 2 rfl) ?_
        refine lv_iload_n hx hb dX12_sow_63 rfl (lv_at hl 3 rfl) ?_
        refine tw_iast (i := p0) (x := p1) hx hb hK hT hG hS hg32 shm_46 rfl (vin_t (a := p0.toInt) rfl (by omega) (by omega)) (gi_all _) dX12_sow_64 (fun H locs hT oq m43 oi hS => ?_)
        have hF := hF.ast hg32 skm_46 oq (by decide)
        refine lv_iload_n hx hb dX12_sow_65 rfl (lv_at hl 0 rfl) ?_
        exact W.zret (v := 1) hx hb hr (by decide) (fun t ht hW => ⟨⟨1, (), rfl, (by exact (rg_t (a := 1) (by decide) (by first | decide | omega) (by first | decide | omega))), by (try dsimp only); rw [ht]; exact ⟨hT, hF⟩⟩, hS.F ht⟩) hS.2.2 dX12_sow_66
    · have t44 : r16.toInt = 0 := ti_eq c21 rfl (by decide)
      have t45 : (3 : Int32).toInt = 3 := by decide
      have t46 : (0 : Int32).toInt = 0 := by decide
      have t47 : p1.toInt < (0 : Int32).toInt ∨ (3 : Int32).toInt < p1.toInt := hi20 c21
      refine lv_iconst (v := 1) hx hb dX12_sow_28 (by decide) ?_
      refine lv_goto (tgt := 33) hx hb dX12_sow_29 (by decide) ?_
      refine lv_iconst (v := 2) hx hb dX12_sow_33 (by decide) ?_
      have hFc := gA_free hG hA hS
      refine va_calli (va_runV (As := [.int 1, .int 2]) (rest := []) ⟨hx, hb, hml, hown, hts⟩ (s_throwsIf l dC dI kA adK adV G H q wZ wN wH wB wC wL wK wU wV PI im PM PT lS lB lE lN o0 1 2 hT hr_o0 (rg_t (a := 1) (by decide) (by first | decide | omega) (by first | decide | omega)) hgz hgn hgh hgb hgc hgi hgu) (cwV 2 hts (goodIn_app (goodIn_r _ [12, 13, 14, 7] rfl (by decide +kernel)) (goodIn_ca (goodIn_r _ [11, 1] rfl (by decide +kernel)) (bs_in _ _))) rfl rfl rfl (by decide +kernel) ⟨(Nat.le_of_ble_eq_true rfl), (Nat.le_of_ble_eq_true rfl)⟩) ⟨fun a U g mk q => by obtain ⟨q0, q1, qK, qE⟩ := q; exact ⟨q0, q1, va_K.moved (u := U) (U := U.calling g mk a) (Vm.Alike.refl U.vm) qK, EVS.blind g mk a qE⟩, gH_rc hK hT hr_o0 shm_0 rfl, fun U hU hW => ⟨rfl, hU, va_K.moved hW.alike hK, hE.call hS hFc hU hW⟩⟩ rfl rfl hl.1 rfl (lv_room (Nat.le_of_ble_eq_true rfl)) dX12_sow_34 ⟨(Nat.le_of_ble_eq_true rfl), (Nat.le_of_ble_eq_true rfl)⟩) hS (fun q _ h => hFc q h) hFc (fun r48 u t H locs ht hvm hw49 hB _ _ hS => ?_)
      obtain ⟨hT, hF1⟩ := hB
      rw [ht] at hT hF1
      have hF := hF.more hF1 (by decide)
      try dsimp only at hw49
      obtain ⟨h50, hd51⟩ := hw49
      obtain rfl : (1 : Int32) = r48 := hd51.symm
      refine lv_if_eq (tgt := 42) hx hb dX12_sow_37 (by decide) (fun c52 => absurd c52 (by decide)) (fun c52 => ?_)
      refine lv_iconst (v := 0) hx hb dX12_sow_40 (by decide) ?_
      exact W.zret (v := 0) hx hb hr (by decide) (fun t ht hW => ⟨⟨0, (), rfl, (by exact (rg_t (a := 0) (by decide) (by first | decide | omega) (by first | decide | omega))), by (try dsimp only); rw [ht]; exact ⟨hT, hF⟩⟩, hS.F ht⟩) hS.2.2 dX12_sow_41
def w_s_yards : List Cond := .code yX12_yards cX12_yards 3 (some .int) :: (HAppend.hAppend (α := List Cond) (β := List Cond) (γ := List Cond) [.fieldLink RX12 194 "SeaLandModel" "thrown" "I", .code yX12_noContract cX12_noContract 2 (some .boolean), .fieldLink RX12 533 "SeaLandModel" "contracts" "I", .code yX12_in cX12_in 3 (some .boolean), .methodLink RX12 197 yX12_in, .static yX12_in, .initialized RX12, .methodLink RX12 539 yX12_noContract, .instanceMethod yX12_noContract, .selects RX12 yX12_noContract yX12_noContract, .code yX12_throwsIf cX12_throwsIf 3 (some .boolean), .methodLink RX12 224 yX12_throwsIf, .instanceMethod yX12_throwsIf, .selects RX12 yX12_throwsIf yX12_throwsIf, .code yX12_hasSpan cX12_hasSpan 2 (some .boolean), .fieldLink RX12 155 "SeaLandModel" "isMeasured" "[Z", .fieldLink RX12 149 "SeaLandModel" "kLow" "[I", .fieldLink RX12 152 "SeaLandModel" "kHigh" "[I", .methodLink RX12 542 yX12_hasSpan, .instanceMethod yX12_hasSpan, .selects RX12 yX12_hasSpan yX12_hasSpan] bs)
set_option maxHeartbeats 4000000 in
set_option maxRecDepth 100000 in
theorem s_yards (l : Launch) (dC : Nat → ClassId) (dI : Nat → Nat → Nat) (kA : Nat → ClassId) (adK adV : Nat → Nat) (G : gT) (H0 : Heap) (q : Nat → Nat) (wZ wN : Nat → Int) (wH wB wC : Int) (wL wK : Nat → Prop) (wU wV : Nat → Nat) (PI : Nat → Int → Prop) (im : Int) (PM PT : Nat → Int → Prop) (lS lB lE : Nat → Nat → Int → Prop) (lN : Nat → Int) (o0 : Nat) (p0 : Int32) (p1 : Int32)  (hT : gH (dC, dI) kA (SHm q (wP wZ wN wH wB wC wL wK wU wV) PI im PM PT lS lB lE lN) G H0) (hr_o0 : G o0 = some 0) (hq0 : 0 ≤ p1.toInt ∧ p1.toInt ≤ 1) (hgz : ∀ i, 0 ≤ wZ i) (hgn : ∀ i, 6500000 ≤ wN i ∧ wN i ≤ 20200000) (hgh : 0 ≤ wH ∧ wH ≤ 40000) (hgb : 0 ≤ wB ∧ wB ≤ 3850000) (hgc : 0 ≤ wC ∧ wC ≤ 30) (hgi : 0 ≤ im ∧ im ≤ 1) (hgu : ∀ a t, G a = some (t + 1) → a = q t) : Met l yX12_yards w_s_yards ({ frames := 2, cells := 0, slots := 0, locals := 43 }) (va_Pc [.ref o0, .int p0, .int p1] (fun U => U.heap = H0 ∧ va_K (dC, dI) vwCl (tyl kA) U ∧ EVS adK adV (gA G H0.size) U U.heap)) (va_Qi (fun (r : Int32) (u : Unit) => True) (fun (_ : Unit) (t : State) => gH (dC, dI) kA (SHm q (wP wZ wN wH wB wC wL wK wU wV) PI im PM PT lS lB lE lN) G t.heap ∧ gF (dC, dI) SKm G ([(0, 0)] : List (Nat × Nat)) H0 t.heap) (gA G H0.size)) 0 0 (gA G H0.size) := by
  refine Met.ofW (cc := cX12_yards) (maxL := 3) (ret := (some .int)) (by decide) rfl ?_
  intro p e s m args below meth c s₁ B hml hv
  obtain ⟨rfl, hH0, hK, hE⟩ := hv
  have hx := B.exec
  have hb := B.bytes
  have hr := B.returns
  have hts := atoms_spec (ws := w_s_yards) B.pre
  have hown : s.vm.findClass RX12 = some m.cls := findClass_of_methodNamed B.named
  have hlocks := B.notSynchronized
  subst hH0
  generalize hAe : gA G s.heap.size = A at hE ⊢
  have hA : ∀ q : Nat, s.heap.size ≤ q → A q := fun q h => by rw [← hAe]; exact Or.inr h
  have hG := gA_of hAe
  have hS : va_S A s.heap s.heap [] := va_S.rf
  have hF : gF (dC, dI) SKm G ([(0, 0)] : List (Nat × Nat)) s.heap s.heap := gF.rf
  have hl := lv_entry ([.ref o0, .int p0, .int p1]) (n := 3) (Nat.le_of_ble_eq_true rfl)
  rw [lg_entry_eq]
  generalize (lg_sl ([.ref o0, .int p0, .int p1]) ++ List.replicate (3 - (lg_sl ([.ref o0, .int p0, .int p1])).length) Slot.unset).toArray = ls at hl ⊢
  have hl : lv_has ls 3 [(0, .ref o0), (1, .int p0), (2, .int p1)] := hl
  refine lv_aload_n hx hb dX12_yards_0 rfl (lv_at hl 0 rfl) ?_
  refine lv_iconst (v := 0) hx hb dX12_yards_1 (by decide) ?_
  refine tw_put (v := .int 0) (ty := .int) hx hb hts bF_X12 tyX12 tyX12_ok nmX12 hown hK hT hG hS hr_o0 shm_0 rfl 0 (by decide) (ht_at hts 0 rfl) (fun _ h9 => h9) rfl (by decide +kernel) rfl rfl (gl_at rfl (gi_all _)) dX12_yards_2 (fun H locs hT oq m1 oj hS => ?_)
  have hF := hF.put hr_o0 skm_0 oq oj (by decide)
  refine lv_aload_n hx hb dX12_yards_5 rfl (lv_at hl 0 rfl) ?_
  refine lv_aload_n hx hb dX12_yards_6 rfl (lv_at hl 0 rfl) ?_
  refine lv_iload_n hx hb dX12_yards_7 rfl (lv_at hl 1 rfl) ?_
  have hFc := gA_free hG hA hS
  refine va_calli (va_runV (As := [.int p0]) (rest := [.ref o0]) ⟨hx, hb, hml, hown, hts⟩ (s_noContract l dC dI kA adK adV G H q wZ wN wH wB wC wL wK wU wV PI im PM PT lS lB lE lN o0 p0 hT hr_o0 hgz hgn hgh hgb hgc hgi hgu) (cwV 1 hts (goodIn_app (goodIn_r _ [8, 9, 10, 7] rfl (by decide +kernel)) (goodIn_ca (goodIn_r _ [2, 3, 4, 5, 6, 7] rfl (by decide +kernel)) (bs_in _ _))) rfl rfl rfl (by decide +kernel) ⟨(Nat.le_of_ble_eq_true rfl), (Nat.le_of_ble_eq_true rfl)⟩) ⟨fun a U g mk q => by obtain ⟨q0, q1, qK, qE⟩ := q; exact ⟨q0, q1, va_K.moved (u := U) (U := U.calling g mk a) (Vm.Alike.refl U.vm) qK, EVS.blind g mk a qE⟩, gH_rc hK hT hr_o0 shm_0 rfl, fun U hU hW => ⟨rfl, hU, va_K.moved hW.alike hK, hE.call hS hFc hU hW⟩⟩ rfl rfl hl.1 rfl (lv_room (Nat.le_of_ble_eq_true rfl)) dX12_yards_8 ⟨(Nat.le_of_ble_eq_true rfl), (Nat.le_of_ble_eq_true rfl)⟩) hS (fun q _ h => hFc q h) hFc (fun r2 u t H locs ht hvm hw3 hB _ _ hS => ?_)
  obtain ⟨hT, hF1⟩ := hB
  rw [ht] at hT hF1
  have hF := hF.more hF1 (by decide)
  try dsimp only at hw3
  obtain ⟨h5, hi6⟩ := hw3
  refine lv_iconst (v := 1) hx hb dX12_yards_11 (by decide) ?_
  have hFc := gA_free hG hA hS
  refine va_calli (va_runV (As := [.int r2, .int 1]) (rest := []) ⟨hx, hb, hml, hown, hts⟩ (s_throwsIf l dC dI kA adK adV G H q wZ wN wH wB wC wL wK wU wV PI im PM PT lS lB lE lN o0 r2 1 hT hr_o0 (by have q8 := ti_all r2; omega) hgz hgn hgh hgb hgc hgi hgu) (cwV 2 hts (goodIn_app (goodIn_r _ [12, 13, 14, 7] rfl (by decide +kernel)) (goodIn_ca (goodIn_r _ [11, 1] rfl (by decide +kernel)) (bs_in _ _))) rfl rfl rfl (by decide +kernel) ⟨(Nat.le_of_ble_eq_true rfl), (Nat.le_of_ble_eq_true rfl)⟩) ⟨fun a U g mk q => by obtain ⟨q0, q1, qK, qE⟩ := q; exact ⟨q0, q1, va_K.moved (u := U) (U := U.calling g mk a) (Vm.Alike.refl U.vm) qK, EVS.blind g mk a qE⟩, gH_rc hK hT hr_o0 shm_0 rfl, fun U hU hW => ⟨rfl, hU, va_K.moved hW.alike hK, hE.call hS hFc hU hW⟩⟩ rfl rfl hl.1 rfl (lv_room (Nat.le_of_ble_eq_true rfl)) dX12_yards_12 ⟨(Nat.le_of_ble_eq_true rfl), (Nat.le_of_ble_eq_true rfl)⟩) hS (fun q _ h => hFc q h) hFc (fun r7 u t H locs ht hvm hw8 hB _ _ hS => ?_)
  obtain ⟨hT, hF1⟩ := hB
  rw [ht] at hT hF1
  have hF := hF.more hF1 (by decide)
  try dsimp only at hw8
  obtain ⟨h10, hd11⟩ := hw8
  obtain rfl : r2 = r7 := hd11.symm
  refine lv_if_eq (tgt := 20) hx hb dX12_yards_15 (by decide) (fun c12 => ?_) (fun c12 => ?_)
  · have t13 : r2.toInt = 0 := ti_eq c12 rfl (by decide)
    have t14 : 0 ≤ p0.toInt ∧ p0.toInt ≤ 39 := hi6 c12
    refine lv_aload_n hx hb dX12_yards_20 rfl (lv_at hl 0 rfl) ?_
    refine lv_iload_n hx hb dX12_yards_21 rfl (lv_at hl 1 rfl) ?_
    have hFc := gA_free hG hA hS
    refine va_calli (va_runV (As := [.int p0]) (rest := []) ⟨hx, hb, hml, hown, hts⟩ (s_hasSpan l dC dI kA adK adV G H q wZ wN wH wB wC wL wK wU wV PI im PM PT lS lB lE lN o0 p0 hT hr_o0 (by have q8 := ti_all p0; omega) hgz hgn hgh hgb hgc hgi hgu) (cwV 1 hts (goodIn_app (goodIn_r _ [19, 20, 21, 7] rfl (by decide +kernel)) (goodIn_ca (goodIn_r _ [15, 16, 17, 18] rfl (by decide +kernel)) (bs_in _ _))) rfl rfl rfl (by decide +kernel) ⟨(Nat.le_of_ble_eq_true rfl), (Nat.le_of_ble_eq_true rfl)⟩) ⟨fun a U g mk q => by obtain ⟨q0, q1, qK, qE⟩ := q; exact ⟨q0, q1, va_K.moved (u := U) (U := U.calling g mk a) (Vm.Alike.refl U.vm) qK, EVS.blind g mk a qE⟩, gH_rc hK hT hr_o0 shm_0 rfl, fun U hU hW => ⟨rfl, hU, va_K.moved hW.alike hK, hE.call hS hFc hU hW⟩⟩ rfl rfl hl.1 rfl (lv_room (Nat.le_of_ble_eq_true rfl)) dX12_yards_22 ⟨(Nat.le_of_ble_eq_true rfl), (Nat.le_of_ble_eq_true rfl)⟩) hS (fun q _ h => hFc q h) hFc (fun r15 u t H locs ht hvm hw16 hB _ _ hS => ?_)
    obtain ⟨hT, hF1⟩ := hB
    rw [ht] at hT hF1
    have hF := hF.more hF1 (by decide)
    try dsimp only at hw16
    have h17 := hw16
    refine lv_if_ne (tgt := 32) hx hb dX12_yards_25 (by decide) (fun c18 => ?_) (fun c18 => ?_)
    · have t19 : r15.toInt ≠ 0 := ti_ne c18 rfl (by decide)
      refine lv_iload_n hx hb dX12_yards_32 rfl (lv_at hl 2 rfl) ?_
      refine lv_if_eq (tgt := 45) hx hb dX12_yards_33 (by decide) (fun c20 => ?_) (fun c20 => ?_)
      · have t21 : p1.toInt = 0 := ti_eq c20 rfl (by decide)
        refine lv_aload_n hx hb dX12_yards_45 rfl (lv_at hl 0 rfl) ?_
        refine tw_get hx hb hts bF_X12 hown hK hT hr_o0 shm_0 rfl 60 (by decide) (ht_at hts 16 rfl) (fun _ h9 => h9) dX12_yards_46 (fun v9 m22 h9 => ?_)
        obtain ⟨rfl, hg23⟩ := h9 _ rfl
        refine lv_iload_n hx hb dX12_yards_49 rfl (lv_at hl 1 rfl) ?_
        refine tw_iald (i := p0) hx hb hK hT hg23 shm_61 rfl (vin_t (a := p0.toInt) rfl (by omega) (by omega)) dX12_yards_50 (fun v9 m24 h9 => ?_)
        obtain ⟨x25, rfl, gx25, kx25⟩ := h9
        exact W.iret (v := x25) hx hb hr (fun t ht hW => ⟨⟨x25, (), rfl, (by exact trivial), by (try dsimp only); rw [ht]; exact ⟨hT, hF⟩⟩, hS.F ht⟩) hS.2.2 dX12_yards_51
      · have t26 : p1.toInt ≠ 0 := ti_ne c20 rfl (by decide)
        refine lv_aload_n hx hb dX12_yards_36 rfl (lv_at hl 0 rfl) ?_
        refine tw_get hx hb hts bF_X12 hown hK hT hr_o0 shm_0 rfl 61 (by decide) (ht_at hts 17 rfl) (fun _ h9 => h9) dX12_yards_37 (fun v9 m27 h9 => ?_)
        obtain ⟨rfl, hg28⟩ := h9 _ rfl
        refine lv_iload_n hx hb dX12_yards_40 rfl (lv_at hl 1 rfl) ?_
        refine tw_iald (i := p0) hx hb hK hT hg28 shm_62 rfl (vin_t (a := p0.toInt) rfl (by omega) (by omega)) dX12_yards_41 (fun v9 m29 h9 => ?_)
        obtain ⟨x30, rfl, gx30, kx30⟩ := h9
        refine lv_goto (tgt := 51) hx hb dX12_yards_42 (by decide) ?_
        exact W.iret (v := x30) hx hb hr (fun t ht hW => ⟨⟨x30, (), rfl, (by exact trivial), by (try dsimp only); rw [ht]; exact ⟨hT, hF⟩⟩, hS.F ht⟩) hS.2.2 dX12_yards_51
    · have t31 : r15.toInt = 0 := ti_eq c18 rfl (by decide)
      refine lv_iconst (v := (-1)) hx hb dX12_yards_28 (by decide) ?_
      refine lv_goto (tgt := 51) hx hb dX12_yards_29 (by decide) ?_
      exact W.iret (v := (-1)) hx hb hr (fun t ht hW => ⟨⟨(-1), (), rfl, (by exact trivial), by (try dsimp only); rw [ht]; exact ⟨hT, hF⟩⟩, hS.F ht⟩) hS.2.2 dX12_yards_51
  · have t32 : r2.toInt ≠ 0 := ti_ne c12 rfl (by decide)
    refine lv_iconst (v := 0) hx hb dX12_yards_18 (by decide) ?_
    exact W.iret (v := 0) hx hb hr (fun t ht hW => ⟨⟨0, (), rfl, (by exact trivial), by (try dsimp only); rw [ht]; exact ⟨hT, hF⟩⟩, hS.F ht⟩) hS.2.2 dX12_yards_19
def w_s_soonest : List Cond := .code yX12_soonest cX12_soonest 9 (some .int) :: (HAppend.hAppend (α := List Cond) (β := List Cond) (γ := List Cond) [.fieldLink RX12 194 "SeaLandModel" "thrown" "I", .code yX12_noWork cX12_noWork 2 (some .boolean), .fieldLink RX12 9 "SeaLandModel" "world" "[I", .code yX12_in cX12_in 3 (some .boolean), .methodLink RX12 197 yX12_in, .static yX12_in, .initialized RX12, .methodLink RX12 269 yX12_noWork, .instanceMethod yX12_noWork, .selects RX12 yX12_noWork yX12_noWork, .code yX12_throwsIf cX12_throwsIf 3 (some .boolean), .methodLink RX12 224 yX12_throwsIf, .instanceMethod yX12_throwsIf, .selects RX12 yX12_throwsIf yX12_throwsIf, .code yX12_of cX12_of 3 (some .int), .code yX12_at cX12_at 2 (some .int), .methodLink RX12 214 yX12_at, .static yX12_at, .methodLink RX12 217 yX12_of, .instanceMethod yX12_of, .selects RX12 yX12_of yX12_of, .constant RX12 538 1000000000, .methodLink RX12 207 Lib.Math.min.name, .static Lib.Math.min.name, .initialized "java/lang/Math", .code Lib.Math.min.name Lib.Math.min.code 2 (some .int), .code yX12_hour cX12_hour 1 (some .int), .methodLink RX12 228 yX12_hour, .instanceMethod yX12_hour, .selects RX12 yX12_hour yX12_hour, .code yX12_outside cX12_outside 4 (some .int), .methodLink RX12 247 yX12_outside, .instanceMethod yX12_outside, .selects RX12 yX12_outside yX12_outside] bs)
set_option maxHeartbeats 4000000 in
set_option maxRecDepth 100000 in
theorem s_soonest (l : Launch) (dC : Nat → ClassId) (dI : Nat → Nat → Nat) (kA : Nat → ClassId) (adK adV : Nat → Nat) (G : gT) (H0 : Heap) (q : Nat → Nat) (wZ wN : Nat → Int) (wH wB wC : Int) (wL wK : Nat → Prop) (wU wV : Nat → Nat) (PI : Nat → Int → Prop) (im : Int) (PM PT : Nat → Int → Prop) (lS lB lE : Nat → Nat → Int → Prop) (lN : Nat → Int) (o0 : Nat) (p0 : Int32) (p1 : Int32) (p2 : Int32)  (hT : gH (dC, dI) kA (SHm q (wP wZ wN wH wB wC wL wK wU wV) PI im PM PT lS lB lE lN) G H0) (hr_o0 : G o0 = some 0) (hgz : ∀ i, 0 ≤ wZ i) (hgn : ∀ i, 6500000 ≤ wN i ∧ wN i ≤ 20200000) (hgh : 0 ≤ wH ∧ wH ≤ 40000) (hgb : 0 ≤ wB ∧ wB ≤ 3850000) (hgc : 0 ≤ wC ∧ wC ≤ 30) (hgi : 0 ≤ im ∧ im ≤ 1) (hgu : ∀ a t, G a = some (t + 1) → a = q t) : Met l yX12_soonest w_s_soonest ({ frames := 2, cells := 0, slots := 0, locals := 45 }) (va_Pc [.ref o0, .int p0, .int p1, .int p2] (fun U => U.heap = H0 ∧ va_K (dC, dI) vwCl (tyl kA) U ∧ EVS adK adV (gA G H0.size) U U.heap)) (va_Qi (fun (r : Int32) (u : Unit) => (-1 ≤ r.toInt ∧ r.toInt ≤ 999999999)) (fun (_ : Unit) (t : State) => gH (dC, dI) kA (SHm q (wP wZ wN wH wB wC wL wK wU wV) PI im PM PT lS lB lE lN) G t.heap ∧ gF (dC, dI) SKm G ([(0, 0)] : List (Nat × Nat)) H0 t.heap) (gA G H0.size)) 0 0 (gA G H0.size) := by
  refine Met.ofW (cc := cX12_soonest) (maxL := 9) (ret := (some .int)) (by decide) rfl ?_
  intro p e s m args below meth c s₁ B hml hv
  obtain ⟨rfl, hH0, hK, hE⟩ := hv
  have hx := B.exec
  have hb := B.bytes
  have hr := B.returns
  have hts := atoms_spec (ws := w_s_soonest) B.pre
  have hown : s.vm.findClass RX12 = some m.cls := findClass_of_methodNamed B.named
  have hlocks := B.notSynchronized
  subst hH0
  generalize hAe : gA G s.heap.size = A at hE ⊢
  have hA : ∀ q : Nat, s.heap.size ≤ q → A q := fun q h => by rw [← hAe]; exact Or.inr h
  have hG := gA_of hAe
  have hS : va_S A s.heap s.heap [] := va_S.rf
  have hF : gF (dC, dI) SKm G ([(0, 0)] : List (Nat × Nat)) s.heap s.heap := gF.rf
  have hl := lv_entry ([.ref o0, .int p0, .int p1, .int p2]) (n := 9) (Nat.le_of_ble_eq_true rfl)
  rw [lg_entry_eq]
  generalize (lg_sl ([.ref o0, .int p0, .int p1, .int p2]) ++ List.replicate (9 - (lg_sl ([.ref o0, .int p0, .int p1, .int p2])).length) Slot.unset).toArray = ls at hl ⊢
  have hl : lv_has ls 9 [(0, .ref o0), (1, .int p0), (2, .int p1), (3, .int p2)] := hl
  refine lv_aload_n hx hb dX12_soonest_0 rfl (lv_at hl 0 rfl) ?_
  refine lv_iconst (v := 0) hx hb dX12_soonest_1 (by decide) ?_
  refine tw_put (v := .int 0) (ty := .int) hx hb hts bF_X12 tyX12 tyX12_ok nmX12 hown hK hT hG hS hr_o0 shm_0 rfl 0 (by decide) (ht_at hts 0 rfl) (fun _ h9 => h9) rfl (by decide +kernel) rfl rfl (gl_at rfl (gi_all _)) dX12_soonest_2 (fun H locs hT oq m1 oj hS => ?_)
  have hF := hF.put hr_o0 skm_0 oq oj (by decide)
  refine lv_aload_n hx hb dX12_soonest_5 rfl (lv_at hl 0 rfl) ?_
  refine lv_aload_n hx hb dX12_soonest_6 rfl (lv_at hl 0 rfl) ?_
  refine lv_iload_n hx hb dX12_soonest_7 rfl (lv_at hl 1 rfl) ?_
  have hFc := gA_free hG hA hS
  refine va_calli (va_runV (As := [.int p0]) (rest := [.ref o0]) ⟨hx, hb, hml, hown, hts⟩ (s_noWork l dC dI kA adK adV G H q wZ wN wH wB wC wL wK wU wV PI im PM PT lS lB lE lN o0 p0 hT hr_o0 hgz hgn hgh hgb hgc hgi hgu) (cwV 1 hts (goodIn_app (goodIn_r _ [8, 9, 10, 7] rfl (by decide +kernel)) (goodIn_ca (goodIn_r _ [2, 3, 4, 5, 6, 7] rfl (by decide +kernel)) (bs_in _ _))) rfl rfl rfl (by decide +kernel) ⟨(Nat.le_of_ble_eq_true rfl), (Nat.le_of_ble_eq_true rfl)⟩) ⟨fun a U g mk q => by obtain ⟨q0, q1, qK, qE⟩ := q; exact ⟨q0, q1, va_K.moved (u := U) (U := U.calling g mk a) (Vm.Alike.refl U.vm) qK, EVS.blind g mk a qE⟩, gH_rc hK hT hr_o0 shm_0 rfl, fun U hU hW => ⟨rfl, hU, va_K.moved hW.alike hK, hE.call hS hFc hU hW⟩⟩ rfl rfl hl.1 rfl (lv_room (Nat.le_of_ble_eq_true rfl)) dX12_soonest_8 ⟨(Nat.le_of_ble_eq_true rfl), (Nat.le_of_ble_eq_true rfl)⟩) hS (fun q _ h => hFc q h) hFc (fun r2 u t H locs ht hvm hw3 hB _ _ hS => ?_)
  obtain ⟨hT, hF1⟩ := hB
  rw [ht] at hT hF1
  have hF := hF.more hF1 (by decide)
  try dsimp only at hw3
  obtain ⟨h5, hi6⟩ := hw3
  refine lv_iconst (v := 1) hx hb dX12_soonest_11 (by decide) ?_
  have hFc := gA_free hG hA hS
  refine va_calli (va_runV (As := [.int r2, .int 1]) (rest := []) ⟨hx, hb, hml, hown, hts⟩ (s_throwsIf l dC dI kA adK adV G H q wZ wN wH wB wC wL wK wU wV PI im PM PT lS lB lE lN o0 r2 1 hT hr_o0 (by have q8 := ti_all r2; omega) hgz hgn hgh hgb hgc hgi hgu) (cwV 2 hts (goodIn_app (goodIn_r _ [12, 13, 14, 7] rfl (by decide +kernel)) (goodIn_ca (goodIn_r _ [11, 1] rfl (by decide +kernel)) (bs_in _ _))) rfl rfl rfl (by decide +kernel) ⟨(Nat.le_of_ble_eq_true rfl), (Nat.le_of_ble_eq_true rfl)⟩) ⟨fun a U g mk q => by obtain ⟨q0, q1, qK, qE⟩ := q; exact ⟨q0, q1, va_K.moved (u := U) (U := U.calling g mk a) (Vm.Alike.refl U.vm) qK, EVS.blind g mk a qE⟩, gH_rc hK hT hr_o0 shm_0 rfl, fun U hU hW => ⟨rfl, hU, va_K.moved hW.alike hK, hE.call hS hFc hU hW⟩⟩ rfl rfl hl.1 rfl (lv_room (Nat.le_of_ble_eq_true rfl)) dX12_soonest_12 ⟨(Nat.le_of_ble_eq_true rfl), (Nat.le_of_ble_eq_true rfl)⟩) hS (fun q _ h => hFc q h) hFc (fun r7 u t H locs ht hvm hw8 hB _ _ hS => ?_)
  obtain ⟨hT, hF1⟩ := hB
  rw [ht] at hT hF1
  have hF := hF.more hF1 (by decide)
  try dsimp only at hw8
  obtain ⟨h10, hd11⟩ := hw8
  obtain rfl : r2 = r7 := hd11.symm
  refine lv_if_ne (tgt := 77) hx hb dX12_soonest_15 (by decide) (fun c12 => ?_) (fun c12 => ?_)
  · have t13 : r2.toInt ≠ 0 := ti_ne c12 rfl (by decide)
    refine lv_iconst (v := 0) hx hb dX12_soonest_77 (by decide) ?_
    exact W.iret (v := 0) hx hb hr (fun t ht hW => ⟨⟨0, (), rfl, (by exact (rg_t (a := 0) (by decide) (by first | decide | omega) (by first | decide | omega))), by (try dsimp only); rw [ht]; exact ⟨hT, hF⟩⟩, hS.F ht⟩) hS.2.2 dX12_soonest_78
  · have t14 : r2.toInt = 0 := ti_eq c12 rfl (by decide)
    have t15 : 0 ≤ p0.toInt ∧ p0.toInt ≤ 29 ∧ p0.toInt < wC := hi6 c12
    refine lv_aload_n hx hb dX12_soonest_18 rfl (lv_at hl 0 rfl) ?_
    refine lv_iload_n hx hb dX12_soonest_19 rfl (lv_at hl 2 rfl) ?_
    refine lv_iconst (v := 1) hx hb dX12_soonest_20 (by decide) ?_
    refine lv_bipush (v := 60) hx hb dX12_soonest_21 (by decide) ?_
    have hFc := gA_free hG hA hS
    refine va_calli (va_runS (As := [.int p1, .int 1, .int 60]) (rest := [.ref o0]) ⟨hx, hb, hml, hown, hts⟩ (s_in l dC dI kA adK adV G H q wZ wN wH wB wC wL wK wU wV PI im PM PT lS lB lE lN p1 1 60 hT hgz hgn hgh hgb hgc hgi hgu) (va_cwS 3 hts (goodIn_app (goodIn_r _ [5, 6, 7] rfl (by decide +kernel)) (goodIn_ca (goodIn_r _ [4] rfl (by decide +kernel)) (bs_in _ _))) rfl rfl rfl (by decide +kernel) ⟨(Nat.le_of_ble_eq_true rfl), (Nat.le_of_ble_eq_true rfl)⟩) ⟨fun a U g mk q => by obtain ⟨q0, q1, qK, qE⟩ := q; exact ⟨q0, q1, va_K.moved (u := U) (U := U.calling g mk a) (Vm.Alike.refl U.vm) qK, EVS.blind g mk a qE⟩, fun U hU hW => ⟨rfl, hU, va_K.moved hW.alike hK, hE.call hS hFc hU hW⟩⟩ rfl rfl hl.1 rfl (lv_room (Nat.le_of_ble_eq_true rfl)) dX12_soonest_23 ⟨(Nat.le_of_ble_eq_true rfl), (Nat.le_of_ble_eq_true rfl)⟩) hS (fun q _ h => hFc q h) hFc (fun r16 u t H locs ht hvm hw17 hB _ _ hS => ?_)
    obtain ⟨hT, hF1⟩ := hB
    rw [ht] at hT hF1
    have hF := hF.more hF1 (by decide)
    try dsimp only at hw17
    obtain ⟨h18, hi19, hi20⟩ := hw17
    refine lv_if_eq (tgt := 42) hx hb dX12_soonest_26 (by decide) (fun c21 => ?_) (fun c21 => ?_)
    · have t22 : r16.toInt = 0 := ti_eq c21 rfl (by decide)
      have t23 : (60 : Int32).toInt = 60 := by decide
      have t24 : (1 : Int32).toInt = 1 := by decide
      have t25 : p1.toInt < (1 : Int32).toInt ∨ (60 : Int32).toInt < p1.toInt := hi20 c21
      refine lv_iconst (v := 1) hx hb dX12_soonest_42 (by decide) ?_
      refine lv_goto (tgt := 47) hx hb dX12_soonest_43 (by decide) ?_
      refine lv_iconst (v := 2) hx hb dX12_soonest_47 (by decide) ?_
      have hFc := gA_free hG hA hS
      refine va_calli (va_runV (As := [.int 1, .int 2]) (rest := []) ⟨hx, hb, hml, hown, hts⟩ (s_throwsIf l dC dI kA adK adV G H q wZ wN wH wB wC wL wK wU wV PI im PM PT lS lB lE lN o0 1 2 hT hr_o0 (rg_t (a := 1) (by decide) (by first | decide | omega) (by first | decide | omega)) hgz hgn hgh hgb hgc hgi hgu) (cwV 2 hts (goodIn_app (goodIn_r _ [12, 13, 14, 7] rfl (by decide +kernel)) (goodIn_ca (goodIn_r _ [11, 1] rfl (by decide +kernel)) (bs_in _ _))) rfl rfl rfl (by decide +kernel) ⟨(Nat.le_of_ble_eq_true rfl), (Nat.le_of_ble_eq_true rfl)⟩) ⟨fun a U g mk q => by obtain ⟨q0, q1, qK, qE⟩ := q; exact ⟨q0, q1, va_K.moved (u := U) (U := U.calling g mk a) (Vm.Alike.refl U.vm) qK, EVS.blind g mk a qE⟩, gH_rc hK hT hr_o0 shm_0 rfl, fun U hU hW => ⟨rfl, hU, va_K.moved hW.alike hK, hE.call hS hFc hU hW⟩⟩ rfl rfl hl.1 rfl (lv_room (Nat.le_of_ble_eq_true rfl)) dX12_soonest_48 ⟨(Nat.le_of_ble_eq_true rfl), (Nat.le_of_ble_eq_true rfl)⟩) hS (fun q _ h => hFc q h) hFc (fun r26 u t H locs ht hvm hw27 hB _ _ hS => ?_)
      obtain ⟨hT, hF1⟩ := hB
      rw [ht] at hT hF1
      have hF := hF.more hF1 (by decide)
      try dsimp only at hw27
      obtain ⟨h28, hd29⟩ := hw27
      obtain rfl : (1 : Int32) = r26 := hd29.symm
      refine lv_if_ne (tgt := 77) hx hb dX12_soonest_51 (by decide) (fun c30 => ?_) (fun c30 => absurd c30 (by decide))
      refine lv_iconst (v := 0) hx hb dX12_soonest_77 (by decide) ?_
      exact W.iret (v := 0) hx hb hr (fun t ht hW => ⟨⟨0, (), rfl, (by exact (rg_t (a := 0) (by decide) (by first | decide | omega) (by first | decide | omega))), by (try dsimp only); rw [ht]; exact ⟨hT, hF⟩⟩, hS.F ht⟩) hS.2.2 dX12_soonest_78
    · have t31 : r16.toInt ≠ 0 := ti_ne c21 rfl (by decide)
      have t32 : (60 : Int32).toInt = 60 := by decide
      have t33 : (1 : Int32).toInt = 1 := by decide
      have t34 : (1 : Int32).toInt ≤ p1.toInt ∧ p1.toInt ≤ (60 : Int32).toInt := hi19 ((bit_of ⟨by omega, by omega⟩).resolve_left c21)
      refine lv_iload_n hx hb dX12_soonest_29 rfl (lv_at hl 3 rfl) ?_
      refine lv_sipush (v := (-1000)) hx hb dX12_soonest_30 (by decide) ?_
      refine lv_sipush (v := 1000) hx hb dX12_soonest_33 (by decide) ?_
      have hFc := gA_free hG hA hS
      refine va_calli (va_runS (As := [.int p2, .int (-1000), .int 1000]) (rest := [.ref o0]) ⟨hx, hb, hml, hown, hts⟩ (s_in l dC dI kA adK adV G H q wZ wN wH wB wC wL wK wU wV PI im PM PT lS lB lE lN p2 (-1000) 1000 hT hgz hgn hgh hgb hgc hgi hgu) (va_cwS 3 hts (goodIn_app (goodIn_r _ [5, 6, 7] rfl (by decide +kernel)) (goodIn_ca (goodIn_r _ [4] rfl (by decide +kernel)) (bs_in _ _))) rfl rfl rfl (by decide +kernel) ⟨(Nat.le_of_ble_eq_true rfl), (Nat.le_of_ble_eq_true rfl)⟩) ⟨fun a U g mk q => by obtain ⟨q0, q1, qK, qE⟩ := q; exact ⟨q0, q1, va_K.moved (u := U) (U := U.calling g mk a) (Vm.Alike.refl U.vm) qK, EVS.blind g mk a qE⟩, fun U hU hW => ⟨rfl, hU, va_K.moved hW.alike hK, hE.call hS hFc hU hW⟩⟩ rfl rfl hl.1 rfl (lv_room (Nat.le_of_ble_eq_true rfl)) dX12_soonest_36 ⟨(Nat.le_of_ble_eq_true rfl), (Nat.le_of_ble_eq_true rfl)⟩) hS (fun q _ h => hFc q h) hFc (fun r35 u t H locs ht hvm hw36 hB _ _ hS => ?_)
      obtain ⟨hT, hF1⟩ := hB
      rw [ht] at hT hF1
      have hF := hF.more hF1 (by decide)
      try dsimp only at hw36
      obtain ⟨h37, hi38, hi39⟩ := hw36
      refine lv_if_ne (tgt := 46) hx hb dX12_soonest_39 (by decide) (fun c40 => ?_) (fun c40 => ?_)
      · have t41 : r35.toInt ≠ 0 := ti_ne c40 rfl (by decide)
        have t42 : (1000 : Int32).toInt = 1000 := by decide
        have t43 : (-1000 : Int32).toInt = (-1000) := by decide
        have t44 : (-1000 : Int32).toInt ≤ p2.toInt ∧ p2.toInt ≤ (1000 : Int32).toInt := hi38 ((bit_of ⟨by omega, by omega⟩).resolve_left c40)
        refine lv_iconst (v := 0) hx hb dX12_soonest_46 (by decide) ?_
        refine lv_iconst (v := 2) hx hb dX12_soonest_47 (by decide) ?_
        have hFc := gA_free hG hA hS
        refine va_calli (va_runV (As := [.int 0, .int 2]) (rest := []) ⟨hx, hb, hml, hown, hts⟩ (s_throwsIf l dC dI kA adK adV G H q wZ wN wH wB wC wL wK wU wV PI im PM PT lS lB lE lN o0 0 2 hT hr_o0 (rg_t (a := 0) (by decide) (by first | decide | omega) (by first | decide | omega)) hgz hgn hgh hgb hgc hgi hgu) (cwV 2 hts (goodIn_app (goodIn_r _ [12, 13, 14, 7] rfl (by decide +kernel)) (goodIn_ca (goodIn_r _ [11, 1] rfl (by decide +kernel)) (bs_in _ _))) rfl rfl rfl (by decide +kernel) ⟨(Nat.le_of_ble_eq_true rfl), (Nat.le_of_ble_eq_true rfl)⟩) ⟨fun a U g mk q => by obtain ⟨q0, q1, qK, qE⟩ := q; exact ⟨q0, q1, va_K.moved (u := U) (U := U.calling g mk a) (Vm.Alike.refl U.vm) qK, EVS.blind g mk a qE⟩, gH_rc hK hT hr_o0 shm_0 rfl, fun U hU hW => ⟨rfl, hU, va_K.moved hW.alike hK, hE.call hS hFc hU hW⟩⟩ rfl rfl hl.1 rfl (lv_room (Nat.le_of_ble_eq_true rfl)) dX12_soonest_48 ⟨(Nat.le_of_ble_eq_true rfl), (Nat.le_of_ble_eq_true rfl)⟩) hS (fun q _ h => hFc q h) hFc (fun r45 u t H locs ht hvm hw46 hB _ _ hS => ?_)
        obtain ⟨hT, hF1⟩ := hB
        rw [ht] at hT hF1
        have hF := hF.more hF1 (by decide)
        try dsimp only at hw46
        obtain ⟨h47, hd48⟩ := hw46
        obtain rfl : (0 : Int32) = r45 := hd48.symm
        refine lv_if_ne (tgt := 77) hx hb dX12_soonest_51 (by decide) (fun c49 => absurd c49 (by decide)) (fun c49 => ?_)
        refine lv_aload_n hx hb dX12_soonest_54 rfl (lv_at hl 0 rfl) ?_
        refine lv_aload_n hx hb dX12_soonest_55 rfl (lv_at hl 0 rfl) ?_
        refine lv_iload_n hx hb dX12_soonest_56 rfl (lv_at hl 1 rfl) ?_
        refine lv_iconst (v := 0) hx hb dX12_soonest_57 (by decide) ?_
        have hFc := gA_free hG hA hS
        refine va_calli (va_runV (As := [.int p0, .int 0]) (rest := [.ref o0]) ⟨hx, hb, hml, hown, hts⟩ (s_of0 l dC dI kA adK adV G H q wZ wN wH wB wC wL wK wU wV PI im PM PT lS lB lE lN o0 p0 hT hr_o0 (by have q8 := ti_all p0; omega) hgz hgn hgh hgb hgc hgi hgu) (cwV 2 hts (goodIn_app (goodIn_r _ [19, 20, 21, 7] rfl (by decide +kernel)) (goodIn_ca (goodIn_r _ [15, 3, 16, 17, 18, 7] rfl (by decide +kernel)) (bs_in _ _))) rfl rfl rfl (by decide +kernel) ⟨(Nat.le_of_ble_eq_true rfl), (Nat.le_of_ble_eq_true rfl)⟩) ⟨fun a U g mk q => by obtain ⟨q0, q1, qK, qE⟩ := q; exact ⟨q0, q1, va_K.moved (u := U) (U := U.calling g mk a) (Vm.Alike.refl U.vm) qK, EVS.blind g mk a qE⟩, gH_rc hK hT hr_o0 shm_0 rfl, fun U hU hW => ⟨rfl, hU, va_K.moved hW.alike hK, hE.call hS hFc hU hW⟩⟩ rfl rfl hl.1 rfl (lv_room (Nat.le_of_ble_eq_true rfl)) dX12_soonest_58 ⟨(Nat.le_of_ble_eq_true rfl), (Nat.le_of_ble_eq_true rfl)⟩) hS (fun q _ h => hFc q h) hFc (fun r50 u t H locs ht hvm hw51 hB _ _ hS => ?_)
        obtain ⟨hT, hF1⟩ := hB
        rw [ht] at hT hF1
        have hF := hF.more hF1 (by decide)
        try dsimp only at hw51
        have ⟨ix52, hix52, m53⟩ := hw51
        have hg54 : G (q 1) = some 2 := gx_of hT hr_o0 shm_0 (k := 1) (by decide) rfl
        have m55 := (el_kept (hF1.arr hg54 skm_2 (by decide))).trans m53
        refine lv_iconst (v := 1) hx hb dX12_soonest_61 (by decide) ?_
        refine lv_icmp_eq (tgt := 69) hx hb dX12_soonest_62 (by decide) (fun c56 => ?_) (fun c56 => ?_)
        · have t57 : r50.toInt = 1 := ti_eq c56 rfl (by decide)
          refine lv_iconst (v := 0) hx hb dX12_soonest_69 (by decide) ?_
          refine lv_iconst (v := 3) hx hb dX12_soonest_70 (by decide) ?_
          have hFc := gA_free hG hA hS
          refine va_calli (va_runV (As := [.int 0, .int 3]) (rest := []) ⟨hx, hb, hml, hown, hts⟩ (s_throwsIf l dC dI kA adK adV G H q wZ wN wH wB wC wL wK wU wV PI im PM PT lS lB lE lN o0 0 3 hT hr_o0 (rg_t (a := 0) (by decide) (by first | decide | omega) (by first | decide | omega)) hgz hgn hgh hgb hgc hgi hgu) (cwV 2 hts (goodIn_app (goodIn_r _ [12, 13, 14, 7] rfl (by decide +kernel)) (goodIn_ca (goodIn_r _ [11, 1] rfl (by decide +kernel)) (bs_in _ _))) rfl rfl rfl (by decide +kernel) ⟨(Nat.le_of_ble_eq_true rfl), (Nat.le_of_ble_eq_true rfl)⟩) ⟨fun a U g mk q => by obtain ⟨q0, q1, qK, qE⟩ := q; exact ⟨q0, q1, va_K.moved (u := U) (U := U.calling g mk a) (Vm.Alike.refl U.vm) qK, EVS.blind g mk a qE⟩, gH_rc hK hT hr_o0 shm_0 rfl, fun U hU hW => ⟨rfl, hU, va_K.moved hW.alike hK, hE.call hS hFc hU hW⟩⟩ rfl rfl hl.1 rfl (lv_room (Nat.le_of_ble_eq_true rfl)) dX12_soonest_71 ⟨(Nat.le_of_ble_eq_true rfl), (Nat.le_of_ble_eq_true rfl)⟩) hS (fun q _ h => hFc q h) hFc (fun r58 u t H locs ht hvm hw59 hB _ _ hS => ?_)
          obtain ⟨hT, hF1⟩ := hB
          rw [ht] at hT hF1
          have m60 := (el_kept (hF1.arr hg54 skm_2 (by decide))).trans m55
          have hF := hF.more hF1 (by decide)
          try dsimp only at hw59
          obtain ⟨h61, hd62⟩ := hw59
          obtain rfl : (0 : Int32) = r58 := hd62.symm
          refine lv_if_eq (tgt := 79) hx hb dX12_soonest_74 (by decide) (fun c63 => ?_) (fun c63 => absurd c63 (by decide))
          refine lv_ldcw (v := 1000000000) hx hb hown (ht_at hts 21 rfl) dX12_soonest_79 ?_
          refine lv_istore (lv' := [(4, .int 1000000000), (0, .ref o0), (1, .int p0), (2, .int p1), (3, .int p2)]) hx hb dX12_soonest_82 hl (by decide) rfl (fun ls hl => ?_)
          refine lv_aload_n hx hb dX12_soonest_84 rfl (lv_at hl 1 rfl) ?_
          refine lv_iload_n hx hb dX12_soonest_85 rfl (lv_at hl 2 rfl) ?_
          refine lv_bipush (v := 17) hx hb dX12_soonest_86 (by decide) ?_
          have hFc := gA_free hG hA hS
          refine va_calli (va_runV (As := [.int p0, .int 17]) (rest := []) ⟨hx, hb, hml, hown, hts⟩ (s_of17 l dC dI kA adK adV G H q wZ wN wH wB wC wL wK wU wV PI im PM PT lS lB lE lN o0 p0 hT hr_o0 (by have q8 := ti_all p0; omega) hgz hgn hgh hgb hgc hgi hgu) (cwV 2 hts (goodIn_app (goodIn_r _ [19, 20, 21, 7] rfl (by decide +kernel)) (goodIn_ca (goodIn_r _ [15, 3, 16, 17, 18, 7] rfl (by decide +kernel)) (bs_in _ _))) rfl rfl rfl (by decide +kernel) ⟨(Nat.le_of_ble_eq_true rfl), (Nat.le_of_ble_eq_true rfl)⟩) ⟨fun a U g mk q => by obtain ⟨q0, q1, qK, qE⟩ := q; exact ⟨q0, q1, va_K.moved (u := U) (U := U.calling g mk a) (Vm.Alike.refl U.vm) qK, EVS.blind g mk a qE⟩, gH_rc hK hT hr_o0 shm_0 rfl, fun U hU hW => ⟨rfl, hU, va_K.moved hW.alike hK, hE.call hS hFc hU hW⟩⟩ rfl rfl hl.1 rfl (lv_room (Nat.le_of_ble_eq_true rfl)) dX12_soonest_88 ⟨(Nat.le_of_ble_eq_true rfl), (Nat.le_of_ble_eq_true rfl)⟩) hS (fun q _ h => hFc q h) hFc (fun r64 u t H locs ht hvm hw65 hB _ _ hS => ?_)
          obtain ⟨hT, hF1⟩ := hB
          rw [ht] at hT hF1
          have m66 := (el_kept (hF1.arr hg54 skm_2 (by decide))).trans m60
          have hF := hF.more hF1 (by decide)
          try dsimp only at hw65
          obtain ⟨h67, ⟨ix68, hix68, m69⟩⟩ := hw65
          have m70 := (el_kept (hF1.arr hg54 skm_2 (by decide))).trans m69
          refine lv_istore (lv' := [(5, .int r64), (4, .int 1000000000), (0, .ref o0), (1, .int p0), (2, .int p1), (3, .int p2)]) hx hb dX12_soonest_91 hl (by decide) rfl (fun ls hl => ?_)
          refine lv_iconst (v := 1) hx hb dX12_soonest_93 (by decide) ?_
          refine lv_istore (lv' := [(6, .int 1), (5, .int r64), (4, .int 1000000000), (0, .ref o0), (1, .int p0), (2, .int p1), (3, .int p2)]) hx hb dX12_soonest_94 hl (by decide) rfl (fun ls hl => ?_)
          have jn414 : ∀ (z408 : Int32), ∀ (z410 : Int32), ((0 ≤ z408.toInt ∧ z408.toInt ≤ 60) ∧ (1 ≤ z410.toInt ∧ z410.toInt ≤ 1000000000)) → ∀ (H : Heap) (locs : List Loc), gH (dC, dI) kA (SHm q (wP wZ wN wH wB wC wL wK wU wV) PI im PM PT lS lB lE lN) G H → gF (dC, dI) SKm G ([(0, 0)] : List (Nat × Nat)) s.heap H → va_S A s.heap H locs → el H (q 1) ix52.toNatClampNeg = some (.int r50) → el H (q 1) ix68.toNatClampNeg = some (.int r64) → ∀ ls : Array Slot, lv_has ls 9 [(6, .int (nI 49)), (5, .int z408), (4, .int z410), (0, .ref o0), (1, .int p0), (2, .int p1), (3, .int p2)] → W p l e (headSpec w_s_soonest ({ frames := 2, cells := 0, slots := 0, locals := 45 })).room s m #[.ref o0, .int p0, .int p1, .int p2] below meth c H locs 0 0 (MQ below (va_Qi (fun (r : Int32) (u : Unit) => (-1 ≤ r.toInt ∧ r.toInt ≤ 999999999)) (fun (_ : Unit) (t : State) => gH (dC, dI) kA (SHm q (wP wZ wN wH wB wC wL wK wU wV) PI im PM PT lS lB lE lN) G t.heap ∧ gF (dC, dI) SKm G ([(0, 0)] : List (Nat × Nat)) s.heap t.heap) A) #[.ref o0, .int p0, .int p1, .int p2] s 0 0 A) (F0 m 201 ls []) := by
            intro z408 z410 ⟨h409, h411⟩ H locs hT hF hS m412 m413 ls hl
            refine lv_iload hx hb dX12_soonest_201 (lv_at hl 2 rfl) ?_
            refine lv_ldcw (v := 1000000000) hx hb hown (ht_at hts 21 rfl) dX12_soonest_203 ?_
            refine lv_icmp_ne (tgt := 213) hx hb dX12_soonest_206 (by decide) (fun c415 => ?_) (fun c415 => ?_)
            · have t416 : z410.toInt ≠ 1000000000 := ti_ne c415 rfl (by decide)
              refine lv_iload hx hb dX12_soonest_213 (lv_at hl 2 rfl) ?_
              exact W.iret (v := z410) hx hb hr (fun t ht hW => ⟨⟨z410, (), rfl, (by exact (by have q8 := ti_all z410; omega)), by (try dsimp only); rw [ht]; exact ⟨hT, hF⟩⟩, hS.F ht⟩) hS.2.2 dX12_soonest_215
            · have t417 : z410.toInt = 1000000000 := ti_eq c415 rfl (by decide)
              refine lv_iconst (v := (-1)) hx hb dX12_soonest_209 (by decide) ?_
              refine lv_goto (tgt := 215) hx hb dX12_soonest_210 (by decide) ?_
              exact W.iret (v := (-1)) hx hb hr (fun t ht hW => ⟨⟨(-1), (), rfl, (by exact (rg_t (a := (-1)) (by decide) (by first | decide | omega) (by first | decide | omega))), by (try dsimp only); rw [ht]; exact ⟨hT, hF⟩⟩, hS.F ht⟩) hS.2.2 dX12_soonest_215
          have key418 : ∀ (n418 i71 : Nat), i71 + n418 = 49 → 1 ≤ i71 → ∀ (z72 : Int32), ∀ (z74 : Int32), ((0 ≤ z72.toInt ∧ z72.toInt ≤ 60) ∧ (1 ≤ z74.toInt ∧ z74.toInt ≤ 1000000000)) → ∀ (H : Heap) (locs : List Loc), gH (dC, dI) kA (SHm q (wP wZ wN wH wB wC wL wK wU wV) PI im PM PT lS lB lE lN) G H → gF (dC, dI) SKm G ([(0, 0)] : List (Nat × Nat)) s.heap H → va_S A s.heap H locs → el H (q 1) ix52.toNatClampNeg = some (.int r50) → el H (q 1) ix68.toNatClampNeg = some (.int r64) → ∀ ls : Array Slot, lv_has ls 9 [(6, .int (nI i71)), (5, .int z72), (4, .int z74), (0, .ref o0), (1, .int p0), (2, .int p1), (3, .int p2)] → W p l e (headSpec w_s_soonest ({ frames := 2, cells := 0, slots := 0, locals := 45 })).room s m #[.ref o0, .int p0, .int p1, .int p2] below meth c H locs 0 0 (MQ below (va_Qi (fun (r : Int32) (u : Unit) => (-1 ≤ r.toInt ∧ r.toInt ≤ 999999999)) (fun (_ : Unit) (t : State) => gH (dC, dI) kA (SHm q (wP wZ wN wH wB wC wL wK wU wV) PI im PM PT lS lB lE lN) G t.heap ∧ gF (dC, dI) SKm G ([(0, 0)] : List (Nat × Nat)) s.heap t.heap) A) #[.ref o0, .int p0, .int p1, .int p2] s 0 0 A) (F0 m 96 ls []) := by
            intro n418
            induction n418 with
            | zero =>
              intro i71 hn418 hlo419 z72 z74 ⟨h73, h75⟩ H locs hT hF hS m76 m77 ls hl
              obtain rfl : 49 = i71 := by omega
              refine lv_iload hx hb dX12_soonest_96 (lv_at hl 0 rfl) ?_
              refine lv_bipush (v := 48) hx hb dX12_soonest_98 (by decide) ?_
              refine lv_icmp_gt (tgt := 201) hx hb dX12_soonest_100 (by decide) (fun c420 => ?_) (fun c420 => (by exfalso; have q9 : ((49 : Nat) : Int) ≤ 48 := ti_nlt c420 (by decide) (nI_toInt (by omega)); omega))
              have t421 : 48 < ((49 : Nat) : Int) := ti_lt c420 (by decide) (nI_toInt (by omega))
              exact jn414 z72 z74 ⟨(by have q8 := ti_all z72; omega), (by have q8 := ti_all z74; omega)⟩ _ _ hT hF hS m76 m77 ls (lv_sub hl [0, 1, 2, 3, 4, 5, 6] rfl)
            | succ n418 ih418 =>
              intro i71 hn418 hlo419 z72 z74 ⟨h73, h75⟩ H locs hT hF hS m76 m77 ls hl
              have hlt421 : i71 < 49 := by omega
              refine lv_iload hx hb dX12_soonest_96 (lv_at hl 0 rfl) ?_
              refine lv_bipush (v := 48) hx hb dX12_soonest_98 (by decide) ?_
              refine lv_icmp_gt (tgt := 201) hx hb dX12_soonest_100 (by decide) (fun c422 => (by exfalso; have q9 : 48 < ((i71 : Nat) : Int) := ti_lt c422 (by decide) (nI_toInt (by omega)); omega)) (fun c422 => ?_)
              have t423 : ((i71 : Nat) : Int) ≤ 48 := ti_nlt c422 (by decide) (nI_toInt (by omega))
              refine lv_iload hx hb dX12_soonest_103 (lv_at hl 1 rfl) ?_
              refine lv_istore (lv' := [(7, .int z72), (6, .int (nI i71)), (5, .int z72), (4, .int z74), (0, .ref o0), (1, .int p0), (2, .int p1), (3, .int p2)]) hx hb dX12_soonest_105 hl (by decide) rfl (fun ls hl => ?_)
              refine lv_iload hx hb dX12_soonest_107 (lv_at hl 1 rfl) ?_
              refine lv_istore (lv' := [(8, .int (nI i71)), (7, .int z72), (6, .int (nI i71)), (5, .int z72), (4, .int z74), (0, .ref o0), (1, .int p0), (2, .int p1), (3, .int p2)]) hx hb dX12_soonest_109 hl (by decide) rfl (fun ls hl => ?_)
              have jn533 : ∀ (z525 : Int32), ∀ (z527 : Int32), ∀ (z529 : Int32), ((1 ≤ z525.toInt ∧ z525.toInt ≤ 201) ∧ (-14 ≤ z527.toInt ∧ z527.toInt ≤ 60) ∧ (1 ≤ z529.toInt ∧ z529.toInt ≤ 1000000000)) → ∀ (H : Heap) (locs : List Loc), gH (dC, dI) kA (SHm q (wP wZ wN wH wB wC wL wK wU wV) PI im PM PT lS lB lE lN) G H → gF (dC, dI) SKm G ([(0, 0)] : List (Nat × Nat)) s.heap H → va_S A s.heap H locs → el H (q 1) ix52.toNatClampNeg = some (.int r50) → el H (q 1) ix68.toNatClampNeg = some (.int r64) → ∀ ls : Array Slot, lv_has ls 9 [(8, .int z525), (7, .int z527), (6, .int (nI i71)), (5, .int z72), (4, .int z529), (0, .ref o0), (1, .int p0), (2, .int p1), (3, .int p2)] → W p l e (headSpec w_s_soonest ({ frames := 2, cells := 0, slots := 0, locals := 45 })).room s m #[.ref o0, .int p0, .int p1, .int p2] below meth c H locs 0 0 (MQ below (va_Qi (fun (r : Int32) (u : Unit) => (-1 ≤ r.toInt ∧ r.toInt ≤ 999999999)) (fun (_ : Unit) (t : State) => gH (dC, dI) kA (SHm q (wP wZ wN wH wB wC wL wK wU wV) PI im PM PT lS lB lE lN) G t.heap ∧ gF (dC, dI) SKm G ([(0, 0)] : List (Nat × Nat)) s.heap t.heap) A) #[.ref o0, .int p0, .int p1, .int p2] s 0 0 A) (F0 m 184 ls []) := by
                intro z525 z527 z529 ⟨h526, h528, h530⟩ H locs hT hF hS m531 m532 ls hl
                refine lv_bipush (v := 60) hx hb dX12_soonest_184 (by decide) ?_
                refine lv_iload hx hb dX12_soonest_186 (lv_at hl 3 rfl) ?_
                refine lv_iconst (v := 2) hx hb dX12_soonest_188 (by decide) ?_
                refine lv_iadd hx hb dX12_soonest_189 ?_
                refine lv_topi (fun x534 ex534 => ?_)
                have t535 : x534.toInt = z72.toInt + 2 := ti_add ex534 rfl (by decide) (by omega) (by omega)
                refine va_mmin hx hb (hml.trans hl.1.symm) hown (ht_at hts 22 rfl) (ht_at hts 23 rfl) (ht_at hts 24 rfl) (ht_at hts 25 rfl) (Nat.le_of_ble_eq_true rfl) (Nat.le_of_ble_eq_true rfl) (Nat.le_of_ble_eq_true rfl) (Nat.le_of_ble_eq_true rfl) dX12_soonest_190 ?_
                refine lv_topi (fun x536 ex536 => ?_)
                have t537 : x536.toInt ≤ 60 ∧ x536.toInt ≤ x534.toInt ∧ (x536.toInt = 60 ∨ x536.toInt = x534.toInt) := mn_f ex536 (by decide) rfl
                refine lv_istore (lv' := [(5, .int x536), (8, .int z525), (7, .int z527), (6, .int (nI i71)), (4, .int z529), (0, .ref o0), (1, .int p0), (2, .int p1), (3, .int p2)]) hx hb dX12_soonest_193 hl (by decide) rfl (fun ls hl => ?_)
                refine lv_iinc (v := nI (i71 + 1)) (lv' := [(6, .int (nI (i71 + 1))), (5, .int x536), (8, .int z525), (7, .int z527), (4, .int z529), (0, .ref o0), (1, .int p0), (2, .int p1), (3, .int p2)]) hx hb dX12_soonest_195 hl (k := 3) rfl (nI_add i71 1) (by decide) rfl (fun ls hl => ?_)
                refine lv_goto (tgt := 96) hx hb dX12_soonest_198 (by decide) ?_
                exact ih418 (i71 + 1) (by omega) (by omega) x536 z529 ⟨(by have q8 := ti_all x536; omega), (by have q8 := ti_all z529; omega)⟩ _ _ hT hF hS m531 m532 ls (lv_sub hl [0, 1, 4, 5, 6, 7, 8] rfl)
              have key538 : ∀ (n538 i424 : Nat), i424 + n538 = 201 → i71 ≤ i424 → ∀ (z425 : Int32), ∀ (z427 : Int32), ((-14 ≤ z425.toInt ∧ z425.toInt ≤ 60) ∧ (1 ≤ z427.toInt ∧ z427.toInt ≤ 1000000000)) → ∀ (H : Heap) (locs : List Loc), gH (dC, dI) kA (SHm q (wP wZ wN wH wB wC wL wK wU wV) PI im PM PT lS lB lE lN) G H → gF (dC, dI) SKm G ([(0, 0)] : List (Nat × Nat)) s.heap H → va_S A s.heap H locs → el H (q 1) ix52.toNatClampNeg = some (.int r50) → el H (q 1) ix68.toNatClampNeg = some (.int r64) → ∀ ls : Array Slot, lv_has ls 9 [(8, .int (nI i424)), (7, .int z425), (6, .int (nI i71)), (5, .int z72), (4, .int z427), (0, .ref o0), (1, .int p0), (2, .int p1), (3, .int p2)] → W p l e (headSpec w_s_soonest ({ frames := 2, cells := 0, slots := 0, locals := 45 })).room s m #[.ref o0, .int p0, .int p1, .int p2] below meth c H locs 0 0 (MQ below (va_Qi (fun (r : Int32) (u : Unit) => (-1 ≤ r.toInt ∧ r.toInt ≤ 999999999)) (fun (_ : Unit) (t : State) => gH (dC, dI) kA (SHm q (wP wZ wN wH wB wC wL wK wU wV) PI im PM PT lS lB lE lN) G t.heap ∧ gF (dC, dI) SKm G ([(0, 0)] : List (Nat × Nat)) s.heap t.heap) A) #[.ref o0, .int p0, .int p1, .int p2] s 0 0 A) (F0 m 111 ls []) := by
                intro n538
                induction n538 with
                | zero =>
                  intro i424 hn538 hlo539 z425 z427 ⟨h426, h428⟩ H locs hT hF hS m429 m430 ls hl
                  obtain rfl : 201 = i424 := by omega
                  refine lv_iload hx hb dX12_soonest_111 (lv_at hl 0 rfl) ?_
                  refine lv_sipush (v := 200) hx hb dX12_soonest_113 (by decide) ?_
                  refine lv_icmp_gt (tgt := 184) hx hb dX12_soonest_116 (by decide) (fun c540 => ?_) (fun c540 => (by exfalso; have q9 : ((201 : Nat) : Int) ≤ 200 := ti_nlt c540 (by decide) (nI_toInt (by omega)); omega))
                  have t541 : 200 < ((201 : Nat) : Int) := ti_lt c540 (by decide) (nI_toInt (by omega))
                  exact jn533 (nI 201) z425 z427 ⟨(rg_t (a := ((201 : Nat) : Int)) (nI_toInt (by omega)) (by omega) (by omega)), (by have q8 := ti_all z425; omega), (by have q8 := ti_all z427; omega)⟩ _ _ hT hF hS m429 m430 ls (lv_sub hl [0, 1, 2, 3, 4, 5, 6, 7, 8] rfl)
                | succ n538 ih538 =>
                  intro i424 hn538 hlo539 z425 z427 ⟨h426, h428⟩ H locs hT hF hS m429 m430 ls hl
                  have hlt541 : i424 < 201 := by omega
                  refine lv_iload hx hb dX12_soonest_111 (lv_at hl 0 rfl) ?_
                  refine lv_sipush (v := 200) hx hb dX12_soonest_113 (by decide) ?_
                  refine lv_icmp_gt (tgt := 184) hx hb dX12_soonest_116 (by decide) (fun c542 => (by exfalso; have q9 : 200 < ((i424 : Nat) : Int) := ti_lt c542 (by decide) (nI_toInt (by omega)); omega)) (fun c542 => ?_)
                  have t543 : ((i424 : Nat) : Int) ≤ 200 := ti_nlt c542 (by decide) (nI_toInt (by omega))
                  refine lv_iload hx hb dX12_soonest_119 (lv_at hl 1 rfl) ?_
                  refine lv_if_le (tgt := 184) hx hb dX12_soonest_121 (by decide) (fun c544 => ?_) (fun c544 => ?_)
                  · have t545 : z425.toInt ≤ 0 := ti_le c544 rfl (by decide)
                    exact jn533 (nI i424) z425 z427 ⟨(rg_t (a := ((i424 : Nat) : Int)) (nI_toInt (by omega)) (by omega) (by omega)), (by have q8 := ti_all z425; omega), (by have q8 := ti_all z427; omega)⟩ _ _ hT hF hS m429 m430 ls (lv_sub hl [0, 1, 2, 3, 4, 5, 6, 7, 8] rfl)
                  · have t546 : 0 < z425.toInt := ti_nle c544 rfl (by decide)
                    refine lv_aload_n hx hb dX12_soonest_124 rfl (lv_at hl 5 rfl) ?_
                    refine lv_aload_n hx hb dX12_soonest_125 rfl (lv_at hl 5 rfl) ?_
                    have hFc := gA_free hG hA hS
                    refine va_calli (va_runV (As := []) (rest := [.ref o0]) ⟨hx, hb, hml, hown, hts⟩ (s_hour l dC dI kA adK adV G H q wZ wN wH wB wC wL wK wU wV PI im PM PT lS lB lE lN o0 hT hr_o0 hgz hgn hgh hgb hgc hgi hgu) (cwV 0 hts (goodIn_app (goodIn_r _ [28, 29, 30, 7] rfl (by decide +kernel)) (goodIn_ca (goodIn_r _ [27, 3] rfl (by decide +kernel)) (bs_in _ _))) rfl rfl rfl (by decide +kernel) ⟨(Nat.le_of_ble_eq_true rfl), (Nat.le_of_ble_eq_true rfl)⟩) ⟨fun a U g mk q => by obtain ⟨q0, q1, qK, qE⟩ := q; exact ⟨q0, q1, va_K.moved (u := U) (U := U.calling g mk a) (Vm.Alike.refl U.vm) qK, EVS.blind g mk a qE⟩, gH_rc hK hT hr_o0 shm_0 rfl, fun U hU hW => ⟨rfl, hU, va_K.moved hW.alike hK, hE.call hS hFc hU hW⟩⟩ rfl rfl hl.1 rfl (lv_room (Nat.le_of_ble_eq_true rfl)) dX12_soonest_126 ⟨(Nat.le_of_ble_eq_true rfl), (Nat.le_of_ble_eq_true rfl)⟩) hS (fun q _ h => hFc q h) hFc (fun r547 u t H locs ht hvm hw548 hB _ _ hS => ?_)
                    obtain ⟨hT, hF1⟩ := hB
                    rw [ht] at hT hF1
                    have m549 := (el_kept (hF1.arr hg54 skm_2 (by decide))).trans m429
                    have m550 := (el_kept (hF1.arr hg54 skm_2 (by decide))).trans m430
                    have hF := hF.more hF1 (by decide)
                    try dsimp only at hw548
                    obtain ⟨h551, hf552⟩ := hw548
                    refine lv_iload hx hb dX12_soonest_129 (lv_at hl 0 rfl) ?_
                    refine lv_iadd hx hb dX12_soonest_131 ?_
                    refine lv_topi (fun x553 ex553 => ?_)
                    have t554 : x553.toInt = r547.toInt + ((i424 : Nat) : Int) := ti_add ex553 rfl (nI_toInt (by omega)) (by omega) (by omega)
                    have hFc := gA_free hG hA hS
                    refine va_calli (va_runV (As := [.int x553]) (rest := []) ⟨hx, hb, hml, hown, hts⟩ (s_outside l dC dI kA adK adV G H q wZ wN wH wB wC wL wK wU wV PI im PM PT lS lB lE lN o0 x553 hT hr_o0 (by have q8 := ti_all x553; omega) hgz hgn hgh hgb hgc hgi hgu) (cwV 1 hts (goodIn_app (goodIn_r _ [32, 33, 34, 7] rfl (by decide +kernel)) (goodIn_ca (goodIn_r _ [31, 3, 4, 5, 6, 7] rfl (by decide +kernel)) (bs_in _ _))) rfl rfl rfl (by decide +kernel) ⟨(Nat.le_of_ble_eq_true rfl), (Nat.le_of_ble_eq_true rfl)⟩) ⟨fun a U g mk q => by obtain ⟨q0, q1, qK, qE⟩ := q; exact ⟨q0, q1, va_K.moved (u := U) (U := U.calling g mk a) (Vm.Alike.refl U.vm) qK, EVS.blind g mk a qE⟩, gH_rc hK hT hr_o0 shm_0 rfl, fun U hU hW => ⟨rfl, hU, va_K.moved hW.alike hK, hE.call hS hFc hU hW⟩⟩ rfl rfl hl.1 rfl (lv_room (Nat.le_of_ble_eq_true rfl)) dX12_soonest_132 ⟨(Nat.le_of_ble_eq_true rfl), (Nat.le_of_ble_eq_true rfl)⟩) hS (fun q _ h => hFc q h) hFc (fun r555 u t H locs ht hvm hw556 hB _ _ hS => ?_)
                    obtain ⟨hT, hF1⟩ := hB
                    rw [ht] at hT hF1
                    have m557 := (el_kept (hF1.arr hg54 skm_2 (by decide))).trans m549
                    have m558 := (el_kept (hF1.arr hg54 skm_2 (by decide))).trans m550
                    have hF := hF.more hF1 (by decide)
                    try dsimp only at hw556
                    have h559 := hw556
                    refine lv_iload_n hx hb dX12_soonest_135 rfl (lv_at hl 8 rfl) ?_
                    refine lv_icmp_gt (tgt := 148) hx hb dX12_soonest_136 (by decide) (fun c560 => ?_) (fun c560 => ?_)
                    · have t561 : p2.toInt < r555.toInt := ti_lt c560 rfl rfl
                      refine lv_bipush (v := 60) hx hb dX12_soonest_148 (by decide) ?_
                      refine lv_iload hx hb dX12_soonest_150 (lv_at hl 1 rfl) ?_
                      refine lv_iconst (v := 2) hx hb dX12_soonest_152 (by decide) ?_
                      refine lv_iadd hx hb dX12_soonest_153 ?_
                      refine lv_topi (fun x562 ex562 => ?_)
                      have t563 : x562.toInt = z425.toInt + 2 := ti_add ex562 rfl (by decide) (by omega) (by omega)
                      refine va_mmin hx hb (hml.trans hl.1.symm) hown (ht_at hts 22 rfl) (ht_at hts 23 rfl) (ht_at hts 24 rfl) (ht_at hts 25 rfl) (Nat.le_of_ble_eq_true rfl) (Nat.le_of_ble_eq_true rfl) (Nat.le_of_ble_eq_true rfl) (Nat.le_of_ble_eq_true rfl) dX12_soonest_154 ?_
                      refine lv_topi (fun x564 ex564 => ?_)
                      have t565 : x564.toInt ≤ 60 ∧ x564.toInt ≤ x562.toInt ∧ (x564.toInt = 60 ∨ x564.toInt = x562.toInt) := mn_f ex564 (by decide) rfl
                      refine lv_istore (lv' := [(7, .int x564), (8, .int (nI i424)), (6, .int (nI i71)), (5, .int z72), (4, .int z427), (0, .ref o0), (1, .int p0), (2, .int p1), (3, .int p2)]) hx hb dX12_soonest_157 hl (by decide) rfl (fun ls hl => ?_)
                      refine lv_iload hx hb dX12_soonest_159 (lv_at hl 0 rfl) ?_
                      refine lv_if_gt (tgt := 178) hx hb dX12_soonest_161 (by decide) (fun c566 => ?_) (fun c566 => (by exfalso; have q9 : x564.toInt ≤ 0 := ti_nlt c566 (by decide) rfl; omega))
                      have t567 : 0 < x564.toInt := ti_lt c566 (by decide) rfl
                      refine lv_iinc (v := nI (i424 + 1)) (lv' := [(8, .int (nI (i424 + 1))), (7, .int x564), (6, .int (nI i71)), (5, .int z72), (4, .int z427), (0, .ref o0), (1, .int p0), (2, .int p1), (3, .int p2)]) hx hb dX12_soonest_178 hl (k := 1) rfl (nI_add i424 1) (by decide) rfl (fun ls hl => ?_)
                      refine lv_goto (tgt := 111) hx hb dX12_soonest_181 (by decide) ?_
                      exact ih538 (i424 + 1) (by omega) (by omega) x564 z427 ⟨(by have q8 := ti_all x564; omega), (by have q8 := ti_all z427; omega)⟩ _ _ hT hF hS m557 m558 ls (lv_sub hl [0, 1, 2, 3, 4, 5, 6, 7, 8] rfl)
                    · have t568 : r555.toInt ≤ p2.toInt := ti_nlt c560 rfl rfl
                      refine lv_iload hx hb dX12_soonest_139 (lv_at hl 1 rfl) ?_
                      refine lv_iload_n hx hb dX12_soonest_141 rfl (lv_at hl 7 rfl) ?_
                      refine lv_iconst (v := 4) hx hb dX12_soonest_142 (by decide) ?_
                      refine lv_idiv hx hb dX12_soonest_143 (by decide) ?_
                      refine lv_topi (fun x569 ex569 => ?_)
                      have t570 : x569.toInt = p1.toInt / 4 := ti_div ex569 rfl (by decide) (by omega) (by omega)
                      refine lv_isub hx hb dX12_soonest_144 ?_
                      refine lv_topi (fun x571 ex571 => ?_)
                      have t572 : x571.toInt = z425.toInt - x569.toInt := ti_sub ex571 rfl rfl (by omega) (by omega)
                      refine lv_goto (tgt := 157) hx hb dX12_soonest_145 (by decide) ?_
                      refine lv_istore (lv' := [(7, .int x571), (8, .int (nI i424)), (6, .int (nI i71)), (5, .int z72), (4, .int z427), (0, .ref o0), (1, .int p0), (2, .int p1), (3, .int p2)]) hx hb dX12_soonest_157 hl (by decide) rfl (fun ls hl => ?_)
                      refine lv_iload hx hb dX12_soonest_159 (lv_at hl 0 rfl) ?_
                      refine lv_if_gt (tgt := 178) hx hb dX12_soonest_161 (by decide) (fun c573 => ?_) (fun c573 => ?_)
                      · have t574 : 0 < x571.toInt := ti_lt c573 (by decide) rfl
                        refine lv_iinc (v := nI (i424 + 1)) (lv' := [(8, .int (nI (i424 + 1))), (7, .int x571), (6, .int (nI i71)), (5, .int z72), (4, .int z427), (0, .ref o0), (1, .int p0), (2, .int p1), (3, .int p2)]) hx hb dX12_soonest_178 hl (k := 1) rfl (nI_add i424 1) (by decide) rfl (fun ls hl => ?_)
                        refine lv_goto (tgt := 111) hx hb dX12_soonest_181 (by decide) ?_
                        exact ih538 (i424 + 1) (by omega) (by omega) x571 z427 ⟨(by have q8 := ti_all x571; omega), (by have q8 := ti_all z427; omega)⟩ _ _ hT hF hS m557 m558 ls (lv_sub hl [0, 1, 2, 3, 4, 5, 6, 7, 8] rfl)
                      · have t575 : x571.toInt ≤ 0 := ti_nlt c573 (by decide) rfl
                        refine lv_iload hx hb dX12_soonest_164 (lv_at hl 4 rfl) ?_
                        refine lv_aload_n hx hb dX12_soonest_166 rfl (lv_at hl 5 rfl) ?_
                        have hFc := gA_free hG hA hS
                        refine va_calli (va_runV (As := []) (rest := [.int z427]) ⟨hx, hb, hml, hown, hts⟩ (s_hour l dC dI kA adK adV G H q wZ wN wH wB wC wL wK wU wV PI im PM PT lS lB lE lN o0 hT hr_o0 hgz hgn hgh hgb hgc hgi hgu) (cwV 0 hts (goodIn_app (goodIn_r _ [28, 29, 30, 7] rfl (by decide +kernel)) (goodIn_ca (goodIn_r _ [27, 3] rfl (by decide +kernel)) (bs_in _ _))) rfl rfl rfl (by decide +kernel) ⟨(Nat.le_of_ble_eq_true rfl), (Nat.le_of_ble_eq_true rfl)⟩) ⟨fun a U g mk q => by obtain ⟨q0, q1, qK, qE⟩ := q; exact ⟨q0, q1, va_K.moved (u := U) (U := U.calling g mk a) (Vm.Alike.refl U.vm) qK, EVS.blind g mk a qE⟩, gH_rc hK hT hr_o0 shm_0 rfl, fun U hU hW => ⟨rfl, hU, va_K.moved hW.alike hK, hE.call hS hFc hU hW⟩⟩ rfl rfl hl.1 rfl (lv_room (Nat.le_of_ble_eq_true rfl)) dX12_soonest_167 ⟨(Nat.le_of_ble_eq_true rfl), (Nat.le_of_ble_eq_true rfl)⟩) hS (fun q _ h => hFc q h) hFc (fun r576 u t H locs ht hvm hw577 hB _ _ hS => ?_)
                        obtain ⟨hT, hF1⟩ := hB
                        rw [ht] at hT hF1
                        have m578 := (el_kept (hF1.arr hg54 skm_2 (by decide))).trans m557
                        have m579 := (el_kept (hF1.arr hg54 skm_2 (by decide))).trans m558
                        have hF := hF.more hF1 (by decide)
                        try dsimp only at hw577
                        obtain ⟨h580, hf581⟩ := hw577
                        refine lv_iload hx hb dX12_soonest_170 (lv_at hl 1 rfl) ?_
                        refine lv_iadd hx hb dX12_soonest_172 ?_
                        refine lv_topi (fun x582 ex582 => ?_)
                        have t583 : x582.toInt = r576.toInt + ((i424 : Nat) : Int) := ti_add ex582 rfl (nI_toInt (by omega)) (by omega) (by omega)
                        refine va_mmin hx hb (hml.trans hl.1.symm) hown (ht_at hts 22 rfl) (ht_at hts 23 rfl) (ht_at hts 24 rfl) (ht_at hts 25 rfl) (Nat.le_of_ble_eq_true rfl) (Nat.le_of_ble_eq_true rfl) (Nat.le_of_ble_eq_true rfl) (Nat.le_of_ble_eq_true rfl) dX12_soonest_173 ?_
                        refine lv_topi (fun x584 ex584 => ?_)
                        have t585 : x584.toInt ≤ z427.toInt ∧ x584.toInt ≤ x582.toInt ∧ (x584.toInt = z427.toInt ∨ x584.toInt = x582.toInt) := mn_f ex584 rfl rfl
                        refine lv_istore (lv' := [(4, .int x584), (7, .int x571), (8, .int (nI i424)), (6, .int (nI i71)), (5, .int z72), (0, .ref o0), (1, .int p0), (2, .int p1), (3, .int p2)]) hx hb dX12_soonest_176 hl (by decide) rfl (fun ls hl => ?_)
                        refine lv_iinc (v := nI (i424 + 1)) (lv' := [(8, .int (nI (i424 + 1))), (4, .int x584), (7, .int x571), (6, .int (nI i71)), (5, .int z72), (0, .ref o0), (1, .int p0), (2, .int p1), (3, .int p2)]) hx hb dX12_soonest_178 hl (k := 2) rfl (nI_add i424 1) (by decide) rfl (fun ls hl => ?_)
                        refine lv_goto (tgt := 111) hx hb dX12_soonest_181 (by decide) ?_
                        exact ih538 (i424 + 1) (by omega) (by omega) x571 x584 ⟨(by have q8 := ti_all x571; omega), (by have q8 := ti_all x584; omega)⟩ _ _ hT hF hS m578 m579 ls (lv_sub hl [0, 2, 3, 4, 1, 5, 6, 7, 8] rfl)
              exact key538 (201 - i71) i71 (by omega) (Nat.le_refl _) z72 z74 ⟨(by have q8 := ti_all z72; omega), (by have q8 := ti_all z74; omega)⟩ _ _ hT hF hS m76 m77 ls (lv_sub hl [0, 1, 2, 3, 4, 5, 6, 7, 8] rfl)
          exact key418 (49 - 1) 1 (by omega) (Nat.le_refl _) r64 1000000000 ⟨(by have q8 := ti_all r64; omega), (rg_t (a := 1000000000) (by decide) (by first | decide | omega) (by first | decide | omega))⟩ _ _ hT hF hS m66 m70 ls (lv_sub hl [0, 1, 2, 3, 4, 5, 6] rfl)
        · have t586 : r50.toInt ≠ 1 := ti_ne c56 rfl (by decide)
          refine lv_iconst (v := 1) hx hb dX12_soonest_65 (by decide) ?_
          refine lv_goto (tgt := 70) hx hb dX12_soonest_66 (by decide) ?_
          refine lv_iconst (v := 3) hx hb dX12_soonest_70 (by decide) ?_
          have hFc := gA_free hG hA hS
          refine va_calli (va_runV (As := [.int 1, .int 3]) (rest := []) ⟨hx, hb, hml, hown, hts⟩ (s_throwsIf l dC dI kA adK adV G H q wZ wN wH wB wC wL wK wU wV PI im PM PT lS lB lE lN o0 1 3 hT hr_o0 (rg_t (a := 1) (by decide) (by first | decide | omega) (by first | decide | omega)) hgz hgn hgh hgb hgc hgi hgu) (cwV 2 hts (goodIn_app (goodIn_r _ [12, 13, 14, 7] rfl (by decide +kernel)) (goodIn_ca (goodIn_r _ [11, 1] rfl (by decide +kernel)) (bs_in _ _))) rfl rfl rfl (by decide +kernel) ⟨(Nat.le_of_ble_eq_true rfl), (Nat.le_of_ble_eq_true rfl)⟩) ⟨fun a U g mk q => by obtain ⟨q0, q1, qK, qE⟩ := q; exact ⟨q0, q1, va_K.moved (u := U) (U := U.calling g mk a) (Vm.Alike.refl U.vm) qK, EVS.blind g mk a qE⟩, gH_rc hK hT hr_o0 shm_0 rfl, fun U hU hW => ⟨rfl, hU, va_K.moved hW.alike hK, hE.call hS hFc hU hW⟩⟩ rfl rfl hl.1 rfl (lv_room (Nat.le_of_ble_eq_true rfl)) dX12_soonest_71 ⟨(Nat.le_of_ble_eq_true rfl), (Nat.le_of_ble_eq_true rfl)⟩) hS (fun q _ h => hFc q h) hFc (fun r587 u t H locs ht hvm hw588 hB _ _ hS => ?_)
          obtain ⟨hT, hF1⟩ := hB
          rw [ht] at hT hF1
          have hF := hF.more hF1 (by decide)
          try dsimp only at hw588
          obtain ⟨h590, hd591⟩ := hw588
          obtain rfl : (1 : Int32) = r587 := hd591.symm
          refine lv_if_eq (tgt := 79) hx hb dX12_soonest_74 (by decide) (fun c592 => absurd c592 (by decide)) (fun c592 => ?_)
          refine lv_iconst (v := 0) hx hb dX12_soonest_77 (by decide) ?_
          exact W.iret (v := 0) hx hb hr (fun t ht hW => ⟨⟨0, (), rfl, (by exact (rg_t (a := 0) (by decide) (by first | decide | omega) (by first | decide | omega))), by (try dsimp only); rw [ht]; exact ⟨hT, hF⟩⟩, hS.F ht⟩) hS.2.2 dX12_soonest_78
      · have t593 : r35.toInt = 0 := ti_eq c40 rfl (by decide)
        have t594 : (1000 : Int32).toInt = 1000 := by decide
        have t595 : (-1000 : Int32).toInt = (-1000) := by decide
        have t596 : p2.toInt < (-1000 : Int32).toInt ∨ (1000 : Int32).toInt < p2.toInt := hi39 c40
        refine lv_iconst (v := 1) hx hb dX12_soonest_42 (by decide) ?_
        refine lv_goto (tgt := 47) hx hb dX12_soonest_43 (by decide) ?_
        refine lv_iconst (v := 2) hx hb dX12_soonest_47 (by decide) ?_
        have hFc := gA_free hG hA hS
        refine va_calli (va_runV (As := [.int 1, .int 2]) (rest := []) ⟨hx, hb, hml, hown, hts⟩ (s_throwsIf l dC dI kA adK adV G H q wZ wN wH wB wC wL wK wU wV PI im PM PT lS lB lE lN o0 1 2 hT hr_o0 (rg_t (a := 1) (by decide) (by first | decide | omega) (by first | decide | omega)) hgz hgn hgh hgb hgc hgi hgu) (cwV 2 hts (goodIn_app (goodIn_r _ [12, 13, 14, 7] rfl (by decide +kernel)) (goodIn_ca (goodIn_r _ [11, 1] rfl (by decide +kernel)) (bs_in _ _))) rfl rfl rfl (by decide +kernel) ⟨(Nat.le_of_ble_eq_true rfl), (Nat.le_of_ble_eq_true rfl)⟩) ⟨fun a U g mk q => by obtain ⟨q0, q1, qK, qE⟩ := q; exact ⟨q0, q1, va_K.moved (u := U) (U := U.calling g mk a) (Vm.Alike.refl U.vm) qK, EVS.blind g mk a qE⟩, gH_rc hK hT hr_o0 shm_0 rfl, fun U hU hW => ⟨rfl, hU, va_K.moved hW.alike hK, hE.call hS hFc hU hW⟩⟩ rfl rfl hl.1 rfl (lv_room (Nat.le_of_ble_eq_true rfl)) dX12_soonest_48 ⟨(Nat.le_of_ble_eq_true rfl), (Nat.le_of_ble_eq_true rfl)⟩) hS (fun q _ h => hFc q h) hFc (fun r597 u t H locs ht hvm hw598 hB _ _ hS => ?_)
        obtain ⟨hT, hF1⟩ := hB
        rw [ht] at hT hF1
        have hF := hF.more hF1 (by decide)
        try dsimp only at hw598
        obtain ⟨h599, hd600⟩ := hw598
        obtain rfl : (1 : Int32) = r597 := hd600.symm
        refine lv_if_ne (tgt := 77) hx hb dX12_soonest_51 (by decide) (fun c601 => ?_) (fun c601 => absurd c601 (by decide))
        refine lv_iconst (v := 0) hx hb dX12_soonest_77 (by decide) ?_
        exact W.iret (v := 0) hx hb hr (fun t ht hW => ⟨⟨0, (), rfl, (by exact (rg_t (a := 0) (by decide) (by first | decide | omega) (by first | decide | omega))), by (try dsimp only); rw [ht]; exact ⟨hT, hF⟩⟩, hS.F ht⟩) hS.2.2 dX12_soonest_78
def w_s_square : List Cond := .code yX12_square cX12_square 3 (some .int) :: (HAppend.hAppend (α := List Cond) (β := List Cond) (γ := List Cond) [.fieldLink RX12 194 "SeaLandModel" "thrown" "I", .code yX12_noSquare cX12_noSquare 1 (some .boolean), .code yX12_in cX12_in 3 (some .boolean), .methodLink RX12 197 yX12_in, .static yX12_in, .initialized RX12, .methodLink RX12 220 yX12_noSquare, .static yX12_noSquare, .code yX12_throwsIf cX12_throwsIf 3 (some .boolean), .methodLink RX12 224 yX12_throwsIf, .instanceMethod yX12_throwsIf, .selects RX12 yX12_throwsIf yX12_throwsIf, .fieldLink RX12 9 "SeaLandModel" "world" "[I", .code yX12_level cX12_level 2 (some .int), .code yX12_isLand cX12_isLand 2 (some .boolean), .methodLink RX12 235 yX12_isLand, .instanceMethod yX12_isLand, .selects RX12 yX12_isLand yX12_isLand, .code yX12_hour cX12_hour 1 (some .int), .methodLink RX12 228 yX12_hour, .instanceMethod yX12_hour, .selects RX12 yX12_hour yX12_hour, .code yX12_outside cX12_outside 4 (some .int), .methodLink RX12 247 yX12_outside, .instanceMethod yX12_outside, .selects RX12 yX12_outside yX12_outside, .methodLink RX12 285 yX12_level, .instanceMethod yX12_level, .selects RX12 yX12_level yX12_level, .code yX12_farmOf cX12_farmOf 3 (some .int), .fieldLink RX12 498 "SeaLandModel" "farms" "I", .fieldLink RX12 113 "SeaLandModel" "farmFrom" "[I", .fieldLink RX12 116 "SeaLandModel" "farmTo" "[I", .code yX12_isIn cX12_isIn 5 (some .boolean), .methodLink RX12 207 Lib.Math.min.name, .static Lib.Math.min.name, .initialized "java/lang/Math", .code Lib.Math.min.name Lib.Math.min.code 2 (some .int), .methodLink RX12 211 Lib.Math.max.name, .static Lib.Math.max.name, .code Lib.Math.max.name Lib.Math.max.code 2 (some .int), .methodLink RX12 232 yX12_isIn, .static yX12_isIn, .methodLink RX12 329 yX12_farmOf, .instanceMethod yX12_farmOf, .selects RX12 yX12_farmOf yX12_farmOf, .code yX12_workOn cX12_workOn 3 (some .int), .code yX12_of cX12_of 3 (some .int), .code yX12_at cX12_at 2 (some .int), .methodLink RX12 214 yX12_at, .static yX12_at, .methodLink RX12 217 yX12_of, .instanceMethod yX12_of, .selects RX12 yX12_of yX12_of, .methodLink RX12 256 yX12_workOn, .instanceMethod yX12_workOn, .selects RX12 yX12_workOn yX12_workOn] bs)
set_option maxHeartbeats 4000000 in
set_option maxRecDepth 100000 in
theorem s_square (l : Launch) (dC : Nat → ClassId) (dI : Nat → Nat → Nat) (kA : Nat → ClassId) (adK adV : Nat → Nat) (G : gT) (H0 : Heap) (q : Nat → Nat) (wZ wN : Nat → Int) (wH wB wC : Int) (wL wK : Nat → Prop) (wU wV : Nat → Nat) (PI : Nat → Int → Prop) (im : Int) (PM PT : Nat → Int → Prop) (lS lB lE : Nat → Nat → Int → Prop) (lN : Nat → Int) (o0 : Nat) (p0 : Int32) (p1 : Int32)  (hT : gH (dC, dI) kA (SHm q (wP wZ wN wH wB wC wL wK wU wV) PI im PM PT lS lB lE lN) G H0) (hr_o0 : G o0 = some 0) (hgz : ∀ i, 0 ≤ wZ i) (hgn : ∀ i, 6500000 ≤ wN i ∧ wN i ≤ 20200000) (hgh : 0 ≤ wH ∧ wH ≤ 40000) (hgb : 0 ≤ wB ∧ wB ≤ 3850000) (hgc : 0 ≤ wC ∧ wC ≤ 30) (hgi : 0 ≤ im ∧ im ≤ 1) (hgu : ∀ a t, G a = some (t + 1) → a = q t) : Met l yX12_square w_s_square ({ frames := 3, cells := 0, slots := 0, locals := 86 }) (va_Pc [.ref o0, .int p0, .int p1] (fun U => U.heap = H0 ∧ va_K (dC, dI) vwCl (tyl kA) U ∧ EVS adK adV (gA G H0.size) U U.heap)) (va_Qi (fun (r : Int32) (u : Unit) => True) (fun (_ : Unit) (t : State) => gH (dC, dI) kA (SHm q (wP wZ wN wH wB wC wL wK wU wV) PI im PM PT lS lB lE lN) G t.heap ∧ gF (dC, dI) SKm G ([(0, 0)] : List (Nat × Nat)) H0 t.heap) (gA G H0.size)) 0 0 (gA G H0.size) := by
  refine Met.ofW (cc := cX12_square) (maxL := 3) (ret := (some .int)) (by decide) rfl ?_
  intro p e s m args below meth c s₁ B hml hv
  obtain ⟨rfl, hH0, hK, hE⟩ := hv
  have hx := B.exec
  have hb := B.bytes
  have hr := B.returns
  have hts := atoms_spec (ws := w_s_square) B.pre
  have hown : s.vm.findClass RX12 = some m.cls := findClass_of_methodNamed B.named
  have hlocks := B.notSynchronized
  subst hH0
  generalize hAe : gA G s.heap.size = A at hE ⊢
  have hA : ∀ q : Nat, s.heap.size ≤ q → A q := fun q h => by rw [← hAe]; exact Or.inr h
  have hG := gA_of hAe
  have hS : va_S A s.heap s.heap [] := va_S.rf
  have hF : gF (dC, dI) SKm G ([(0, 0)] : List (Nat × Nat)) s.heap s.heap := gF.rf
  have hl := lv_entry ([.ref o0, .int p0, .int p1]) (n := 3) (Nat.le_of_ble_eq_true rfl)
  rw [lg_entry_eq]
  generalize (lg_sl ([.ref o0, .int p0, .int p1]) ++ List.replicate (3 - (lg_sl ([.ref o0, .int p0, .int p1])).length) Slot.unset).toArray = ls at hl ⊢
  have hl : lv_has ls 3 [(0, .ref o0), (1, .int p0), (2, .int p1)] := hl
  refine lv_aload_n hx hb dX12_square_0 rfl (lv_at hl 0 rfl) ?_
  refine lv_iconst (v := 0) hx hb dX12_square_1 (by decide) ?_
  refine tw_put (v := .int 0) (ty := .int) hx hb hts bF_X12 tyX12 tyX12_ok nmX12 hown hK hT hG hS hr_o0 shm_0 rfl 0 (by decide) (ht_at hts 0 rfl) (fun _ h9 => h9) rfl (by decide +kernel) rfl rfl (gl_at rfl (gi_all _)) dX12_square_2 (fun H locs hT oq m1 oj hS => ?_)
  have hF := hF.put hr_o0 skm_0 oq oj (by decide)
  refine lv_aload_n hx hb dX12_square_5 rfl (lv_at hl 0 rfl) ?_
  refine lv_iload_n hx hb dX12_square_6 rfl (lv_at hl 1 rfl) ?_
  have hFc := gA_free hG hA hS
  refine va_calli (va_runS (As := [.int p0]) (rest := [.ref o0]) ⟨hx, hb, hml, hown, hts⟩ (s_noSquare l dC dI kA adK adV G H q wZ wN wH wB wC wL wK wU wV PI im PM PT lS lB lE lN p0 hT hgz hgn hgh hgb hgc hgi hgu) (va_cwS 1 hts (goodIn_app (goodIn_r _ [7, 8, 6] rfl (by decide +kernel)) (goodIn_ca (goodIn_r _ [2, 3, 4, 5, 6] rfl (by decide +kernel)) (bs_in _ _))) rfl rfl rfl (by decide +kernel) ⟨(Nat.le_of_ble_eq_true rfl), (Nat.le_of_ble_eq_true rfl)⟩) ⟨fun a U g mk q => by obtain ⟨q0, q1, qK, qE⟩ := q; exact ⟨q0, q1, va_K.moved (u := U) (U := U.calling g mk a) (Vm.Alike.refl U.vm) qK, EVS.blind g mk a qE⟩, fun U hU hW => ⟨rfl, hU, va_K.moved hW.alike hK, hE.call hS hFc hU hW⟩⟩ rfl rfl hl.1 rfl (lv_room (Nat.le_of_ble_eq_true rfl)) dX12_square_7 ⟨(Nat.le_of_ble_eq_true rfl), (Nat.le_of_ble_eq_true rfl)⟩) hS (fun q _ h => hFc q h) hFc (fun r2 u t H locs ht hvm hw3 hB _ _ hS => ?_)
  obtain ⟨hT, hF1⟩ := hB
  rw [ht] at hT hF1
  have hF := hF.more hF1 (by decide)
  try dsimp only at hw3
  obtain ⟨h5, hi6⟩ := hw3
  refine lv_iconst (v := 1) hx hb dX12_square_10 (by decide) ?_
  have hFc := gA_free hG hA hS
  refine va_calli (va_runV (As := [.int r2, .int 1]) (rest := []) ⟨hx, hb, hml, hown, hts⟩ (s_throwsIf l dC dI kA adK adV G H q wZ wN wH wB wC wL wK wU wV PI im PM PT lS lB lE lN o0 r2 1 hT hr_o0 (by have q8 := ti_all r2; omega) hgz hgn hgh hgb hgc hgi hgu) (cwV 2 hts (goodIn_app (goodIn_r _ [10, 11, 12, 6] rfl (by decide +kernel)) (goodIn_ca (goodIn_r _ [9, 1] rfl (by decide +kernel)) (bs_in _ _))) rfl rfl rfl (by decide +kernel) ⟨(Nat.le_of_ble_eq_true rfl), (Nat.le_of_ble_eq_true rfl)⟩) ⟨fun a U g mk q => by obtain ⟨q0, q1, qK, qE⟩ := q; exact ⟨q0, q1, va_K.moved (u := U) (U := U.calling g mk a) (Vm.Alike.refl U.vm) qK, EVS.blind g mk a qE⟩, gH_rc hK hT hr_o0 shm_0 rfl, fun U hU hW => ⟨rfl, hU, va_K.moved hW.alike hK, hE.call hS hFc hU hW⟩⟩ rfl rfl hl.1 rfl (lv_room (Nat.le_of_ble_eq_true rfl)) dX12_square_11 ⟨(Nat.le_of_ble_eq_true rfl), (Nat.le_of_ble_eq_true rfl)⟩) hS (fun q _ h => hFc q h) hFc (fun r7 u t H locs ht hvm hw8 hB _ _ hS => ?_)
  obtain ⟨hT, hF1⟩ := hB
  rw [ht] at hT hF1
  have hF := hF.more hF1 (by decide)
  try dsimp only at hw8
  obtain ⟨h10, hd11⟩ := hw8
  obtain rfl : r2 = r7 := hd11.symm
  refine lv_if_eq (tgt := 19) hx hb dX12_square_14 (by decide) (fun c12 => ?_) (fun c12 => ?_)
  · have t13 : r2.toInt = 0 := ti_eq c12 rfl (by decide)
    have t14 : 0 ≤ p0.toInt ∧ p0.toInt ≤ 95 := hi6 c12
    refine lv_iload_n hx hb dX12_square_19 rfl (lv_at hl 2 rfl) ?_
    by_cases hs15 : p1 = 0
    · subst hs15
      refine lv_tableIn (x := 0) (off := 60) (tgt := 80) hx hb dX12_square_20 (by decide) (by decide) (by decide) (by decide) ?_
      refine lv_aload_n hx hb dX12_square_80 rfl (lv_at hl 0 rfl) ?_
      refine tw_get hx hb hts bF_X12 hown hK hT hr_o0 shm_0 rfl 1 (by decide) (ht_at hts 12 rfl) (fun _ h9 => h9) dX12_square_81 (fun v9 m16 h9 => ?_)
      obtain ⟨rfl, hg17⟩ := h9 _ rfl
      refine lv_iconst (v := 0) hx hb dX12_square_84 (by decide) ?_
      refine lv_iload_n hx hb dX12_square_85 rfl (lv_at hl 1 rfl) ?_
      refine lv_iadd hx hb dX12_square_86 ?_
      refine lv_topi (fun x18 ex18 => ?_)
      have t19 : x18.toInt = 0 + p0.toInt := ti_add ex18 (by decide) rfl (by omega) (by omega)
      refine tw_iald (i := x18) hx hb hK hT hg17 shm_2 rfl (vin_t (a := x18.toInt) rfl (by omega) (by omega)) dX12_square_87 (fun v9 m20 h9 => ?_)
      obtain ⟨x21, rfl, gx21, kx21⟩ := (gp_at h9 (w_fre (by have q9 := tn_of (show x18.toInt = x18.toInt from rfl) (show (0 : Int) ≤ x18.toInt from by omega); omega)))
      exact W.iret (v := x21) hx hb hr (fun t ht hW => ⟨⟨x21, (), rfl, (by exact trivial), by (try dsimp only); rw [ht]; exact ⟨hT, hF⟩⟩, hS.F ht⟩) hS.2.2 dX12_square_88
    by_cases hs22 : p1 = 1
    · subst hs22
      refine lv_tableIn (x := 1) (off := 69) (tgt := 89) hx hb dX12_square_20 (by decide) (by decide) (by decide) (by decide) ?_
      refine lv_aload_n hx hb dX12_square_89 rfl (lv_at hl 0 rfl) ?_
      refine tw_get hx hb hts bF_X12 hown hK hT hr_o0 shm_0 rfl 1 (by decide) (ht_at hts 12 rfl) (fun _ h9 => h9) dX12_square_90 (fun v9 m23 h9 => ?_)
      obtain ⟨rfl, hg24⟩ := h9 _ rfl
      refine lv_bipush (v := 96) hx hb dX12_square_93 (by decide) ?_
      refine lv_iload_n hx hb dX12_square_95 rfl (lv_at hl 1 rfl) ?_
      refine lv_iadd hx hb dX12_square_96 ?_
      refine lv_topi (fun x25 ex25 => ?_)
      have t26 : x25.toInt = 96 + p0.toInt := ti_add ex25 (by decide) rfl (by omega) (by omega)
      refine tw_iald (i := x25) hx hb hK hT hg24 shm_2 rfl (vin_t (a := x25.toInt) rfl (by omega) (by omega)) dX12_square_97 (fun v9 m27 h9 => ?_)
      obtain ⟨x28, rfl, gx28, kx28⟩ := (gp_at h9 (w_hgt (by have q9 := tn_of (show x25.toInt = x25.toInt from rfl) (show (0 : Int) ≤ x25.toInt from by omega); omega)))
      exact W.iret (v := x28) hx hb hr (fun t ht hW => ⟨⟨x28, (), rfl, (by exact trivial), by (try dsimp only); rw [ht]; exact ⟨hT, hF⟩⟩, hS.F ht⟩) hS.2.2 dX12_square_98
    by_cases hs29 : p1 = 2
    · subst hs29
      refine lv_tableIn (x := 2) (off := 79) (tgt := 99) hx hb dX12_square_20 (by decide) (by decide) (by decide) (by decide) ?_
      refine lv_aload_n hx hb dX12_square_99 rfl (lv_at hl 0 rfl) ?_
      refine tw_get hx hb hts bF_X12 hown hK hT hr_o0 shm_0 rfl 1 (by decide) (ht_at hts 12 rfl) (fun _ h9 => h9) dX12_square_100 (fun v9 m30 h9 => ?_)
      obtain ⟨rfl, hg31⟩ := h9 _ rfl
      refine lv_sipush (v := 192) hx hb dX12_square_103 (by decide) ?_
      refine lv_iload_n hx hb dX12_square_106 rfl (lv_at hl 1 rfl) ?_
      refine lv_iadd hx hb dX12_square_107 ?_
      refine lv_topi (fun x32 ex32 => ?_)
      have t33 : x32.toInt = 192 + p0.toInt := ti_add ex32 (by decide) rfl (by omega) (by omega)
      refine tw_iald (i := x32) hx hb hK hT hg31 shm_2 rfl (vin_t (a := x32.toInt) rfl (by omega) (by omega)) dX12_square_108 (fun v9 m34 h9 => ?_)
      obtain ⟨x35, rfl, gx35, kx35⟩ := (gp_at h9 (w_fre (by have q9 := tn_of (show x32.toInt = x32.toInt from rfl) (show (0 : Int) ≤ x32.toInt from by omega); omega)))
      exact W.iret (v := x35) hx hb hr (fun t ht hW => ⟨⟨x35, (), rfl, (by exact trivial), by (try dsimp only); rw [ht]; exact ⟨hT, hF⟩⟩, hS.F ht⟩) hS.2.2 dX12_square_109
    by_cases hs36 : p1 = 3
    · subst hs36
      refine lv_tableIn (x := 3) (off := 90) (tgt := 110) hx hb dX12_square_20 (by decide) (by decide) (by decide) (by decide) ?_
      refine lv_aload_n hx hb dX12_square_110 rfl (lv_at hl 0 rfl) ?_
      refine tw_get hx hb hts bF_X12 hown hK hT hr_o0 shm_0 rfl 1 (by decide) (ht_at hts 12 rfl) (fun _ h9 => h9) dX12_square_111 (fun v9 m37 h9 => ?_)
      obtain ⟨rfl, hg38⟩ := h9 _ rfl
      refine lv_sipush (v := 288) hx hb dX12_square_114 (by decide) ?_
      refine lv_iload_n hx hb dX12_square_117 rfl (lv_at hl 1 rfl) ?_
      refine lv_iadd hx hb dX12_square_118 ?_
      refine lv_topi (fun x39 ex39 => ?_)
      have t40 : x39.toInt = 288 + p0.toInt := ti_add ex39 (by decide) rfl (by omega) (by omega)
      refine tw_iald (i := x39) hx hb hK hT hg38 shm_2 rfl (vin_t (a := x39.toInt) rfl (by omega) (by omega)) dX12_square_119 (fun v9 m41 h9 => ?_)
      obtain ⟨x42, rfl, gx42, kx42⟩ := (gp_at h9 (w_dit (by have q9 := tn_of (show x39.toInt = x39.toInt from rfl) (show (0 : Int) ≤ x39.toInt from by omega); omega)))
      exact W.iret (v := x42) hx hb hr (fun t ht hW => ⟨⟨x42, (), rfl, (by exact trivial), by (try dsimp only); rw [ht]; exact ⟨hT, hF⟩⟩, hS.F ht⟩) hS.2.2 dX12_square_120
    by_cases hs43 : p1 = 4
    · subst hs43
      refine lv_tableIn (x := 4) (off := 101) (tgt := 121) hx hb dX12_square_20 (by decide) (by decide) (by decide) (by decide) ?_
      refine lv_aload_n hx hb dX12_square_121 rfl (lv_at hl 0 rfl) ?_
      refine tw_get hx hb hts bF_X12 hown hK hT hr_o0 shm_0 rfl 1 (by decide) (ht_at hts 12 rfl) (fun _ h9 => h9) dX12_square_122 (fun v9 m44 h9 => ?_)
      obtain ⟨rfl, hg45⟩ := h9 _ rfl
      refine lv_sipush (v := 384) hx hb dX12_square_125 (by decide) ?_
      refine lv_iload_n hx hb dX12_square_128 rfl (lv_at hl 1 rfl) ?_
      refine lv_iadd hx hb dX12_square_129 ?_
      refine lv_topi (fun x46 ex46 => ?_)
      have t47 : x46.toInt = 384 + p0.toInt := ti_add ex46 (by decide) rfl (by omega) (by omega)
      refine tw_iald (i := x46) hx hb hK hT hg45 shm_2 rfl (vin_t (a := x46.toInt) rfl (by omega) (by omega)) dX12_square_130 (fun v9 m48 h9 => ?_)
      obtain ⟨x49, rfl, gx49, kx49⟩ := (gw_at h9 (w_wat (by have q9 := tn_of (show x46.toInt = x46.toInt from rfl) (show (0 : Int) ≤ x46.toInt from by omega); omega)) hgn hgz)
      exact W.iret (v := x49) hx hb hr (fun t ht hW => ⟨⟨x49, (), rfl, (by exact trivial), by (try dsimp only); rw [ht]; exact ⟨hT, hF⟩⟩, hS.F ht⟩) hS.2.2 dX12_square_131
    by_cases hs50 : p1 = 5
    · subst hs50
      refine lv_tableIn (x := 5) (off := 112) (tgt := 132) hx hb dX12_square_20 (by decide) (by decide) (by decide) (by decide) ?_
      refine lv_aload_n hx hb dX12_square_132 rfl (lv_at hl 0 rfl) ?_
      refine tw_get hx hb hts bF_X12 hown hK hT hr_o0 shm_0 rfl 1 (by decide) (ht_at hts 12 rfl) (fun _ h9 => h9) dX12_square_133 (fun v9 m51 h9 => ?_)
      obtain ⟨rfl, hg52⟩ := h9 _ rfl
      refine lv_sipush (v := 480) hx hb dX12_square_136 (by decide) ?_
      refine lv_iload_n hx hb dX12_square_139 rfl (lv_at hl 1 rfl) ?_
      refine lv_iadd hx hb dX12_square_140 ?_
      refine lv_topi (fun x53 ex53 => ?_)
      have t54 : x53.toInt = 480 + p0.toInt := ti_add ex53 (by decide) rfl (by omega) (by omega)
      refine tw_iald (i := x53) hx hb hK hT hg52 shm_2 rfl (vin_t (a := x53.toInt) rfl (by omega) (by omega)) dX12_square_141 (fun v9 m55 h9 => ?_)
      obtain ⟨x56, rfl, gx56, kx56⟩ := (gp_at h9 (w_fre (by have q9 := tn_of (show x53.toInt = x53.toInt from rfl) (show (0 : Int) ≤ x53.toInt from by omega); omega)))
      exact W.iret (v := x56) hx hb hr (fun t ht hW => ⟨⟨x56, (), rfl, (by exact trivial), by (try dsimp only); rw [ht]; exact ⟨hT, hF⟩⟩, hS.F ht⟩) hS.2.2 dX12_square_142
    by_cases hs57 : p1 = 6
    · subst hs57
      refine lv_tableIn (x := 6) (off := 123) (tgt := 143) hx hb dX12_square_20 (by decide) (by decide) (by decide) (by decide) ?_
      refine lv_aload_n hx hb dX12_square_143 rfl (lv_at hl 0 rfl) ?_
      refine lv_iload_n hx hb dX12_square_144 rfl (lv_at hl 1 rfl) ?_
      have hFc := gA_free hG hA hS
      refine va_calli (va_runV (As := [.int p0]) (rest := []) ⟨hx, hb, hml, hown, hts⟩ (s_level l dC dI kA adK adV G H q wZ wN wH wB wC wL wK wU wV PI im PM PT lS lB lE lN o0 p0 hT hr_o0 (by have q8 := ti_all p0; omega) hgz hgn hgh hgb hgc hgi hgu) (cwV 1 hts (goodIn_app (goodIn_r _ [27, 28, 29, 6] rfl (by decide +kernel)) (goodIn_ca (goodIn_r _ [14, 15, 13, 16, 17, 18, 6, 19, 20, 21, 22, 23, 3, 4, 5, 24, 25, 26] rfl (by decide +kernel)) (bs_in _ _))) rfl rfl rfl (by decide +kernel) ⟨(Nat.le_of_ble_eq_true rfl), (Nat.le_of_ble_eq_true rfl)⟩) ⟨fun a U g mk q => by obtain ⟨q0, q1, qK, qE⟩ := q; exact ⟨q0, q1, va_K.moved (u := U) (U := U.calling g mk a) (Vm.Alike.refl U.vm) qK, EVS.blind g mk a qE⟩, gH_rc hK hT hr_o0 shm_0 rfl, fun U hU hW => ⟨rfl, hU, va_K.moved hW.alike hK, hE.call hS hFc hU hW⟩⟩ rfl rfl hl.1 rfl (lv_room (Nat.le_of_ble_eq_true rfl)) dX12_square_145 ⟨(Nat.le_of_ble_eq_true rfl), (Nat.le_of_ble_eq_true rfl)⟩) hS (fun q _ h => hFc q h) hFc (fun r58 u t H locs ht hvm hw59 hB _ _ hS => ?_)
      obtain ⟨hT, hF1⟩ := hB
      rw [ht] at hT hF1
      have hF := hF.more hF1 (by decide)
      try dsimp only at hw59
      have h60 := hw59
      exact W.iret (v := r58) hx hb hr (fun t ht hW => ⟨⟨r58, (), rfl, (by exact trivial), by (try dsimp only); rw [ht]; exact ⟨hT, hF⟩⟩, hS.F ht⟩) hS.2.2 dX12_square_148
    by_cases hs61 : p1 = 7
    · subst hs61
      refine lv_tableIn (x := 7) (off := 129) (tgt := 149) hx hb dX12_square_20 (by decide) (by decide) (by decide) (by decide) ?_
      refine lv_aload_n hx hb dX12_square_149 rfl (lv_at hl 0 rfl) ?_
      refine tw_get hx hb hts bF_X12 hown hK hT hr_o0 shm_0 rfl 1 (by decide) (ht_at hts 12 rfl) (fun _ h9 => h9) dX12_square_150 (fun v9 m62 h9 => ?_)
      obtain ⟨rfl, hg63⟩ := h9 _ rfl
      refine lv_sipush (v := 576) hx hb dX12_square_153 (by decide) ?_
      refine lv_iload_n hx hb dX12_square_156 rfl (lv_at hl 1 rfl) ?_
      refine lv_iadd hx hb dX12_square_157 ?_
      refine lv_topi (fun x64 ex64 => ?_)
      have t65 : x64.toInt = 576 + p0.toInt := ti_add ex64 (by decide) rfl (by omega) (by omega)
      refine tw_iald (i := x64) hx hb hK hT hg63 shm_2 rfl (vin_t (a := x64.toInt) rfl (by omega) (by omega)) dX12_square_158 (fun v9 m66 h9 => ?_)
      obtain ⟨x67, rfl, gx67, kx67⟩ := (gp_at h9 (w_fre (by have q9 := tn_of (show x64.toInt = x64.toInt from rfl) (show (0 : Int) ≤ x64.toInt from by omega); omega)))
      exact W.iret (v := x67) hx hb hr (fun t ht hW => ⟨⟨x67, (), rfl, (by exact trivial), by (try dsimp only); rw [ht]; exact ⟨hT, hF⟩⟩, hS.F ht⟩) hS.2.2 dX12_square_159
    by_cases hs68 : p1 = 8
    · subst hs68
      refine lv_tableIn (x := 8) (off := 140) (tgt := 160) hx hb dX12_square_20 (by decide) (by decide) (by decide) (by decide) ?_
      refine lv_aload_n hx hb dX12_square_160 rfl (lv_at hl 0 rfl) ?_
      refine tw_get hx hb hts bF_X12 hown hK hT hr_o0 shm_0 rfl 1 (by decide) (ht_at hts 12 rfl) (fun _ h9 => h9) dX12_square_161 (fun v9 m69 h9 => ?_)
      obtain ⟨rfl, hg70⟩ := h9 _ rfl
      refine lv_sipush (v := 672) hx hb dX12_square_164 (by decide) ?_
      refine lv_iload_n hx hb dX12_square_167 rfl (lv_at hl 1 rfl) ?_
      refine lv_iadd hx hb dX12_square_168 ?_
      refine lv_topi (fun x71 ex71 => ?_)
      have t72 : x71.toInt = 672 + p0.toInt := ti_add ex71 (by decide) rfl (by omega) (by omega)
      refine tw_iald (i := x71) hx hb hK hT hg70 shm_2 rfl (vin_t (a := x71.toInt) rfl (by omega) (by omega)) dX12_square_169 (fun v9 m73 h9 => ?_)
      obtain ⟨x74, rfl, gx74, kx74⟩ := (gp_at h9 (w_fre (by have q9 := tn_of (show x71.toInt = x71.toInt from rfl) (show (0 : Int) ≤ x71.toInt from by omega); omega)))
      exact W.iret (v := x74) hx hb hr (fun t ht hW => ⟨⟨x74, (), rfl, (by exact trivial), by (try dsimp only); rw [ht]; exact ⟨hT, hF⟩⟩, hS.F ht⟩) hS.2.2 dX12_square_170
    by_cases hs75 : p1 = 9
    · subst hs75
      refine lv_tableIn (x := 9) (off := 151) (tgt := 171) hx hb dX12_square_20 (by decide) (by decide) (by decide) (by decide) ?_
      refine lv_aload_n hx hb dX12_square_171 rfl (lv_at hl 0 rfl) ?_
      refine lv_iload_n hx hb dX12_square_172 rfl (lv_at hl 1 rfl) ?_
      have hFc := gA_free hG hA hS
      refine va_calli (va_runV (As := [.int p0]) (rest := []) ⟨hx, hb, hml, hown, hts⟩ (s_farmOf l dC dI kA adK adV G H q wZ wN wH wB wC wL wK wU wV PI im PM PT lS lB lE lN o0 p0 hT hr_o0 hgz hgn hgh hgb hgc hgi hgu) (cwV 1 hts (goodIn_app (goodIn_r _ [44, 45, 46, 6] rfl (by decide +kernel)) (goodIn_ca (goodIn_r _ [30, 31, 32, 33, 34, 35, 36, 37, 38, 39, 40, 41, 3, 4, 5, 6, 42, 43] rfl (by decide +kernel)) (bs_in _ _))) rfl rfl rfl (by decide +kernel) ⟨(Nat.le_of_ble_eq_true rfl), (Nat.le_of_ble_eq_true rfl)⟩) ⟨fun a U g mk q => by obtain ⟨q0, q1, qK, qE⟩ := q; exact ⟨q0, q1, va_K.moved (u := U) (U := U.calling g mk a) (Vm.Alike.refl U.vm) qK, EVS.blind g mk a qE⟩, gH_rc hK hT hr_o0 shm_0 rfl, fun U hU hW => ⟨rfl, hU, va_K.moved hW.alike hK, hE.call hS hFc hU hW⟩⟩ rfl rfl hl.1 rfl (lv_room (Nat.le_of_ble_eq_true rfl)) dX12_square_173 ⟨(Nat.le_of_ble_eq_true rfl), (Nat.le_of_ble_eq_true rfl)⟩) hS (fun q _ h => hFc q h) hFc (fun r76 u t H locs ht hvm hw77 hB _ _ hS => ?_)
      obtain ⟨hT, hF1⟩ := hB
      rw [ht] at hT hF1
      have hF := hF.more hF1 (by decide)
      try dsimp only at hw77
      have h78 := hw77
      exact W.iret (v := r76) hx hb hr (fun t ht hW => ⟨⟨r76, (), rfl, (by exact trivial), by (try dsimp only); rw [ht]; exact ⟨hT, hF⟩⟩, hS.F ht⟩) hS.2.2 dX12_square_176
    by_cases hs79 : p1 = 10
    · subst hs79
      refine lv_tableIn (x := 10) (off := 157) (tgt := 177) hx hb dX12_square_20 (by decide) (by decide) (by decide) (by decide) ?_
      refine lv_aload_n hx hb dX12_square_177 rfl (lv_at hl 0 rfl) ?_
      refine lv_iload_n hx hb dX12_square_178 rfl (lv_at hl 1 rfl) ?_
      have hFc := gA_free hG hA hS
      refine va_calli (va_runV (As := [.int p0]) (rest := []) ⟨hx, hb, hml, hown, hts⟩ (s_workOn l dC dI kA adK adV G H q wZ wN wH wB wC wL wK wU wV PI im PM PT lS lB lE lN o0 p0 hT hr_o0 hgz hgn hgh hgb hgc hgi hgu) (cwV 1 hts (goodIn_app (goodIn_r _ [55, 56, 57, 6] rfl (by decide +kernel)) (goodIn_ca (goodIn_r _ [47, 13, 48, 49, 50, 51, 6, 52, 53, 54] rfl (by decide +kernel)) (bs_in _ _))) rfl rfl rfl (by decide +kernel) ⟨(Nat.le_of_ble_eq_true rfl), (Nat.le_of_ble_eq_true rfl)⟩) ⟨fun a U g mk q => by obtain ⟨q0, q1, qK, qE⟩ := q; exact ⟨q0, q1, va_K.moved (u := U) (U := U.calling g mk a) (Vm.Alike.refl U.vm) qK, EVS.blind g mk a qE⟩, gH_rc hK hT hr_o0 shm_0 rfl, fun U hU hW => ⟨rfl, hU, va_K.moved hW.alike hK, hE.call hS hFc hU hW⟩⟩ rfl rfl hl.1 rfl (lv_room (Nat.le_of_ble_eq_true rfl)) dX12_square_179 ⟨(Nat.le_of_ble_eq_true rfl), (Nat.le_of_ble_eq_true rfl)⟩) hS (fun q _ h => hFc q h) hFc (fun r80 u t H locs ht hvm hw81 hB _ _ hS => ?_)
      obtain ⟨hT, hF1⟩ := hB
      rw [ht] at hT hF1
      have hF := hF.more hF1 (by decide)
      try dsimp only at hw81
      obtain ⟨h82, hf83⟩ := hw81
      exact W.iret (v := r80) hx hb hr (fun t ht hW => ⟨⟨r80, (), rfl, (by exact trivial), by (try dsimp only); rw [ht]; exact ⟨hT, hF⟩⟩, hS.F ht⟩) hS.2.2 dX12_square_182
    have ho84 : p1.toInt < 0 ∨ 10 < p1.toInt := by
      by_cases hz9 : p1.toInt < 0
      · exact Or.inl hz9
      have u9 : (0 : Int) ≤ p1.toInt := Int.not_lt.mp hz9
      have u9 := ll_nx (k1 := 1) u9 hs15 (by decide) (by decide)
      have u9 := ll_nx (k1 := 2) u9 hs22 (by decide) (by decide)
      have u9 := ll_nx (k1 := 3) u9 hs29 (by decide) (by decide)
      have u9 := ll_nx (k1 := 4) u9 hs36 (by decide) (by decide)
      have u9 := ll_nx (k1 := 5) u9 hs43 (by decide) (by decide)
      have u9 := ll_nx (k1 := 6) u9 hs50 (by decide) (by decide)
      have u9 := ll_nx (k1 := 7) u9 hs57 (by decide) (by decide)
      have u9 := ll_nx (k1 := 8) u9 hs61 (by decide) (by decide)
      have u9 := ll_nx (k1 := 9) u9 hs68 (by decide) (by decide)
      have u9 := ll_nx (k1 := 10) u9 hs75 (by decide) (by decide)
      have u9 := ll_nx (k1 := 11) u9 hs79 (by decide) (by decide)
      exact Or.inr (Int.lt_of_lt_of_le (by decide) u9)
    refine lv_tableOut (tgt := 183) hx hb dX12_square_20 ho84 (by decide) ?_
    refine lv_aload_n hx hb dX12_square_183 rfl (lv_at hl 0 rfl) ?_
    refine lv_iconst (v := 2) hx hb dX12_square_184 (by decide) ?_
    refine tw_put (v := .int 2) (ty := .int) hx hb hts bF_X12 tyX12 tyX12_ok nmX12 hown hK hT hG hS hr_o0 shm_0 rfl 0 (by decide) (ht_at hts 0 rfl) (fun _ h9 => h9) rfl (by decide +kernel) rfl rfl (gl_at rfl (gi_all _)) dX12_square_185 (fun H locs hT oq m85 oj hS => ?_)
    have hF := hF.put hr_o0 skm_0 oq oj (by decide)
    refine lv_iconst (v := 0) hx hb dX12_square_188 (by decide) ?_
    exact W.iret (v := 0) hx hb hr (fun t ht hW => ⟨⟨0, (), rfl, (by exact trivial), by (try dsimp only); rw [ht]; exact ⟨hT, hF⟩⟩, hS.F ht⟩) hS.2.2 dX12_square_189
  · have t86 : r2.toInt ≠ 0 := ti_ne c12 rfl (by decide)
    refine lv_iconst (v := 0) hx hb dX12_square_17 (by decide) ?_
    exact W.iret (v := 0) hx hb hr (fun t ht hW => ⟨⟨0, (), rfl, (by exact trivial), by (try dsimp only); rw [ht]; exact ⟨hT, hF⟩⟩, hS.F ht⟩) hS.2.2 dX12_square_18
