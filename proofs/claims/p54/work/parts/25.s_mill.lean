def w_s_mill : List Cond := .code yX12_mill cX12_mill 5 (some .int) :: (HAppend.hAppend (α := List Cond) (β := List Cond) (γ := List Cond) [.fieldLink RX12 194 "SeaLandModel" "thrown" "I", .code yX12_noSquare cX12_noSquare 1 (some .boolean), .code yX12_in cX12_in 3 (some .boolean), .methodLink RX12 197 yX12_in, .static yX12_in, .initialized RX12, .methodLink RX12 220 yX12_noSquare, .static yX12_noSquare, .code yX12_throwsIf cX12_throwsIf 3 (some .boolean), .methodLink RX12 224 yX12_throwsIf, .instanceMethod yX12_throwsIf, .selects RX12 yX12_throwsIf yX12_throwsIf, .fieldLink RX12 9 "SeaLandModel" "world" "[I", .code yX12_noPlace cX12_noPlace 2 (some .boolean), .code yX12_isLand cX12_isLand 2 (some .boolean), .methodLink RX12 235 yX12_isLand, .instanceMethod yX12_isLand, .selects RX12 yX12_isLand yX12_isLand, .code yX12_workOn cX12_workOn 3 (some .int), .code yX12_of cX12_of 3 (some .int), .code yX12_at cX12_at 2 (some .int), .methodLink RX12 214 yX12_at, .static yX12_at, .methodLink RX12 217 yX12_of, .instanceMethod yX12_of, .selects RX12 yX12_of yX12_of, .methodLink RX12 256 yX12_workOn, .instanceMethod yX12_workOn, .selects RX12 yX12_workOn yX12_workOn, .methodLink RX12 259 yX12_noPlace, .instanceMethod yX12_noPlace, .selects RX12 yX12_noPlace yX12_noPlace, .code yX12_steps cX12_steps 2 (some .int), .methodLink RX12 201 Lib.Math.abs.name, .static Lib.Math.abs.name, .initialized "java/lang/Math", .code Lib.Math.abs.name Lib.Math.abs.code 1 (some .int), .methodLink RX12 262 yX12_steps, .static yX12_steps, .code yX12_mayBuildOn cX12_mayBuildOn 5 (some .boolean), .code yX12_lastOf cX12_lastOf 5 (some .int), .fieldLink RX12 42 "SeaLandModel" "lines" "[I", .fieldLink RX12 45 "SeaLandModel" "sort" "[I", .fieldLink RX12 48 "SeaLandModel" "told" "[I", .methodLink RX12 492 yX12_lastOf, .instanceMethod yX12_lastOf, .selects RX12 yX12_lastOf yX12_lastOf, .code yX12_isDike cX12_isDike 2 (some .boolean), .methodLink RX12 272 yX12_isDike, .instanceMethod yX12_isDike, .selects RX12 yX12_isDike yX12_isDike, .methodLink RX12 279 yX12_mayBuildOn, .instanceMethod yX12_mayBuildOn, .selects RX12 yX12_mayBuildOn yX12_mayBuildOn, .code yX12_builds cX12_builds 8 (some .int), .fieldLink RX12 238 "SeaLandModel" "rows" "I", .methodLink RX12 265 yX12_builds, .instanceMethod yX12_builds, .selects RX12 yX12_builds yX12_builds] bs)
set_option maxHeartbeats 4000000 in
set_option maxRecDepth 100000 in
theorem s_mill (l : Launch) (dC : Nat → ClassId) (dI : Nat → Nat → Nat) (kA : Nat → ClassId) (adK adV : Nat → Nat) (G : gT) (H0 : Heap) (q : Nat → Nat) (wZ wN : Nat → Int) (wH wB wC : Int) (wL wK : Nat → Prop) (wU wV : Nat → Nat) (PI : Nat → Int → Prop) (im : Int) (PM PT : Nat → Int → Prop) (lS lB lE : Nat → Nat → Int → Prop) (lN : Nat → Int) (o0 : Nat) (p0 : Int32) (p1 : Int32) (p2 : Int32) (p3 : Int32)  (hT : gH (dC, dI) kA (SHm q (wP wZ wN wH wB wC wL wK wU wV) PI im PM PT lS lB lE lN) G H0) (hr_o0 : G o0 = some 0) (hq0 : 0 ≤ p3.toInt ∧ p3.toInt ≤ 1) (hgw : wG wC wL wK wU wV) (hgz : ∀ i, 0 ≤ wZ i) (hgn : ∀ i, 6500000 ≤ wN i ∧ wN i ≤ 20200000) (hgh : 0 ≤ wH ∧ wH ≤ 40000) (hgb : 0 ≤ wB ∧ wB ≤ 3850000) (hgc : 0 ≤ wC ∧ wC ≤ 30) (hgi : 0 ≤ im ∧ im ≤ 1) (hgu : ∀ a t, G a = some (t + 1) → a = q t) : Met l yX12_mill w_s_mill ({ frames := 4, cells := 0, slots := 0, locals := 88 }) (va_Pc [.ref o0, .int p0, .int p1, .int p2, .int p3] (fun U => U.heap = H0 ∧ va_K (dC, dI) vwCl (tyl kA) U ∧ EVS adK adV (gA G H0.size) U U.heap)) (va_Qi (fun (r : Int32) (u : Int × (Nat → Prop) × (Nat → Nat) × (Nat → Nat)) => match u with | (wC1, wK1, wU1, wV1) => (-1 ≤ r.toInt ∧ r.toInt ≤ 29) ∧ (wG wC1 wL wK1 wU1 wV1 ∧ 0 ≤ wC1 ∧ wC1 ≤ 30)) (fun (u : Int × (Nat → Prop) × (Nat → Nat) × (Nat → Nat)) (t : State) => match u with | (wC1, wK1, wU1, wV1) => gH (dC, dI) kA (SHm q (wP wZ wN wH wB wC1 wL wK1 wU1 wV1) PI im PM PT lS lB lE lN) G t.heap ∧ gF (dC, dI) SKm G ([(0, 0), (0, 9), (2, 0)] : List (Nat × Nat)) H0 t.heap) (gA G H0.size)) 0 0 (gA G H0.size) := by
  refine Met.ofW (cc := cX12_mill) (maxL := 5) (ret := (some .int)) (by decide) rfl ?_
  intro p e s m args below meth c s₁ B hml hv
  obtain ⟨rfl, hH0, hK, hE⟩ := hv
  have hx := B.exec
  have hb := B.bytes
  have hr := B.returns
  have hts := atoms_spec (ws := w_s_mill) B.pre
  have hown : s.vm.findClass RX12 = some m.cls := findClass_of_methodNamed B.named
  have hlocks := B.notSynchronized
  subst hH0
  generalize hAe : gA G s.heap.size = A at hE ⊢
  have hA : ∀ q : Nat, s.heap.size ≤ q → A q := fun q h => by rw [← hAe]; exact Or.inr h
  have hG := gA_of hAe
  have hS : va_S A s.heap s.heap [] := va_S.rf
  have hF : gF (dC, dI) SKm G ([(0, 0), (0, 9), (2, 0)] : List (Nat × Nat)) s.heap s.heap := gF.rf
  have hl := lv_entry ([.ref o0, .int p0, .int p1, .int p2, .int p3]) (n := 5) (Nat.le_of_ble_eq_true rfl)
  rw [lg_entry_eq]
  generalize (lg_sl ([.ref o0, .int p0, .int p1, .int p2, .int p3]) ++ List.replicate (5 - (lg_sl ([.ref o0, .int p0, .int p1, .int p2, .int p3])).length) Slot.unset).toArray = ls at hl ⊢
  have hl : lv_has ls 5 [(0, .ref o0), (1, .int p0), (2, .int p1), (3, .int p2), (4, .int p3)] := hl
  refine lv_aload_n hx hb dX12_mill_0 rfl (lv_at hl 0 rfl) ?_
  refine lv_iconst (v := 0) hx hb dX12_mill_1 (by decide) ?_
  refine tw_put (v := .int 0) (ty := .int) hx hb hts bF_X12 tyX12 tyX12_ok nmX12 hown hK hT hG hS hr_o0 shm_0 rfl 0 (by decide) (ht_at hts 0 rfl) (fun _ h9 => h9) rfl (by decide +kernel) rfl rfl (gl_at rfl (gi_all _)) dX12_mill_2 (fun H locs hT oq m1 oj hS => ?_)
  have hF := hF.put hr_o0 skm_0 oq oj (by decide)
  refine lv_aload_n hx hb dX12_mill_5 rfl (lv_at hl 0 rfl) ?_
  refine lv_iload_n hx hb dX12_mill_6 rfl (lv_at hl 1 rfl) ?_
  have hFc := gA_free hG hA hS
  refine va_calli (va_runS (As := [.int p0]) (rest := [.ref o0]) ⟨hx, hb, hml, hown, hts⟩ (s_noSquare l dC dI kA adK adV G H q wZ wN wH wB wC wL wK wU wV PI im PM PT lS lB lE lN p0 hT hgz hgn hgh hgb hgc hgi hgu) (va_cwS 1 hts (goodIn_app (goodIn_r _ [7, 8, 6] rfl (by decide +kernel)) (goodIn_ca (goodIn_r _ [2, 3, 4, 5, 6] rfl (by decide +kernel)) (bs_in _ _))) rfl rfl rfl (by decide +kernel) ⟨(Nat.le_of_ble_eq_true rfl), (Nat.le_of_ble_eq_true rfl)⟩) ⟨fun a U g mk q => by obtain ⟨q0, q1, qK, qE⟩ := q; exact ⟨q0, q1, va_K.moved (u := U) (U := U.calling g mk a) (Vm.Alike.refl U.vm) qK, EVS.blind g mk a qE⟩, fun U hU hW => ⟨rfl, hU, va_K.moved hW.alike hK, hE.call hS hFc hU hW⟩⟩ rfl rfl hl.1 rfl (lv_room (Nat.le_of_ble_eq_true rfl)) dX12_mill_7 ⟨(Nat.le_of_ble_eq_true rfl), (Nat.le_of_ble_eq_true rfl)⟩) hS (fun q _ h => hFc q h) hFc (fun r2 u t H locs ht hvm hw3 hB _ _ hS => ?_)
  obtain ⟨hT, hF1⟩ := hB
  rw [ht] at hT hF1
  have m4 := (hF1.fld hr_o0 skm_0 (k := 0) (by decide) (by decide)).trans m1
  have hF := hF.more hF1 (by decide)
  try dsimp only at hw3
  obtain ⟨h5, hi6⟩ := hw3
  refine lv_if_ne (tgt := 20) hx hb dX12_mill_10 (by decide) (fun c7 => ?_) (fun c7 => ?_)
  · have t8 : r2.toInt ≠ 0 := ti_ne c7 rfl (by decide)
    refine lv_iconst (v := 1) hx hb dX12_mill_20 (by decide) ?_
    refine lv_goto (tgt := 25) hx hb dX12_mill_21 (by decide) ?_
    refine lv_iconst (v := 1) hx hb dX12_mill_25 (by decide) ?_
    have hFc := gA_free hG hA hS
    refine va_calli (va_runV (As := [.int 1, .int 1]) (rest := []) ⟨hx, hb, hml, hown, hts⟩ (s_throwsIf l dC dI kA adK adV G H q wZ wN wH wB wC wL wK wU wV PI im PM PT lS lB lE lN o0 1 1 hT hr_o0 (rg_t (a := 1) (by decide) (by first | decide | omega) (by first | decide | omega)) hgz hgn hgh hgb hgc hgi hgu) (cwV 2 hts (goodIn_app (goodIn_r _ [10, 11, 12, 6] rfl (by decide +kernel)) (goodIn_ca (goodIn_r _ [9, 1] rfl (by decide +kernel)) (bs_in _ _))) rfl rfl rfl (by decide +kernel) ⟨(Nat.le_of_ble_eq_true rfl), (Nat.le_of_ble_eq_true rfl)⟩) ⟨fun a U g mk q => by obtain ⟨q0, q1, qK, qE⟩ := q; exact ⟨q0, q1, va_K.moved (u := U) (U := U.calling g mk a) (Vm.Alike.refl U.vm) qK, EVS.blind g mk a qE⟩, gH_rc hK hT hr_o0 shm_0 rfl, fun U hU hW => ⟨rfl, hU, va_K.moved hW.alike hK, hE.call hS hFc hU hW⟩⟩ rfl rfl hl.1 rfl (lv_room (Nat.le_of_ble_eq_true rfl)) dX12_mill_26 ⟨(Nat.le_of_ble_eq_true rfl), (Nat.le_of_ble_eq_true rfl)⟩) hS (fun q _ h => hFc q h) hFc (fun r9 u t H locs ht hvm hw10 hB _ _ hS => ?_)
    obtain ⟨hT, hF1⟩ := hB
    rw [ht] at hT hF1
    have hF := hF.more hF1 (by decide)
    try dsimp only at hw10
    obtain ⟨h12, hd13⟩ := hw10
    obtain rfl : (1 : Int32) = r9 := hd13.symm
    refine lv_if_ne (tgt := 81) hx hb dX12_mill_29 (by decide) (fun c14 => ?_) (fun c14 => absurd c14 (by decide))
    refine lv_iconst (v := 0) hx hb dX12_mill_81 (by decide) ?_
    exact W.iret (v := 0) hx hb hr (fun t ht hW => ⟨⟨0, (wC, wK, wU, wV), rfl, (by exact ⟨(rg_t (a := 0) (by decide) (by first | decide | omega) (by first | decide | omega)), ⟨hgw, by omega, by omega⟩⟩), by (try dsimp only); rw [ht]; exact ⟨hT, hF⟩⟩, hS.F ht⟩) hS.2.2 dX12_mill_82
  · have t15 : r2.toInt = 0 := ti_eq c7 rfl (by decide)
    have t16 : 0 ≤ p0.toInt ∧ p0.toInt ≤ 95 := hi6 c7
    refine lv_iload_n hx hb dX12_mill_13 rfl (lv_at hl 2 rfl) ?_
    have hFc := gA_free hG hA hS
    refine va_calli (va_runS (As := [.int p1]) (rest := [.ref o0]) ⟨hx, hb, hml, hown, hts⟩ (s_noSquare l dC dI kA adK adV G H q wZ wN wH wB wC wL wK wU wV PI im PM PT lS lB lE lN p1 hT hgz hgn hgh hgb hgc hgi hgu) (va_cwS 1 hts (goodIn_app (goodIn_r _ [7, 8, 6] rfl (by decide +kernel)) (goodIn_ca (goodIn_r _ [2, 3, 4, 5, 6] rfl (by decide +kernel)) (bs_in _ _))) rfl rfl rfl (by decide +kernel) ⟨(Nat.le_of_ble_eq_true rfl), (Nat.le_of_ble_eq_true rfl)⟩) ⟨fun a U g mk q => by obtain ⟨q0, q1, qK, qE⟩ := q; exact ⟨q0, q1, va_K.moved (u := U) (U := U.calling g mk a) (Vm.Alike.refl U.vm) qK, EVS.blind g mk a qE⟩, fun U hU hW => ⟨rfl, hU, va_K.moved hW.alike hK, hE.call hS hFc hU hW⟩⟩ rfl rfl hl.1 rfl (lv_room (Nat.le_of_ble_eq_true rfl)) dX12_mill_14 ⟨(Nat.le_of_ble_eq_true rfl), (Nat.le_of_ble_eq_true rfl)⟩) hS (fun q _ h => hFc q h) hFc (fun r17 u t H locs ht hvm hw18 hB _ _ hS => ?_)
    obtain ⟨hT, hF1⟩ := hB
    rw [ht] at hT hF1
    have m19 := (hF1.fld hr_o0 skm_0 (k := 0) (by decide) (by decide)).trans m4
    have hF := hF.more hF1 (by decide)
    try dsimp only at hw18
    obtain ⟨h20, hi21⟩ := hw18
    refine lv_if_eq (tgt := 24) hx hb dX12_mill_17 (by decide) (fun c22 => ?_) (fun c22 => ?_)
    · have t23 : r17.toInt = 0 := ti_eq c22 rfl (by decide)
      have t24 : 0 ≤ p1.toInt ∧ p1.toInt ≤ 95 := hi21 c22
      refine lv_iconst (v := 0) hx hb dX12_mill_24 (by decide) ?_
      refine lv_iconst (v := 1) hx hb dX12_mill_25 (by decide) ?_
      have hFc := gA_free hG hA hS
      refine va_calli (va_runV (As := [.int 0, .int 1]) (rest := []) ⟨hx, hb, hml, hown, hts⟩ (s_throwsIf l dC dI kA adK adV G H q wZ wN wH wB wC wL wK wU wV PI im PM PT lS lB lE lN o0 0 1 hT hr_o0 (rg_t (a := 0) (by decide) (by first | decide | omega) (by first | decide | omega)) hgz hgn hgh hgb hgc hgi hgu) (cwV 2 hts (goodIn_app (goodIn_r _ [10, 11, 12, 6] rfl (by decide +kernel)) (goodIn_ca (goodIn_r _ [9, 1] rfl (by decide +kernel)) (bs_in _ _))) rfl rfl rfl (by decide +kernel) ⟨(Nat.le_of_ble_eq_true rfl), (Nat.le_of_ble_eq_true rfl)⟩) ⟨fun a U g mk q => by obtain ⟨q0, q1, qK, qE⟩ := q; exact ⟨q0, q1, va_K.moved (u := U) (U := U.calling g mk a) (Vm.Alike.refl U.vm) qK, EVS.blind g mk a qE⟩, gH_rc hK hT hr_o0 shm_0 rfl, fun U hU hW => ⟨rfl, hU, va_K.moved hW.alike hK, hE.call hS hFc hU hW⟩⟩ rfl rfl hl.1 rfl (lv_room (Nat.le_of_ble_eq_true rfl)) dX12_mill_26 ⟨(Nat.le_of_ble_eq_true rfl), (Nat.le_of_ble_eq_true rfl)⟩) hS (fun q _ h => hFc q h) hFc (fun r25 u t H locs ht hvm hw26 hB _ _ hS => ?_)
      obtain ⟨hT, hF1⟩ := hB
      rw [ht] at hT hF1
      have hF := hF.more hF1 (by decide)
      try dsimp only at hw26
      obtain ⟨h28, hd29⟩ := hw26
      obtain rfl : (0 : Int32) = r25 := hd29.symm
      refine lv_if_ne (tgt := 81) hx hb dX12_mill_29 (by decide) (fun c30 => absurd c30 (by decide)) (fun c30 => ?_)
      refine lv_aload_n hx hb dX12_mill_32 rfl (lv_at hl 0 rfl) ?_
      refine lv_iload_n hx hb dX12_mill_33 rfl (lv_at hl 3 rfl) ?_
      refine lv_iconst (v := 1) hx hb dX12_mill_34 (by decide) ?_
      refine lv_bipush (v := 60) hx hb dX12_mill_35 (by decide) ?_
      have hFc := gA_free hG hA hS
      refine va_calli (va_runS (As := [.int p2, .int 1, .int 60]) (rest := [.ref o0]) ⟨hx, hb, hml, hown, hts⟩ (s_in l dC dI kA adK adV G H q wZ wN wH wB wC wL wK wU wV PI im PM PT lS lB lE lN p2 1 60 hT hgz hgn hgh hgb hgc hgi hgu) (va_cwS 3 hts (goodIn_app (goodIn_r _ [4, 5, 6] rfl (by decide +kernel)) (goodIn_ca (goodIn_r _ [3] rfl (by decide +kernel)) (bs_in _ _))) rfl rfl rfl (by decide +kernel) ⟨(Nat.le_of_ble_eq_true rfl), (Nat.le_of_ble_eq_true rfl)⟩) ⟨fun a U g mk q => by obtain ⟨q0, q1, qK, qE⟩ := q; exact ⟨q0, q1, va_K.moved (u := U) (U := U.calling g mk a) (Vm.Alike.refl U.vm) qK, EVS.blind g mk a qE⟩, fun U hU hW => ⟨rfl, hU, va_K.moved hW.alike hK, hE.call hS hFc hU hW⟩⟩ rfl rfl hl.1 rfl (lv_room (Nat.le_of_ble_eq_true rfl)) dX12_mill_37 ⟨(Nat.le_of_ble_eq_true rfl), (Nat.le_of_ble_eq_true rfl)⟩) hS (fun q _ h => hFc q h) hFc (fun r31 u t H locs ht hvm hw32 hB _ _ hS => ?_)
      obtain ⟨hT, hF1⟩ := hB
      rw [ht] at hT hF1
      have hF := hF.more hF1 (by decide)
      try dsimp only at hw32
      obtain ⟨h33, hi34, hi35⟩ := hw32
      refine lv_if_ne (tgt := 47) hx hb dX12_mill_40 (by decide) (fun c36 => ?_) (fun c36 => ?_)
      · have t37 : r31.toInt ≠ 0 := ti_ne c36 rfl (by decide)
        have t38 : (60 : Int32).toInt = 60 := by decide
        have t39 : (1 : Int32).toInt = 1 := by decide
        have t40 : (1 : Int32).toInt ≤ p2.toInt ∧ p2.toInt ≤ (60 : Int32).toInt := hi34 ((bit_of ⟨by omega, by omega⟩).resolve_left c36)
        refine lv_iconst (v := 0) hx hb dX12_mill_47 (by decide) ?_
        refine lv_iconst (v := 2) hx hb dX12_mill_48 (by decide) ?_
        have hFc := gA_free hG hA hS
        refine va_calli (va_runV (As := [.int 0, .int 2]) (rest := []) ⟨hx, hb, hml, hown, hts⟩ (s_throwsIf l dC dI kA adK adV G H q wZ wN wH wB wC wL wK wU wV PI im PM PT lS lB lE lN o0 0 2 hT hr_o0 (rg_t (a := 0) (by decide) (by first | decide | omega) (by first | decide | omega)) hgz hgn hgh hgb hgc hgi hgu) (cwV 2 hts (goodIn_app (goodIn_r _ [10, 11, 12, 6] rfl (by decide +kernel)) (goodIn_ca (goodIn_r _ [9, 1] rfl (by decide +kernel)) (bs_in _ _))) rfl rfl rfl (by decide +kernel) ⟨(Nat.le_of_ble_eq_true rfl), (Nat.le_of_ble_eq_true rfl)⟩) ⟨fun a U g mk q => by obtain ⟨q0, q1, qK, qE⟩ := q; exact ⟨q0, q1, va_K.moved (u := U) (U := U.calling g mk a) (Vm.Alike.refl U.vm) qK, EVS.blind g mk a qE⟩, gH_rc hK hT hr_o0 shm_0 rfl, fun U hU hW => ⟨rfl, hU, va_K.moved hW.alike hK, hE.call hS hFc hU hW⟩⟩ rfl rfl hl.1 rfl (lv_room (Nat.le_of_ble_eq_true rfl)) dX12_mill_49 ⟨(Nat.le_of_ble_eq_true rfl), (Nat.le_of_ble_eq_true rfl)⟩) hS (fun q _ h => hFc q h) hFc (fun r41 u t H locs ht hvm hw42 hB _ _ hS => ?_)
        obtain ⟨hT, hF1⟩ := hB
        rw [ht] at hT hF1
        have hF := hF.more hF1 (by decide)
        try dsimp only at hw42
        obtain ⟨h43, hd44⟩ := hw42
        obtain rfl : (0 : Int32) = r41 := hd44.symm
        refine lv_if_ne (tgt := 81) hx hb dX12_mill_52 (by decide) (fun c45 => absurd c45 (by decide)) (fun c45 => ?_)
        refine lv_aload_n hx hb dX12_mill_55 rfl (lv_at hl 0 rfl) ?_
        refine lv_aload_n hx hb dX12_mill_56 rfl (lv_at hl 0 rfl) ?_
        refine tw_get hx hb hts bF_X12 hown hK hT hr_o0 shm_0 rfl 1 (by decide) (ht_at hts 12 rfl) (fun _ h9 => h9) dX12_mill_57 (fun v9 m46 h9 => ?_)
        obtain ⟨rfl, hg47⟩ := h9 _ rfl
        refine lv_sipush (v := 1428) hx hb dX12_mill_60 (by decide) ?_
        refine tw_iald (i := 1428) hx hb hK hT hg47 shm_2 rfl (by unfold vp_in; decide) dX12_mill_63 (fun v9 m48 h9 => ?_)
        obtain ⟨x49, rfl, gx49, kx49⟩ := (gp_at h9 (w_wct (by have q9 := tn_of (show (1428 : Int32).toInt = 1428 from (by decide)) (show (0 : Int) ≤ 1428 from by omega); omega)))
        refine lv_bipush (v := 30) hx hb dX12_mill_64 (by decide) ?_
        refine lv_icmp_ne (tgt := 73) hx hb dX12_mill_66 (by decide) (fun c50 => ?_) (fun c50 => ?_)
        · have t51 : x49.toInt ≠ 30 := ti_ne c50 rfl (by decide)
          refine lv_iconst (v := 0) hx hb dX12_mill_73 (by decide) ?_
          refine lv_iconst (v := 3) hx hb dX12_mill_74 (by decide) ?_
          have hFc := gA_free hG hA hS
          refine va_calli (va_runV (As := [.int 0, .int 3]) (rest := []) ⟨hx, hb, hml, hown, hts⟩ (s_throwsIf l dC dI kA adK adV G H q wZ wN wH wB wC wL wK wU wV PI im PM PT lS lB lE lN o0 0 3 hT hr_o0 (rg_t (a := 0) (by decide) (by first | decide | omega) (by first | decide | omega)) hgz hgn hgh hgb hgc hgi hgu) (cwV 2 hts (goodIn_app (goodIn_r _ [10, 11, 12, 6] rfl (by decide +kernel)) (goodIn_ca (goodIn_r _ [9, 1] rfl (by decide +kernel)) (bs_in _ _))) rfl rfl rfl (by decide +kernel) ⟨(Nat.le_of_ble_eq_true rfl), (Nat.le_of_ble_eq_true rfl)⟩) ⟨fun a U g mk q => by obtain ⟨q0, q1, qK, qE⟩ := q; exact ⟨q0, q1, va_K.moved (u := U) (U := U.calling g mk a) (Vm.Alike.refl U.vm) qK, EVS.blind g mk a qE⟩, gH_rc hK hT hr_o0 shm_0 rfl, fun U hU hW => ⟨rfl, hU, va_K.moved hW.alike hK, hE.call hS hFc hU hW⟩⟩ rfl rfl hl.1 rfl (lv_room (Nat.le_of_ble_eq_true rfl)) dX12_mill_75 ⟨(Nat.le_of_ble_eq_true rfl), (Nat.le_of_ble_eq_true rfl)⟩) hS (fun q _ h => hFc q h) hFc (fun r52 u t H locs ht hvm hw53 hB _ _ hS => ?_)
          obtain ⟨hT, hF1⟩ := hB
          rw [ht] at hT hF1
          have m54 := (el_kept (hF1.arr hg47 skm_2 (by decide))).trans m48
          have hF := hF.more hF1 (by decide)
          try dsimp only at hw53
          obtain ⟨h55, hd56⟩ := hw53
          obtain rfl : (0 : Int32) = r52 := hd56.symm
          refine lv_if_eq (tgt := 83) hx hb dX12_mill_78 (by decide) (fun c57 => ?_) (fun c57 => absurd c57 (by decide))
          refine lv_aload_n hx hb dX12_mill_83 rfl (lv_at hl 0 rfl) ?_
          refine lv_iload_n hx hb dX12_mill_84 rfl (lv_at hl 1 rfl) ?_
          have hFc := gA_free hG hA hS
          refine va_calli (va_runV (As := [.int p0]) (rest := []) ⟨hx, hb, hml, hown, hts⟩ (s_noPlace l dC dI kA adK adV G H q wZ wN wH wB wC wL wK wU wV PI im PM PT lS lB lE lN o0 p0 hT hr_o0 (by have q8 := ti_all p0; omega) hgz hgn hgh hgb hgc hgi hgu) (cwV 1 hts (goodIn_app (goodIn_r _ [30, 31, 32, 6] rfl (by decide +kernel)) (goodIn_ca (goodIn_r _ [14, 15, 13, 16, 17, 18, 6, 19, 20, 21, 22, 23, 24, 25, 26, 27, 28, 29] rfl (by decide +kernel)) (bs_in _ _))) rfl rfl rfl (by decide +kernel) ⟨(Nat.le_of_ble_eq_true rfl), (Nat.le_of_ble_eq_true rfl)⟩) ⟨fun a U g mk q => by obtain ⟨q0, q1, qK, qE⟩ := q; exact ⟨q0, q1, va_K.moved (u := U) (U := U.calling g mk a) (Vm.Alike.refl U.vm) qK, EVS.blind g mk a qE⟩, gH_rc hK hT hr_o0 shm_0 rfl, fun U hU hW => ⟨rfl, hU, va_K.moved hW.alike hK, hE.call hS hFc hU hW⟩⟩ rfl rfl hl.1 rfl (lv_room (Nat.le_of_ble_eq_true rfl)) dX12_mill_85 ⟨(Nat.le_of_ble_eq_true rfl), (Nat.le_of_ble_eq_true rfl)⟩) hS (fun q _ h => hFc q h) hFc (fun r58 u t H locs ht hvm hw59 hB _ _ hS => ?_)
          obtain ⟨hT, hF1⟩ := hB
          rw [ht] at hT hF1
          have m60 := (el_kept (hF1.arr hg47 skm_2 (by decide))).trans m54
          have hF := hF.more hF1 (by decide)
          try dsimp only at hw59
          obtain ⟨h61, hi62⟩ := hw59
          refine lv_if_ne (tgt := 108) hx hb dX12_mill_88 (by decide) (fun c63 => ?_) (fun c63 => ?_)
          · have t64 : r58.toInt ≠ 0 := ti_ne c63 rfl (by decide)
            refine lv_iconst (v := (-1)) hx hb dX12_mill_108 (by decide) ?_
            exact W.iret (v := (-1)) hx hb hr (fun t ht hW => ⟨⟨(-1), (wC, wK, wU, wV), rfl, (by exact ⟨(rg_t (a := (-1)) (by decide) (by first | decide | omega) (by first | decide | omega)), ⟨hgw, by omega, by omega⟩⟩), by (try dsimp only); rw [ht]; exact ⟨hT, hF⟩⟩, hS.F ht⟩) hS.2.2 dX12_mill_109
          · have t65 : r58.toInt = 0 := ti_eq c63 rfl (by decide)
            have t66 : wL p0.toNatClampNeg ∧ ∀ w : Nat, (w : Int) < wC → (wU w : Int) ≠ p0.toInt := hi62 c63
            refine lv_iload_n hx hb dX12_mill_91 rfl (lv_at hl 1 rfl) ?_
            refine lv_iload_n hx hb dX12_mill_92 rfl (lv_at hl 2 rfl) ?_
            have hFc := gA_free hG hA hS
            refine va_calli (va_runS (As := [.int p0, .int p1]) (rest := []) ⟨hx, hb, hml, hown, hts⟩ (s_stepsD l dC dI kA adK adV G H q wZ wN wH wB wC wL wK wU wV PI im PM PT lS lB lE lN p0 p1 hT (by have q8 := ti_all p0; omega) (by have q8 := ti_all p1; omega) hgz hgn hgh hgb hgc hgi hgu) (va_cwS 2 hts (goodIn_app (goodIn_r _ [38, 39, 6] rfl (by decide +kernel)) (goodIn_ca (goodIn_r _ [33, 34, 35, 36, 37] rfl (by decide +kernel)) (bs_in _ _))) rfl rfl rfl (by decide +kernel) ⟨(Nat.le_of_ble_eq_true rfl), (Nat.le_of_ble_eq_true rfl)⟩) ⟨fun a U g mk q => by obtain ⟨q0, q1, qK, qE⟩ := q; exact ⟨q0, q1, va_K.moved (u := U) (U := U.calling g mk a) (Vm.Alike.refl U.vm) qK, EVS.blind g mk a qE⟩, fun U hU hW => ⟨rfl, hU, va_K.moved hW.alike hK, hE.call hS hFc hU hW⟩⟩ rfl rfl hl.1 rfl (lv_room (Nat.le_of_ble_eq_true rfl)) dX12_mill_93 ⟨(Nat.le_of_ble_eq_true rfl), (Nat.le_of_ble_eq_true rfl)⟩) hS (fun q _ h => hFc q h) hFc (fun r67 u t H locs ht hvm hw68 hB _ _ hS => ?_)
            obtain ⟨hT, hF1⟩ := hB
            rw [ht] at hT hF1
            have m69 := (el_kept (hF1.arr hg47 skm_2 (by decide))).trans m60
            have hF := hF.more hF1 (by decide)
            try dsimp only at hw68
            obtain ⟨h70, hf71⟩ := hw68
            refine lv_iconst (v := 1) hx hb dX12_mill_96 (by decide) ?_
            refine lv_icmp_ne (tgt := 108) hx hb dX12_mill_97 (by decide) (fun c72 => ?_) (fun c72 => ?_)
            · have t73 : r67.toInt ≠ 1 := ti_ne c72 rfl (by decide)
              refine lv_iconst (v := (-1)) hx hb dX12_mill_108 (by decide) ?_
              exact W.iret (v := (-1)) hx hb hr (fun t ht hW => ⟨⟨(-1), (wC, wK, wU, wV), rfl, (by exact ⟨(rg_t (a := (-1)) (by decide) (by first | decide | omega) (by first | decide | omega)), ⟨hgw, by omega, by omega⟩⟩), by (try dsimp only); rw [ht]; exact ⟨hT, hF⟩⟩, hS.F ht⟩) hS.2.2 dX12_mill_109
            · have t74 : r67.toInt = 1 := ti_eq c72 rfl (by decide)
              refine lv_aload_n hx hb dX12_mill_100 rfl (lv_at hl 0 rfl) ?_
              refine lv_iload_n hx hb dX12_mill_101 rfl (lv_at hl 1 rfl) ?_
              have hFc := gA_free hG hA hS
              refine va_calli (va_runV (As := [.int p0]) (rest := []) ⟨hx, hb, hml, hown, hts⟩ (s_mayBuildOn l dC dI kA adK adV G H q wZ wN wH wB wC wL wK wU wV PI im PM PT lS lB lE lN o0 p0 hT hr_o0 hgz hgn hgh hgb hgc hgi hgu) (cwV 1 hts (goodIn_app (goodIn_r _ [52, 53, 54, 6] rfl (by decide +kernel)) (goodIn_ca (goodIn_r _ [40, 41, 42, 43, 44, 45, 46, 47, 6, 13, 48, 20, 21, 22, 23, 24, 25, 26, 49, 50, 51, 33, 34, 35, 36, 37, 38, 39] rfl (by decide +kernel)) (bs_in _ _))) rfl rfl rfl (by decide +kernel) ⟨(Nat.le_of_ble_eq_true rfl), (Nat.le_of_ble_eq_true rfl)⟩) ⟨fun a U g mk q => by obtain ⟨q0, q1, qK, qE⟩ := q; exact ⟨q0, q1, va_K.moved (u := U) (U := U.calling g mk a) (Vm.Alike.refl U.vm) qK, EVS.blind g mk a qE⟩, gH_rc hK hT hr_o0 shm_0 rfl, fun U hU hW => ⟨rfl, hU, va_K.moved hW.alike hK, hE.call hS hFc hU hW⟩⟩ rfl rfl hl.1 rfl (lv_room (Nat.le_of_ble_eq_true rfl)) dX12_mill_102 ⟨(Nat.le_of_ble_eq_true rfl), (Nat.le_of_ble_eq_true rfl)⟩) hS (fun q _ h => hFc q h) hFc (fun r75 u t H locs ht hvm hw76 hB _ _ hS => ?_)
              obtain ⟨hT, hF1⟩ := hB
              rw [ht] at hT hF1
              have m77 := (el_kept (hF1.arr hg47 skm_2 (by decide))).trans m69
              have hF := hF.more hF1 (by decide)
              try dsimp only at hw76
              have h78 := hw76
              refine lv_if_ne (tgt := 110) hx hb dX12_mill_105 (by decide) (fun c79 => ?_) (fun c79 => ?_)
              · have t80 : r75.toInt ≠ 0 := ti_ne c79 rfl (by decide)
                refine lv_aload_n hx hb dX12_mill_110 rfl (lv_at hl 0 rfl) ?_
                refine lv_iload hx hb dX12_mill_111 (lv_at hl 4 rfl) ?_
                refine lv_if_eq (tgt := 120) hx hb dX12_mill_113 (by decide) (fun c81 => ?_) (fun c81 => ?_)
                · have t82 : p3.toInt = 0 := ti_eq c81 rfl (by decide)
                  refine lv_iconst (v := 2) hx hb dX12_mill_120 (by decide) ?_
                  refine lv_iload_n hx hb dX12_mill_121 rfl (lv_at hl 1 rfl) ?_
                  refine lv_iload_n hx hb dX12_mill_122 rfl (lv_at hl 2 rfl) ?_
                  refine lv_iconst (v := 0) hx hb dX12_mill_123 (by decide) ?_
                  refine lv_iload_n hx hb dX12_mill_124 rfl (lv_at hl 3 rfl) ?_
                  have hFc := gA_free hG hA hS
                  refine va_calli (va_runV (As := [.int 2, .int p0, .int p1, .int 0, .int p2]) (rest := []) ⟨hx, hb, hml, hown, hts⟩ (s_builds l dC dI kA adK adV G H q wZ wN wH wB wC wL wK wU wV PI im PM PT lS lB lE lN o0 2 p0 p1 0 p2 hT hr_o0 (rg_t (a := 2) (by decide) (by first | decide | omega) (by first | decide | omega)) (by have q8 := ti_all p0; omega) (by have q8 := ti_all p1; omega) (by have q8 := ti_all p2; omega) (by assumption) (by omega) (show wL p0.toNatClampNeg ∧ ∀ w : Nat, (w : Int) < wC → (wU w : Int) ≠ p0.toInt from by assumption).1 (show wL p0.toNatClampNeg ∧ ∀ w : Nat, (w : Int) < wC → (wU w : Int) ≠ p0.toInt from by assumption).2 (by omega) (fun h9 => by exfalso; have q9 := (show (2 : Int32).toInt = 2 from (by decide)); omega) hgz hgn hgh hgb hgc hgi hgu) (cwV 5 hts (goodIn_app (goodIn_r _ [57, 58, 59, 6] rfl (by decide +kernel)) (goodIn_ca (goodIn_r _ [55, 13, 21, 22, 23, 6, 56] rfl (by decide +kernel)) (bs_in _ _))) rfl rfl rfl (by decide +kernel) ⟨(Nat.le_of_ble_eq_true rfl), (Nat.le_of_ble_eq_true rfl)⟩) ⟨fun a U g mk q => by obtain ⟨q0, q1, qK, qE⟩ := q; exact ⟨q0, q1, va_K.moved (u := U) (U := U.calling g mk a) (Vm.Alike.refl U.vm) qK, EVS.blind g mk a qE⟩, gH_rc hK hT hr_o0 shm_0 rfl, fun U hU hW => ⟨rfl, hU, va_K.moved hW.alike hK, hE.call hS hFc hU hW⟩⟩ rfl rfl hl.1 rfl (lv_room (Nat.le_of_ble_eq_true rfl)) dX12_mill_125 ⟨(Nat.le_of_ble_eq_true rfl), (Nat.le_of_ble_eq_true rfl)⟩) hS (fun q _ h => hFc q h) hFc (fun r83 u t H locs ht hvm hw84 hB _ _ hS => ?_)
                  obtain ⟨u85, u86, u87, u88⟩ := u
                  obtain ⟨hT, hF1⟩ := hB
                  rw [ht] at hT hF1
                  have hF := hF.more hF1 (by decide)
                  try dsimp only at hw84
                  obtain ⟨h90, hf91⟩ := hw84
                  exact W.iret (v := r83) hx hb hr (fun t ht hW => ⟨⟨r83, (u85, u86, u87, u88), rfl, (by exact ⟨(by have q8 := ti_all r83; omega), hf91⟩), by (try dsimp only); rw [ht]; exact ⟨hT, hF⟩⟩, hS.F ht⟩) hS.2.2 dX12_mill_128
                · have t92 : p3.toInt ≠ 0 := ti_ne c81 rfl (by decide)
                  refine lv_iconst (v := 3) hx hb dX12_mill_116 (by decide) ?_
                  refine lv_goto (tgt := 121) hx hb dX12_mill_117 (by decide) ?_
                  refine lv_iload_n hx hb dX12_mill_121 rfl (lv_at hl 1 rfl) ?_
                  refine lv_iload_n hx hb dX12_mill_122 rfl (lv_at hl 2 rfl) ?_
                  refine lv_iconst (v := 0) hx hb dX12_mill_123 (by decide) ?_
                  refine lv_iload_n hx hb dX12_mill_124 rfl (lv_at hl 3 rfl) ?_
                  have hFc := gA_free hG hA hS
                  refine va_calli (va_runV (As := [.int 3, .int p0, .int p1, .int 0, .int p2]) (rest := []) ⟨hx, hb, hml, hown, hts⟩ (s_builds l dC dI kA adK adV G H q wZ wN wH wB wC wL wK wU wV PI im PM PT lS lB lE lN o0 3 p0 p1 0 p2 hT hr_o0 (rg_t (a := 3) (by decide) (by first | decide | omega) (by first | decide | omega)) (by have q8 := ti_all p0; omega) (by have q8 := ti_all p1; omega) (by have q8 := ti_all p2; omega) (by assumption) (by omega) (show wL p0.toNatClampNeg ∧ ∀ w : Nat, (w : Int) < wC → (wU w : Int) ≠ p0.toInt from by assumption).1 (show wL p0.toNatClampNeg ∧ ∀ w : Nat, (w : Int) < wC → (wU w : Int) ≠ p0.toInt from by assumption).2 (by omega) (fun h9 => by exfalso; have q9 := (show (3 : Int32).toInt = 3 from (by decide)); omega) hgz hgn hgh hgb hgc hgi hgu) (cwV 5 hts (goodIn_app (goodIn_r _ [57, 58, 59, 6] rfl (by decide +kernel)) (goodIn_ca (goodIn_r _ [55, 13, 21, 22, 23, 6, 56] rfl (by decide +kernel)) (bs_in _ _))) rfl rfl rfl (by decide +kernel) ⟨(Nat.le_of_ble_eq_true rfl), (Nat.le_of_ble_eq_true rfl)⟩) ⟨fun a U g mk q => by obtain ⟨q0, q1, qK, qE⟩ := q; exact ⟨q0, q1, va_K.moved (u := U) (U := U.calling g mk a) (Vm.Alike.refl U.vm) qK, EVS.blind g mk a qE⟩, gH_rc hK hT hr_o0 shm_0 rfl, fun U hU hW => ⟨rfl, hU, va_K.moved hW.alike hK, hE.call hS hFc hU hW⟩⟩ rfl rfl hl.1 rfl (lv_room (Nat.le_of_ble_eq_true rfl)) dX12_mill_125 ⟨(Nat.le_of_ble_eq_true rfl), (Nat.le_of_ble_eq_true rfl)⟩) hS (fun q _ h => hFc q h) hFc (fun r93 u t H locs ht hvm hw94 hB _ _ hS => ?_)
                  obtain ⟨u95, u96, u97, u98⟩ := u
                  obtain ⟨hT, hF1⟩ := hB
                  rw [ht] at hT hF1
                  have hF := hF.more hF1 (by decide)
                  try dsimp only at hw94
                  obtain ⟨h100, hf101⟩ := hw94
                  exact W.iret (v := r93) hx hb hr (fun t ht hW => ⟨⟨r93, (u95, u96, u97, u98), rfl, (by exact ⟨(by have q8 := ti_all r93; omega), hf101⟩), by (try dsimp only); rw [ht]; exact ⟨hT, hF⟩⟩, hS.F ht⟩) hS.2.2 dX12_mill_128
              · have t102 : r75.toInt = 0 := ti_eq c79 rfl (by decide)
                refine lv_iconst (v := (-1)) hx hb dX12_mill_108 (by decide) ?_
                exact W.iret (v := (-1)) hx hb hr (fun t ht hW => ⟨⟨(-1), (wC, wK, wU, wV), rfl, (by exact ⟨(rg_t (a := (-1)) (by decide) (by first | decide | omega) (by first | decide | omega)), ⟨hgw, by omega, by omega⟩⟩), by (try dsimp only); rw [ht]; exact ⟨hT, hF⟩⟩, hS.F ht⟩) hS.2.2 dX12_mill_109
        · have t103 : x49.toInt = 30 := ti_eq c50 rfl (by decide)
          refine lv_iconst (v := 1) hx hb dX12_mill_69 (by decide) ?_
          refine lv_goto (tgt := 74) hx hb dX12_mill_70 (by decide) ?_
          refine lv_iconst (v := 3) hx hb dX12_mill_74 (by decide) ?_
          have hFc := gA_free hG hA hS
          refine va_calli (va_runV (As := [.int 1, .int 3]) (rest := []) ⟨hx, hb, hml, hown, hts⟩ (s_throwsIf l dC dI kA adK adV G H q wZ wN wH wB wC wL wK wU wV PI im PM PT lS lB lE lN o0 1 3 hT hr_o0 (rg_t (a := 1) (by decide) (by first | decide | omega) (by first | decide | omega)) hgz hgn hgh hgb hgc hgi hgu) (cwV 2 hts (goodIn_app (goodIn_r _ [10, 11, 12, 6] rfl (by decide +kernel)) (goodIn_ca (goodIn_r _ [9, 1] rfl (by decide +kernel)) (bs_in _ _))) rfl rfl rfl (by decide +kernel) ⟨(Nat.le_of_ble_eq_true rfl), (Nat.le_of_ble_eq_true rfl)⟩) ⟨fun a U g mk q => by obtain ⟨q0, q1, qK, qE⟩ := q; exact ⟨q0, q1, va_K.moved (u := U) (U := U.calling g mk a) (Vm.Alike.refl U.vm) qK, EVS.blind g mk a qE⟩, gH_rc hK hT hr_o0 shm_0 rfl, fun U hU hW => ⟨rfl, hU, va_K.moved hW.alike hK, hE.call hS hFc hU hW⟩⟩ rfl rfl hl.1 rfl (lv_room (Nat.le_of_ble_eq_true rfl)) dX12_mill_75 ⟨(Nat.le_of_ble_eq_true rfl), (Nat.le_of_ble_eq_true rfl)⟩) hS (fun q _ h => hFc q h) hFc (fun r104 u t H locs ht hvm hw105 hB _ _ hS => ?_)
          obtain ⟨hT, hF1⟩ := hB
          rw [ht] at hT hF1
          have m106 := (el_kept (hF1.arr hg47 skm_2 (by decide))).trans m48
          have hF := hF.more hF1 (by decide)
          try dsimp only at hw105
          obtain ⟨h107, hd108⟩ := hw105
          obtain rfl : (1 : Int32) = r104 := hd108.symm
          refine lv_if_eq (tgt := 83) hx hb dX12_mill_78 (by decide) (fun c109 => absurd c109 (by decide)) (fun c109 => ?_)
          refine lv_iconst (v := 0) hx hb dX12_mill_81 (by decide) ?_
          exact W.iret (v := 0) hx hb hr (fun t ht hW => ⟨⟨0, (wC, wK, wU, wV), rfl, (by exact ⟨(rg_t (a := 0) (by decide) (by first | decide | omega) (by first | decide | omega)), ⟨hgw, by omega, by omega⟩⟩), by (try dsimp only); rw [ht]; exact ⟨hT, hF⟩⟩, hS.F ht⟩) hS.2.2 dX12_mill_82
      · have t110 : r31.toInt = 0 := ti_eq c36 rfl (by decide)
        have t111 : (60 : Int32).toInt = 60 := by decide
        have t112 : (1 : Int32).toInt = 1 := by decide
        have t113 : p2.toInt < (1 : Int32).toInt ∨ (60 : Int32).toInt < p2.toInt := hi35 c36
        refine lv_iconst (v := 1) hx hb dX12_mill_43 (by decide) ?_
        refine lv_goto (tgt := 48) hx hb dX12_mill_44 (by decide) ?_
        refine lv_iconst (v := 2) hx hb dX12_mill_48 (by decide) ?_
        have hFc := gA_free hG hA hS
        refine va_calli (va_runV (As := [.int 1, .int 2]) (rest := []) ⟨hx, hb, hml, hown, hts⟩ (s_throwsIf l dC dI kA adK adV G H q wZ wN wH wB wC wL wK wU wV PI im PM PT lS lB lE lN o0 1 2 hT hr_o0 (rg_t (a := 1) (by decide) (by first | decide | omega) (by first | decide | omega)) hgz hgn hgh hgb hgc hgi hgu) (cwV 2 hts (goodIn_app (goodIn_r _ [10, 11, 12, 6] rfl (by decide +kernel)) (goodIn_ca (goodIn_r _ [9, 1] rfl (by decide +kernel)) (bs_in _ _))) rfl rfl rfl (by decide +kernel) ⟨(Nat.le_of_ble_eq_true rfl), (Nat.le_of_ble_eq_true rfl)⟩) ⟨fun a U g mk q => by obtain ⟨q0, q1, qK, qE⟩ := q; exact ⟨q0, q1, va_K.moved (u := U) (U := U.calling g mk a) (Vm.Alike.refl U.vm) qK, EVS.blind g mk a qE⟩, gH_rc hK hT hr_o0 shm_0 rfl, fun U hU hW => ⟨rfl, hU, va_K.moved hW.alike hK, hE.call hS hFc hU hW⟩⟩ rfl rfl hl.1 rfl (lv_room (Nat.le_of_ble_eq_true rfl)) dX12_mill_49 ⟨(Nat.le_of_ble_eq_true rfl), (Nat.le_of_ble_eq_true rfl)⟩) hS (fun q _ h => hFc q h) hFc (fun r114 u t H locs ht hvm hw115 hB _ _ hS => ?_)
        obtain ⟨hT, hF1⟩ := hB
        rw [ht] at hT hF1
        have hF := hF.more hF1 (by decide)
        try dsimp only at hw115
        obtain ⟨h116, hd117⟩ := hw115
        obtain rfl : (1 : Int32) = r114 := hd117.symm
        refine lv_if_ne (tgt := 81) hx hb dX12_mill_52 (by decide) (fun c118 => ?_) (fun c118 => absurd c118 (by decide))
        refine lv_iconst (v := 0) hx hb dX12_mill_81 (by decide) ?_
        exact W.iret (v := 0) hx hb hr (fun t ht hW => ⟨⟨0, (wC, wK, wU, wV), rfl, (by exact ⟨(rg_t (a := 0) (by decide) (by first | decide | omega) (by first | decide | omega)), ⟨hgw, by omega, by omega⟩⟩), by (try dsimp only); rw [ht]; exact ⟨hT, hF⟩⟩, hS.F ht⟩) hS.2.2 dX12_mill_82
    · have t119 : r17.toInt ≠ 0 := ti_ne c22 rfl (by decide)
      refine lv_iconst (v := 1) hx hb dX12_mill_20 (by decide) ?_
      refine lv_goto (tgt := 25) hx hb dX12_mill_21 (by decide) ?_
      refine lv_iconst (v := 1) hx hb dX12_mill_25 (by decide) ?_
      have hFc := gA_free hG hA hS
      refine va_calli (va_runV (As := [.int 1, .int 1]) (rest := []) ⟨hx, hb, hml, hown, hts⟩ (s_throwsIf l dC dI kA adK adV G H q wZ wN wH wB wC wL wK wU wV PI im PM PT lS lB lE lN o0 1 1 hT hr_o0 (rg_t (a := 1) (by decide) (by first | decide | omega) (by first | decide | omega)) hgz hgn hgh hgb hgc hgi hgu) (cwV 2 hts (goodIn_app (goodIn_r _ [10, 11, 12, 6] rfl (by decide +kernel)) (goodIn_ca (goodIn_r _ [9, 1] rfl (by decide +kernel)) (bs_in _ _))) rfl rfl rfl (by decide +kernel) ⟨(Nat.le_of_ble_eq_true rfl), (Nat.le_of_ble_eq_true rfl)⟩) ⟨fun a U g mk q => by obtain ⟨q0, q1, qK, qE⟩ := q; exact ⟨q0, q1, va_K.moved (u := U) (U := U.calling g mk a) (Vm.Alike.refl U.vm) qK, EVS.blind g mk a qE⟩, gH_rc hK hT hr_o0 shm_0 rfl, fun U hU hW => ⟨rfl, hU, va_K.moved hW.alike hK, hE.call hS hFc hU hW⟩⟩ rfl rfl hl.1 rfl (lv_room (Nat.le_of_ble_eq_true rfl)) dX12_mill_26 ⟨(Nat.le_of_ble_eq_true rfl), (Nat.le_of_ble_eq_true rfl)⟩) hS (fun q _ h => hFc q h) hFc (fun r120 u t H locs ht hvm hw121 hB _ _ hS => ?_)
      obtain ⟨hT, hF1⟩ := hB
      rw [ht] at hT hF1
      have hF := hF.more hF1 (by decide)
      try dsimp only at hw121
      obtain ⟨h123, hd124⟩ := hw121
      obtain rfl : (1 : Int32) = r120 := hd124.symm
      refine lv_if_ne (tgt := 81) hx hb dX12_mill_29 (by decide) (fun c125 => ?_) (fun c125 => absurd c125 (by decide))
      refine lv_iconst (v := 0) hx hb dX12_mill_81 (by decide) ?_
      exact W.iret (v := 0) hx hb hr (fun t ht hW => ⟨⟨0, (wC, wK, wU, wV), rfl, (by exact ⟨(rg_t (a := 0) (by decide) (by first | decide | omega) (by first | decide | omega)), ⟨hgw, by omega, by omega⟩⟩), by (try dsimp only); rw [ht]; exact ⟨hT, hF⟩⟩, hS.F ht⟩) hS.2.2 dX12_mill_82
