def w_s_dike : List Cond := .code yX12_dike cX12_dike 5 (some .int) :: (HAppend.hAppend (α := List Cond) (β := List Cond) (γ := List Cond) [.fieldLink RX12 194 "SeaLandModel" "thrown" "I", .code yX12_noSquare cX12_noSquare 1 (some .boolean), .code yX12_in cX12_in 3 (some .boolean), .methodLink RX12 197 yX12_in, .static yX12_in, .initialized RX12, .methodLink RX12 220 yX12_noSquare, .static yX12_noSquare, .code yX12_throwsIf cX12_throwsIf 3 (some .boolean), .methodLink RX12 224 yX12_throwsIf, .instanceMethod yX12_throwsIf, .selects RX12 yX12_throwsIf yX12_throwsIf, .fieldLink RX12 9 "SeaLandModel" "world" "[I", .code yX12_noPlace cX12_noPlace 2 (some .boolean), .code yX12_isLand cX12_isLand 2 (some .boolean), .methodLink RX12 235 yX12_isLand, .instanceMethod yX12_isLand, .selects RX12 yX12_isLand yX12_isLand, .code yX12_workOn cX12_workOn 3 (some .int), .code yX12_of cX12_of 3 (some .int), .code yX12_at cX12_at 2 (some .int), .methodLink RX12 214 yX12_at, .static yX12_at, .methodLink RX12 217 yX12_of, .instanceMethod yX12_of, .selects RX12 yX12_of yX12_of, .methodLink RX12 256 yX12_workOn, .instanceMethod yX12_workOn, .selects RX12 yX12_workOn yX12_workOn, .methodLink RX12 259 yX12_noPlace, .instanceMethod yX12_noPlace, .selects RX12 yX12_noPlace yX12_noPlace, .code yX12_steps cX12_steps 2 (some .int), .methodLink RX12 201 Lib.Math.abs.name, .static Lib.Math.abs.name, .initialized "java/lang/Math", .code Lib.Math.abs.name Lib.Math.abs.code 1 (some .int), .methodLink RX12 262 yX12_steps, .static yX12_steps, .code yX12_builds cX12_builds 8 (some .int), .fieldLink RX12 238 "SeaLandModel" "rows" "I", .methodLink RX12 265 yX12_builds, .instanceMethod yX12_builds, .selects RX12 yX12_builds yX12_builds] bs)
set_option maxHeartbeats 4000000 in
set_option maxRecDepth 100000 in
theorem s_dike (l : Launch) (dC : Nat → ClassId) (dI : Nat → Nat → Nat) (kA : Nat → ClassId) (adK adV : Nat → Nat) (G : gT) (H0 : Heap) (q : Nat → Nat) (wZ wN : Nat → Int) (wH wB wC : Int) (wL wK : Nat → Prop) (wU wV : Nat → Nat) (PI : Nat → Int → Prop) (im : Int) (PM PT : Nat → Int → Prop) (lS lB lE : Nat → Nat → Int → Prop) (lN : Nat → Int) (o0 : Nat) (p0 : Int32) (p1 : Int32) (p2 : Int32) (p3 : Int32)  (hT : gH (dC, dI) kA (SHm q (wP wZ wN wH wB wC wL wK wU wV) PI im PM PT lS lB lE lN) G H0) (hr_o0 : G o0 = some 0) (hgw : wG wC wL wK wU wV) (hgz : ∀ i, 0 ≤ wZ i) (hgn : ∀ i, 6500000 ≤ wN i ∧ wN i ≤ 20200000) (hgh : 0 ≤ wH ∧ wH ≤ 40000) (hgb : 0 ≤ wB ∧ wB ≤ 3850000) (hgc : 0 ≤ wC ∧ wC ≤ 30) (hgi : 0 ≤ im ∧ im ≤ 1) (hgu : ∀ a t, G a = some (t + 1) → a = q t) : Met l yX12_dike w_s_dike ({ frames := 4, cells := 0, slots := 0, locals := 86 }) (va_Pc [.ref o0, .int p0, .int p1, .int p2, .int p3] (fun U => U.heap = H0 ∧ va_K (dC, dI) vwCl (tyl kA) U ∧ EVS adK adV (gA G H0.size) U U.heap)) (va_Qi (fun (r : Int32) (u : Int × (Nat → Prop) × (Nat → Nat) × (Nat → Nat)) => match u with | (wC1, wK1, wU1, wV1) => (-1 ≤ r.toInt ∧ r.toInt ≤ 29) ∧ (wG wC1 wL wK1 wU1 wV1 ∧ 0 ≤ wC1 ∧ wC1 ≤ 30)) (fun (u : Int × (Nat → Prop) × (Nat → Nat) × (Nat → Nat)) (t : State) => match u with | (wC1, wK1, wU1, wV1) => gH (dC, dI) kA (SHm q (wP wZ wN wH wB wC1 wL wK1 wU1 wV1) PI im PM PT lS lB lE lN) G t.heap ∧ gF (dC, dI) SKm G ([(0, 0), (0, 9), (2, 0)] : List (Nat × Nat)) H0 t.heap) (gA G H0.size)) 0 0 (gA G H0.size) := by
  refine Met.ofW (cc := cX12_dike) (maxL := 5) (ret := (some .int)) (by decide) rfl ?_
  intro p e s m args below meth c s₁ B hml hv
  obtain ⟨rfl, hH0, hK, hE⟩ := hv
  have hx := B.exec
  have hb := B.bytes
  have hr := B.returns
  have hts := atoms_spec (ws := w_s_dike) B.pre
  have hown : s.vm.findClass RX12 = some m.cls := findClass_of_methodNamed B.named
  have hlocks := B.notSynchronized
  subst hH0
  generalize hAe : gA G s.heap.size = A at hE ⊢
  have hA : ∀ q : Nat, s.heap.size ≤ q → A q := fun q h => by rw [← hAe]; exact Or.inr h
  have hG := gA_of hAe
  have hS : va_S A s.heap s.heap [] := va_S.rf
  have hF : gF (dC, dI) SKm G ([(0, 0), (0, 9), (2, 0)] : List (Nat × Nat)) s.heap s.heap := gF.rf
  have hl := lv_entry ([.ref o0, .int p0, .int p1, .int p2, .int p3]) (n := 5) (Nat.le_of_ble_eq_true rfl)
  rw [lg_entry_eq]
  generalize (lg_sl ([.ref o0, .int p0, .int p1, .int p2, .int p3]) ++ List.replicate (5 - (lg_sl ([.ref o0, .int p0, .int p1, .int p2, .int p3])).length) Slot.unset).toArray = ls at hl ⊢
  have hl : lv_has ls 5 [(0, .ref o0), (1, .int p0), (2, .int p1), (3, .int p2), (4, .int p3)] := hl
  refine lv_aload_n hx hb dX12_dike_0 rfl (lv_at hl 0 rfl) ?_
  refine lv_iconst (v := 0) hx hb dX12_dike_1 (by decide) ?_
  refine tw_put (v := .int 0) (ty := .int) hx hb hts bF_X12 tyX12 tyX12_ok nmX12 hown hK hT hG hS hr_o0 shm_0 rfl 0 (by decide) (ht_at hts 0 rfl) (fun _ h9 => h9) rfl (by decide +kernel) rfl rfl (gl_at rfl (gi_all _)) dX12_dike_2 (fun H locs hT oq m1 oj hS => ?_)
  have hF := hF.put hr_o0 skm_0 oq oj (by decide)
  refine lv_aload_n hx hb dX12_dike_5 rfl (lv_at hl 0 rfl) ?_
  refine lv_iload_n hx hb dX12_dike_6 rfl (lv_at hl 1 rfl) ?_
  have hFc := gA_free hG hA hS
  refine va_calli (va_runS (As := [.int p0]) (rest := [.ref o0]) ⟨hx, hb, hml, hown, hts⟩ (s_noSquare l dC dI kA adK adV G H q wZ wN wH wB wC wL wK wU wV PI im PM PT lS lB lE lN p0 hT hgz hgn hgh hgb hgc hgi hgu) (va_cwS 1 hts (goodIn_app (goodIn_r _ [7, 8, 6] rfl (by decide +kernel)) (goodIn_ca (goodIn_r _ [2, 3, 4, 5, 6] rfl (by decide +kernel)) (bs_in _ _))) rfl rfl rfl (by decide +kernel) ⟨(Nat.le_of_ble_eq_true rfl), (Nat.le_of_ble_eq_true rfl)⟩) ⟨fun a U g mk q => by obtain ⟨q0, q1, qK, qE⟩ := q; exact ⟨q0, q1, va_K.moved (u := U) (U := U.calling g mk a) (Vm.Alike.refl U.vm) qK, EVS.blind g mk a qE⟩, fun U hU hW => ⟨rfl, hU, va_K.moved hW.alike hK, hE.call hS hFc hU hW⟩⟩ rfl rfl hl.1 rfl (lv_room (Nat.le_of_ble_eq_true rfl)) dX12_dike_7 ⟨(Nat.le_of_ble_eq_true rfl), (Nat.le_of_ble_eq_true rfl)⟩) hS (fun q _ h => hFc q h) hFc (fun r2 u t H locs ht hvm hw3 hB _ _ hS => ?_)
  obtain ⟨hT, hF1⟩ := hB
  rw [ht] at hT hF1
  have m4 := (hF1.fld hr_o0 skm_0 (k := 0) (by decide) (by decide)).trans m1
  have hF := hF.more hF1 (by decide)
  try dsimp only at hw3
  obtain ⟨h5, hi6⟩ := hw3
  refine lv_if_ne (tgt := 27) hx hb dX12_dike_10 (by decide) (fun c7 => ?_) (fun c7 => ?_)
  · have t8 : r2.toInt ≠ 0 := ti_ne c7 rfl (by decide)
    refine lv_iconst (v := 1) hx hb dX12_dike_27 (by decide) ?_
    refine lv_goto (tgt := 32) hx hb dX12_dike_28 (by decide) ?_
    refine lv_iconst (v := 1) hx hb dX12_dike_32 (by decide) ?_
    have hFc := gA_free hG hA hS
    refine va_calli (va_runV (As := [.int 1, .int 1]) (rest := []) ⟨hx, hb, hml, hown, hts⟩ (s_throwsIf l dC dI kA adK adV G H q wZ wN wH wB wC wL wK wU wV PI im PM PT lS lB lE lN o0 1 1 hT hr_o0 (rg_t (a := 1) (by decide) (by first | decide | omega) (by first | decide | omega)) hgz hgn hgh hgb hgc hgi hgu) (cwV 2 hts (goodIn_app (goodIn_r _ [10, 11, 12, 6] rfl (by decide +kernel)) (goodIn_ca (goodIn_r _ [9, 1] rfl (by decide +kernel)) (bs_in _ _))) rfl rfl rfl (by decide +kernel) ⟨(Nat.le_of_ble_eq_true rfl), (Nat.le_of_ble_eq_true rfl)⟩) ⟨fun a U g mk q => by obtain ⟨q0, q1, qK, qE⟩ := q; exact ⟨q0, q1, va_K.moved (u := U) (U := U.calling g mk a) (Vm.Alike.refl U.vm) qK, EVS.blind g mk a qE⟩, gH_rc hK hT hr_o0 shm_0 rfl, fun U hU hW => ⟨rfl, hU, va_K.moved hW.alike hK, hE.call hS hFc hU hW⟩⟩ rfl rfl hl.1 rfl (lv_room (Nat.le_of_ble_eq_true rfl)) dX12_dike_33 ⟨(Nat.le_of_ble_eq_true rfl), (Nat.le_of_ble_eq_true rfl)⟩) hS (fun q _ h => hFc q h) hFc (fun r9 u t H locs ht hvm hw10 hB _ _ hS => ?_)
    obtain ⟨hT, hF1⟩ := hB
    rw [ht] at hT hF1
    have hF := hF.more hF1 (by decide)
    try dsimp only at hw10
    obtain ⟨h12, hd13⟩ := hw10
    obtain rfl : (1 : Int32) = r9 := hd13.symm
    refine lv_if_ne (tgt := 90) hx hb dX12_dike_36 (by decide) (fun c14 => ?_) (fun c14 => absurd c14 (by decide))
    refine lv_iconst (v := 0) hx hb dX12_dike_90 (by decide) ?_
    exact W.iret (v := 0) hx hb hr (fun t ht hW => ⟨⟨0, (wC, wK, wU, wV), rfl, (by exact ⟨(rg_t (a := 0) (by decide) (by first | decide | omega) (by first | decide | omega)), ⟨hgw, by omega, by omega⟩⟩), by (try dsimp only); rw [ht]; exact ⟨hT, hF⟩⟩, hS.F ht⟩) hS.2.2 dX12_dike_91
  · have t15 : r2.toInt = 0 := ti_eq c7 rfl (by decide)
    have t16 : 0 ≤ p0.toInt ∧ p0.toInt ≤ 95 := hi6 c7
    refine lv_iload_n hx hb dX12_dike_13 rfl (lv_at hl 2 rfl) ?_
    have hFc := gA_free hG hA hS
    refine va_calli (va_runS (As := [.int p1]) (rest := [.ref o0]) ⟨hx, hb, hml, hown, hts⟩ (s_noSquare l dC dI kA adK adV G H q wZ wN wH wB wC wL wK wU wV PI im PM PT lS lB lE lN p1 hT hgz hgn hgh hgb hgc hgi hgu) (va_cwS 1 hts (goodIn_app (goodIn_r _ [7, 8, 6] rfl (by decide +kernel)) (goodIn_ca (goodIn_r _ [2, 3, 4, 5, 6] rfl (by decide +kernel)) (bs_in _ _))) rfl rfl rfl (by decide +kernel) ⟨(Nat.le_of_ble_eq_true rfl), (Nat.le_of_ble_eq_true rfl)⟩) ⟨fun a U g mk q => by obtain ⟨q0, q1, qK, qE⟩ := q; exact ⟨q0, q1, va_K.moved (u := U) (U := U.calling g mk a) (Vm.Alike.refl U.vm) qK, EVS.blind g mk a qE⟩, fun U hU hW => ⟨rfl, hU, va_K.moved hW.alike hK, hE.call hS hFc hU hW⟩⟩ rfl rfl hl.1 rfl (lv_room (Nat.le_of_ble_eq_true rfl)) dX12_dike_14 ⟨(Nat.le_of_ble_eq_true rfl), (Nat.le_of_ble_eq_true rfl)⟩) hS (fun q _ h => hFc q h) hFc (fun r17 u t H locs ht hvm hw18 hB _ _ hS => ?_)
    obtain ⟨hT, hF1⟩ := hB
    rw [ht] at hT hF1
    have m19 := (hF1.fld hr_o0 skm_0 (k := 0) (by decide) (by decide)).trans m4
    have hF := hF.more hF1 (by decide)
    try dsimp only at hw18
    obtain ⟨h20, hi21⟩ := hw18
    refine lv_if_ne (tgt := 27) hx hb dX12_dike_17 (by decide) (fun c22 => ?_) (fun c22 => ?_)
    · have t23 : r17.toInt ≠ 0 := ti_ne c22 rfl (by decide)
      refine lv_iconst (v := 1) hx hb dX12_dike_27 (by decide) ?_
      refine lv_goto (tgt := 32) hx hb dX12_dike_28 (by decide) ?_
      refine lv_iconst (v := 1) hx hb dX12_dike_32 (by decide) ?_
      have hFc := gA_free hG hA hS
      refine va_calli (va_runV (As := [.int 1, .int 1]) (rest := []) ⟨hx, hb, hml, hown, hts⟩ (s_throwsIf l dC dI kA adK adV G H q wZ wN wH wB wC wL wK wU wV PI im PM PT lS lB lE lN o0 1 1 hT hr_o0 (rg_t (a := 1) (by decide) (by first | decide | omega) (by first | decide | omega)) hgz hgn hgh hgb hgc hgi hgu) (cwV 2 hts (goodIn_app (goodIn_r _ [10, 11, 12, 6] rfl (by decide +kernel)) (goodIn_ca (goodIn_r _ [9, 1] rfl (by decide +kernel)) (bs_in _ _))) rfl rfl rfl (by decide +kernel) ⟨(Nat.le_of_ble_eq_true rfl), (Nat.le_of_ble_eq_true rfl)⟩) ⟨fun a U g mk q => by obtain ⟨q0, q1, qK, qE⟩ := q; exact ⟨q0, q1, va_K.moved (u := U) (U := U.calling g mk a) (Vm.Alike.refl U.vm) qK, EVS.blind g mk a qE⟩, gH_rc hK hT hr_o0 shm_0 rfl, fun U hU hW => ⟨rfl, hU, va_K.moved hW.alike hK, hE.call hS hFc hU hW⟩⟩ rfl rfl hl.1 rfl (lv_room (Nat.le_of_ble_eq_true rfl)) dX12_dike_33 ⟨(Nat.le_of_ble_eq_true rfl), (Nat.le_of_ble_eq_true rfl)⟩) hS (fun q _ h => hFc q h) hFc (fun r24 u t H locs ht hvm hw25 hB _ _ hS => ?_)
      obtain ⟨hT, hF1⟩ := hB
      rw [ht] at hT hF1
      have hF := hF.more hF1 (by decide)
      try dsimp only at hw25
      obtain ⟨h27, hd28⟩ := hw25
      obtain rfl : (1 : Int32) = r24 := hd28.symm
      refine lv_if_ne (tgt := 90) hx hb dX12_dike_36 (by decide) (fun c29 => ?_) (fun c29 => absurd c29 (by decide))
      refine lv_iconst (v := 0) hx hb dX12_dike_90 (by decide) ?_
      exact W.iret (v := 0) hx hb hr (fun t ht hW => ⟨⟨0, (wC, wK, wU, wV), rfl, (by exact ⟨(rg_t (a := 0) (by decide) (by first | decide | omega) (by first | decide | omega)), ⟨hgw, by omega, by omega⟩⟩), by (try dsimp only); rw [ht]; exact ⟨hT, hF⟩⟩, hS.F ht⟩) hS.2.2 dX12_dike_91
    · have t30 : r17.toInt = 0 := ti_eq c22 rfl (by decide)
      have t31 : 0 ≤ p1.toInt ∧ p1.toInt ≤ 95 := hi21 c22
      refine lv_iload_n hx hb dX12_dike_20 rfl (lv_at hl 3 rfl) ?_
      have hFc := gA_free hG hA hS
      refine va_calli (va_runS (As := [.int p2]) (rest := [.ref o0]) ⟨hx, hb, hml, hown, hts⟩ (s_noSquare l dC dI kA adK adV G H q wZ wN wH wB wC wL wK wU wV PI im PM PT lS lB lE lN p2 hT hgz hgn hgh hgb hgc hgi hgu) (va_cwS 1 hts (goodIn_app (goodIn_r _ [7, 8, 6] rfl (by decide +kernel)) (goodIn_ca (goodIn_r _ [2, 3, 4, 5, 6] rfl (by decide +kernel)) (bs_in _ _))) rfl rfl rfl (by decide +kernel) ⟨(Nat.le_of_ble_eq_true rfl), (Nat.le_of_ble_eq_true rfl)⟩) ⟨fun a U g mk q => by obtain ⟨q0, q1, qK, qE⟩ := q; exact ⟨q0, q1, va_K.moved (u := U) (U := U.calling g mk a) (Vm.Alike.refl U.vm) qK, EVS.blind g mk a qE⟩, fun U hU hW => ⟨rfl, hU, va_K.moved hW.alike hK, hE.call hS hFc hU hW⟩⟩ rfl rfl hl.1 rfl (lv_room (Nat.le_of_ble_eq_true rfl)) dX12_dike_21 ⟨(Nat.le_of_ble_eq_true rfl), (Nat.le_of_ble_eq_true rfl)⟩) hS (fun q _ h => hFc q h) hFc (fun r32 u t H locs ht hvm hw33 hB _ _ hS => ?_)
      obtain ⟨hT, hF1⟩ := hB
      rw [ht] at hT hF1
      have m34 := (hF1.fld hr_o0 skm_0 (k := 0) (by decide) (by decide)).trans m19
      have hF := hF.more hF1 (by decide)
      try dsimp only at hw33
      obtain ⟨h35, hi36⟩ := hw33
      refine lv_if_eq (tgt := 31) hx hb dX12_dike_24 (by decide) (fun c37 => ?_) (fun c37 => ?_)
      · have t38 : r32.toInt = 0 := ti_eq c37 rfl (by decide)
        have t39 : 0 ≤ p2.toInt ∧ p2.toInt ≤ 95 := hi36 c37
        refine lv_iconst (v := 0) hx hb dX12_dike_31 (by decide) ?_
        refine lv_iconst (v := 1) hx hb dX12_dike_32 (by decide) ?_
        have hFc := gA_free hG hA hS
        refine va_calli (va_runV (As := [.int 0, .int 1]) (rest := []) ⟨hx, hb, hml, hown, hts⟩ (s_throwsIf l dC dI kA adK adV G H q wZ wN wH wB wC wL wK wU wV PI im PM PT lS lB lE lN o0 0 1 hT hr_o0 (rg_t (a := 0) (by decide) (by first | decide | omega) (by first | decide | omega)) hgz hgn hgh hgb hgc hgi hgu) (cwV 2 hts (goodIn_app (goodIn_r _ [10, 11, 12, 6] rfl (by decide +kernel)) (goodIn_ca (goodIn_r _ [9, 1] rfl (by decide +kernel)) (bs_in _ _))) rfl rfl rfl (by decide +kernel) ⟨(Nat.le_of_ble_eq_true rfl), (Nat.le_of_ble_eq_true rfl)⟩) ⟨fun a U g mk q => by obtain ⟨q0, q1, qK, qE⟩ := q; exact ⟨q0, q1, va_K.moved (u := U) (U := U.calling g mk a) (Vm.Alike.refl U.vm) qK, EVS.blind g mk a qE⟩, gH_rc hK hT hr_o0 shm_0 rfl, fun U hU hW => ⟨rfl, hU, va_K.moved hW.alike hK, hE.call hS hFc hU hW⟩⟩ rfl rfl hl.1 rfl (lv_room (Nat.le_of_ble_eq_true rfl)) dX12_dike_33 ⟨(Nat.le_of_ble_eq_true rfl), (Nat.le_of_ble_eq_true rfl)⟩) hS (fun q _ h => hFc q h) hFc (fun r40 u t H locs ht hvm hw41 hB _ _ hS => ?_)
        obtain ⟨hT, hF1⟩ := hB
        rw [ht] at hT hF1
        have hF := hF.more hF1 (by decide)
        try dsimp only at hw41
        obtain ⟨h43, hd44⟩ := hw41
        obtain rfl : (0 : Int32) = r40 := hd44.symm
        refine lv_if_ne (tgt := 90) hx hb dX12_dike_36 (by decide) (fun c45 => absurd c45 (by decide)) (fun c45 => ?_)
        refine lv_aload_n hx hb dX12_dike_39 rfl (lv_at hl 0 rfl) ?_
        refine lv_iload hx hb dX12_dike_40 (lv_at hl 4 rfl) ?_
        refine lv_iconst (v := 1) hx hb dX12_dike_42 (by decide) ?_
        refine lv_sipush (v := 1000) hx hb dX12_dike_43 (by decide) ?_
        have hFc := gA_free hG hA hS
        refine va_calli (va_runS (As := [.int p3, .int 1, .int 1000]) (rest := [.ref o0]) ⟨hx, hb, hml, hown, hts⟩ (s_in l dC dI kA adK adV G H q wZ wN wH wB wC wL wK wU wV PI im PM PT lS lB lE lN p3 1 1000 hT hgz hgn hgh hgb hgc hgi hgu) (va_cwS 3 hts (goodIn_app (goodIn_r _ [4, 5, 6] rfl (by decide +kernel)) (goodIn_ca (goodIn_r _ [3] rfl (by decide +kernel)) (bs_in _ _))) rfl rfl rfl (by decide +kernel) ⟨(Nat.le_of_ble_eq_true rfl), (Nat.le_of_ble_eq_true rfl)⟩) ⟨fun a U g mk q => by obtain ⟨q0, q1, qK, qE⟩ := q; exact ⟨q0, q1, va_K.moved (u := U) (U := U.calling g mk a) (Vm.Alike.refl U.vm) qK, EVS.blind g mk a qE⟩, fun U hU hW => ⟨rfl, hU, va_K.moved hW.alike hK, hE.call hS hFc hU hW⟩⟩ rfl rfl hl.1 rfl (lv_room (Nat.le_of_ble_eq_true rfl)) dX12_dike_46 ⟨(Nat.le_of_ble_eq_true rfl), (Nat.le_of_ble_eq_true rfl)⟩) hS (fun q _ h => hFc q h) hFc (fun r46 u t H locs ht hvm hw47 hB _ _ hS => ?_)
        obtain ⟨hT, hF1⟩ := hB
        rw [ht] at hT hF1
        have hF := hF.more hF1 (by decide)
        try dsimp only at hw47
        obtain ⟨h48, hi49, hi50⟩ := hw47
        refine lv_if_ne (tgt := 56) hx hb dX12_dike_49 (by decide) (fun c51 => ?_) (fun c51 => ?_)
        · have t52 : r46.toInt ≠ 0 := ti_ne c51 rfl (by decide)
          have t53 : (1000 : Int32).toInt = 1000 := by decide
          have t54 : (1 : Int32).toInt = 1 := by decide
          have t55 : (1 : Int32).toInt ≤ p3.toInt ∧ p3.toInt ≤ (1000 : Int32).toInt := hi49 ((bit_of ⟨by omega, by omega⟩).resolve_left c51)
          refine lv_iconst (v := 0) hx hb dX12_dike_56 (by decide) ?_
          refine lv_iconst (v := 2) hx hb dX12_dike_57 (by decide) ?_
          have hFc := gA_free hG hA hS
          refine va_calli (va_runV (As := [.int 0, .int 2]) (rest := []) ⟨hx, hb, hml, hown, hts⟩ (s_throwsIf l dC dI kA adK adV G H q wZ wN wH wB wC wL wK wU wV PI im PM PT lS lB lE lN o0 0 2 hT hr_o0 (rg_t (a := 0) (by decide) (by first | decide | omega) (by first | decide | omega)) hgz hgn hgh hgb hgc hgi hgu) (cwV 2 hts (goodIn_app (goodIn_r _ [10, 11, 12, 6] rfl (by decide +kernel)) (goodIn_ca (goodIn_r _ [9, 1] rfl (by decide +kernel)) (bs_in _ _))) rfl rfl rfl (by decide +kernel) ⟨(Nat.le_of_ble_eq_true rfl), (Nat.le_of_ble_eq_true rfl)⟩) ⟨fun a U g mk q => by obtain ⟨q0, q1, qK, qE⟩ := q; exact ⟨q0, q1, va_K.moved (u := U) (U := U.calling g mk a) (Vm.Alike.refl U.vm) qK, EVS.blind g mk a qE⟩, gH_rc hK hT hr_o0 shm_0 rfl, fun U hU hW => ⟨rfl, hU, va_K.moved hW.alike hK, hE.call hS hFc hU hW⟩⟩ rfl rfl hl.1 rfl (lv_room (Nat.le_of_ble_eq_true rfl)) dX12_dike_58 ⟨(Nat.le_of_ble_eq_true rfl), (Nat.le_of_ble_eq_true rfl)⟩) hS (fun q _ h => hFc q h) hFc (fun r56 u t H locs ht hvm hw57 hB _ _ hS => ?_)
          obtain ⟨hT, hF1⟩ := hB
          rw [ht] at hT hF1
          have hF := hF.more hF1 (by decide)
          try dsimp only at hw57
          obtain ⟨h58, hd59⟩ := hw57
          obtain rfl : (0 : Int32) = r56 := hd59.symm
          refine lv_if_ne (tgt := 90) hx hb dX12_dike_61 (by decide) (fun c60 => absurd c60 (by decide)) (fun c60 => ?_)
          refine lv_aload_n hx hb dX12_dike_64 rfl (lv_at hl 0 rfl) ?_
          refine lv_aload_n hx hb dX12_dike_65 rfl (lv_at hl 0 rfl) ?_
          refine tw_get hx hb hts bF_X12 hown hK hT hr_o0 shm_0 rfl 1 (by decide) (ht_at hts 12 rfl) (fun _ h9 => h9) dX12_dike_66 (fun v9 m61 h9 => ?_)
          obtain ⟨rfl, hg62⟩ := h9 _ rfl
          refine lv_sipush (v := 1428) hx hb dX12_dike_69 (by decide) ?_
          refine tw_iald (i := 1428) hx hb hK hT hg62 shm_2 rfl (by unfold vp_in; decide) dX12_dike_72 (fun v9 m63 h9 => ?_)
          obtain ⟨x64, rfl, gx64, kx64⟩ := (gp_at h9 (w_wct (by have q9 := tn_of (show (1428 : Int32).toInt = 1428 from (by decide)) (show (0 : Int) ≤ 1428 from by omega); omega)))
          refine lv_bipush (v := 30) hx hb dX12_dike_73 (by decide) ?_
          refine lv_icmp_ne (tgt := 82) hx hb dX12_dike_75 (by decide) (fun c65 => ?_) (fun c65 => ?_)
          · have t66 : x64.toInt ≠ 30 := ti_ne c65 rfl (by decide)
            refine lv_iconst (v := 0) hx hb dX12_dike_82 (by decide) ?_
            refine lv_iconst (v := 3) hx hb dX12_dike_83 (by decide) ?_
            have hFc := gA_free hG hA hS
            refine va_calli (va_runV (As := [.int 0, .int 3]) (rest := []) ⟨hx, hb, hml, hown, hts⟩ (s_throwsIf l dC dI kA adK adV G H q wZ wN wH wB wC wL wK wU wV PI im PM PT lS lB lE lN o0 0 3 hT hr_o0 (rg_t (a := 0) (by decide) (by first | decide | omega) (by first | decide | omega)) hgz hgn hgh hgb hgc hgi hgu) (cwV 2 hts (goodIn_app (goodIn_r _ [10, 11, 12, 6] rfl (by decide +kernel)) (goodIn_ca (goodIn_r _ [9, 1] rfl (by decide +kernel)) (bs_in _ _))) rfl rfl rfl (by decide +kernel) ⟨(Nat.le_of_ble_eq_true rfl), (Nat.le_of_ble_eq_true rfl)⟩) ⟨fun a U g mk q => by obtain ⟨q0, q1, qK, qE⟩ := q; exact ⟨q0, q1, va_K.moved (u := U) (U := U.calling g mk a) (Vm.Alike.refl U.vm) qK, EVS.blind g mk a qE⟩, gH_rc hK hT hr_o0 shm_0 rfl, fun U hU hW => ⟨rfl, hU, va_K.moved hW.alike hK, hE.call hS hFc hU hW⟩⟩ rfl rfl hl.1 rfl (lv_room (Nat.le_of_ble_eq_true rfl)) dX12_dike_84 ⟨(Nat.le_of_ble_eq_true rfl), (Nat.le_of_ble_eq_true rfl)⟩) hS (fun q _ h => hFc q h) hFc (fun r67 u t H locs ht hvm hw68 hB _ _ hS => ?_)
            obtain ⟨hT, hF1⟩ := hB
            rw [ht] at hT hF1
            have m69 := (el_kept (hF1.arr hg62 skm_2 (by decide))).trans m63
            have hF := hF.more hF1 (by decide)
            try dsimp only at hw68
            obtain ⟨h70, hd71⟩ := hw68
            obtain rfl : (0 : Int32) = r67 := hd71.symm
            refine lv_if_eq (tgt := 92) hx hb dX12_dike_87 (by decide) (fun c72 => ?_) (fun c72 => absurd c72 (by decide))
            refine lv_aload_n hx hb dX12_dike_92 rfl (lv_at hl 0 rfl) ?_
            refine lv_iload_n hx hb dX12_dike_93 rfl (lv_at hl 1 rfl) ?_
            have hFc := gA_free hG hA hS
            refine va_calli (va_runV (As := [.int p0]) (rest := []) ⟨hx, hb, hml, hown, hts⟩ (s_noPlace l dC dI kA adK adV G H q wZ wN wH wB wC wL wK wU wV PI im PM PT lS lB lE lN o0 p0 hT hr_o0 (by have q8 := ti_all p0; omega) hgz hgn hgh hgb hgc hgi hgu) (cwV 1 hts (goodIn_app (goodIn_r _ [30, 31, 32, 6] rfl (by decide +kernel)) (goodIn_ca (goodIn_r _ [14, 15, 13, 16, 17, 18, 6, 19, 20, 21, 22, 23, 24, 25, 26, 27, 28, 29] rfl (by decide +kernel)) (bs_in _ _))) rfl rfl rfl (by decide +kernel) ⟨(Nat.le_of_ble_eq_true rfl), (Nat.le_of_ble_eq_true rfl)⟩) ⟨fun a U g mk q => by obtain ⟨q0, q1, qK, qE⟩ := q; exact ⟨q0, q1, va_K.moved (u := U) (U := U.calling g mk a) (Vm.Alike.refl U.vm) qK, EVS.blind g mk a qE⟩, gH_rc hK hT hr_o0 shm_0 rfl, fun U hU hW => ⟨rfl, hU, va_K.moved hW.alike hK, hE.call hS hFc hU hW⟩⟩ rfl rfl hl.1 rfl (lv_room (Nat.le_of_ble_eq_true rfl)) dX12_dike_94 ⟨(Nat.le_of_ble_eq_true rfl), (Nat.le_of_ble_eq_true rfl)⟩) hS (fun q _ h => hFc q h) hFc (fun r73 u t H locs ht hvm hw74 hB _ _ hS => ?_)
            obtain ⟨hT, hF1⟩ := hB
            rw [ht] at hT hF1
            have m75 := (el_kept (hF1.arr hg62 skm_2 (by decide))).trans m69
            have hF := hF.more hF1 (by decide)
            try dsimp only at hw74
            obtain ⟨h76, hi77⟩ := hw74
            refine lv_if_ne (tgt := 134) hx hb dX12_dike_97 (by decide) (fun c78 => ?_) (fun c78 => ?_)
            · have t79 : r73.toInt ≠ 0 := ti_ne c78 rfl (by decide)
              refine lv_iconst (v := (-1)) hx hb dX12_dike_134 (by decide) ?_
              exact W.iret (v := (-1)) hx hb hr (fun t ht hW => ⟨⟨(-1), (wC, wK, wU, wV), rfl, (by exact ⟨(rg_t (a := (-1)) (by decide) (by first | decide | omega) (by first | decide | omega)), ⟨hgw, by omega, by omega⟩⟩), by (try dsimp only); rw [ht]; exact ⟨hT, hF⟩⟩, hS.F ht⟩) hS.2.2 dX12_dike_135
            · have t80 : r73.toInt = 0 := ti_eq c78 rfl (by decide)
              have t81 : wL p0.toNatClampNeg ∧ ∀ w : Nat, (w : Int) < wC → (wU w : Int) ≠ p0.toInt := hi77 c78
              refine lv_aload_n hx hb dX12_dike_100 rfl (lv_at hl 0 rfl) ?_
              refine lv_iload_n hx hb dX12_dike_101 rfl (lv_at hl 2 rfl) ?_
              have hFc := gA_free hG hA hS
              refine va_calli (va_runV (As := [.int p1]) (rest := []) ⟨hx, hb, hml, hown, hts⟩ (s_isLand l dC dI kA adK adV G H q wZ wN wH wB wC wL wK wU wV PI im PM PT lS lB lE lN o0 p1 hT hr_o0 (by have q8 := ti_all p1; omega) hgz hgn hgh hgb hgc hgi hgu) (cwV 1 hts (goodIn_app (goodIn_r _ [16, 17, 18, 6] rfl (by decide +kernel)) (goodIn_ca (goodIn_r _ [15, 13] rfl (by decide +kernel)) (bs_in _ _))) rfl rfl rfl (by decide +kernel) ⟨(Nat.le_of_ble_eq_true rfl), (Nat.le_of_ble_eq_true rfl)⟩) ⟨fun a U g mk q => by obtain ⟨q0, q1, qK, qE⟩ := q; exact ⟨q0, q1, va_K.moved (u := U) (U := U.calling g mk a) (Vm.Alike.refl U.vm) qK, EVS.blind g mk a qE⟩, gH_rc hK hT hr_o0 shm_0 rfl, fun U hU hW => ⟨rfl, hU, va_K.moved hW.alike hK, hE.call hS hFc hU hW⟩⟩ rfl rfl hl.1 rfl (lv_room (Nat.le_of_ble_eq_true rfl)) dX12_dike_102 ⟨(Nat.le_of_ble_eq_true rfl), (Nat.le_of_ble_eq_true rfl)⟩) hS (fun q _ h => hFc q h) hFc (fun r82 u t H locs ht hvm hw83 hB _ _ hS => ?_)
              obtain ⟨hT, hF1⟩ := hB
              rw [ht] at hT hF1
              have m84 := (el_kept (hF1.arr hg62 skm_2 (by decide))).trans m75
              have hF := hF.more hF1 (by decide)
              try dsimp only at hw83
              obtain ⟨h85, hi86, hi87⟩ := hw83
              refine lv_if_ne (tgt := 134) hx hb dX12_dike_105 (by decide) (fun c88 => ?_) (fun c88 => ?_)
              · have t89 : r82.toInt ≠ 0 := ti_ne c88 rfl (by decide)
                have t90 : wL p1.toNatClampNeg := hi86 ((bit_of ⟨by omega, by omega⟩).resolve_left c88)
                refine lv_iconst (v := (-1)) hx hb dX12_dike_134 (by decide) ?_
                exact W.iret (v := (-1)) hx hb hr (fun t ht hW => ⟨⟨(-1), (wC, wK, wU, wV), rfl, (by exact ⟨(rg_t (a := (-1)) (by decide) (by first | decide | omega) (by first | decide | omega)), ⟨hgw, by omega, by omega⟩⟩), by (try dsimp only); rw [ht]; exact ⟨hT, hF⟩⟩, hS.F ht⟩) hS.2.2 dX12_dike_135
              · have t91 : r82.toInt = 0 := ti_eq c88 rfl (by decide)
                have t92 : ¬ wL p1.toNatClampNeg := hi87 c88
                refine lv_aload_n hx hb dX12_dike_108 rfl (lv_at hl 0 rfl) ?_
                refine lv_iload_n hx hb dX12_dike_109 rfl (lv_at hl 3 rfl) ?_
                have hFc := gA_free hG hA hS
                refine va_calli (va_runV (As := [.int p2]) (rest := []) ⟨hx, hb, hml, hown, hts⟩ (s_isLand l dC dI kA adK adV G H q wZ wN wH wB wC wL wK wU wV PI im PM PT lS lB lE lN o0 p2 hT hr_o0 (by have q8 := ti_all p2; omega) hgz hgn hgh hgb hgc hgi hgu) (cwV 1 hts (goodIn_app (goodIn_r _ [16, 17, 18, 6] rfl (by decide +kernel)) (goodIn_ca (goodIn_r _ [15, 13] rfl (by decide +kernel)) (bs_in _ _))) rfl rfl rfl (by decide +kernel) ⟨(Nat.le_of_ble_eq_true rfl), (Nat.le_of_ble_eq_true rfl)⟩) ⟨fun a U g mk q => by obtain ⟨q0, q1, qK, qE⟩ := q; exact ⟨q0, q1, va_K.moved (u := U) (U := U.calling g mk a) (Vm.Alike.refl U.vm) qK, EVS.blind g mk a qE⟩, gH_rc hK hT hr_o0 shm_0 rfl, fun U hU hW => ⟨rfl, hU, va_K.moved hW.alike hK, hE.call hS hFc hU hW⟩⟩ rfl rfl hl.1 rfl (lv_room (Nat.le_of_ble_eq_true rfl)) dX12_dike_110 ⟨(Nat.le_of_ble_eq_true rfl), (Nat.le_of_ble_eq_true rfl)⟩) hS (fun q _ h => hFc q h) hFc (fun r93 u t H locs ht hvm hw94 hB _ _ hS => ?_)
                obtain ⟨hT, hF1⟩ := hB
                rw [ht] at hT hF1
                have m95 := (el_kept (hF1.arr hg62 skm_2 (by decide))).trans m84
                have hF := hF.more hF1 (by decide)
                try dsimp only at hw94
                obtain ⟨h96, hi97, hi98⟩ := hw94
                refine lv_if_eq (tgt := 134) hx hb dX12_dike_113 (by decide) (fun c99 => ?_) (fun c99 => ?_)
                · have t100 : r93.toInt = 0 := ti_eq c99 rfl (by decide)
                  have t101 : ¬ wL p2.toNatClampNeg := hi98 c99
                  refine lv_iconst (v := (-1)) hx hb dX12_dike_134 (by decide) ?_
                  exact W.iret (v := (-1)) hx hb hr (fun t ht hW => ⟨⟨(-1), (wC, wK, wU, wV), rfl, (by exact ⟨(rg_t (a := (-1)) (by decide) (by first | decide | omega) (by first | decide | omega)), ⟨hgw, by omega, by omega⟩⟩), by (try dsimp only); rw [ht]; exact ⟨hT, hF⟩⟩, hS.F ht⟩) hS.2.2 dX12_dike_135
                · have t102 : r93.toInt ≠ 0 := ti_ne c99 rfl (by decide)
                  have t103 : wL p2.toNatClampNeg := hi97 ((bit_of ⟨by omega, by omega⟩).resolve_left c99)
                  refine lv_iload_n hx hb dX12_dike_116 rfl (lv_at hl 1 rfl) ?_
                  refine lv_iload_n hx hb dX12_dike_117 rfl (lv_at hl 2 rfl) ?_
                  have hFc := gA_free hG hA hS
                  refine va_calli (va_runS (As := [.int p0, .int p1]) (rest := []) ⟨hx, hb, hml, hown, hts⟩ (s_stepsD l dC dI kA adK adV G H q wZ wN wH wB wC wL wK wU wV PI im PM PT lS lB lE lN p0 p1 hT (by have q8 := ti_all p0; omega) (by have q8 := ti_all p1; omega) hgz hgn hgh hgb hgc hgi hgu) (va_cwS 2 hts (goodIn_app (goodIn_r _ [38, 39, 6] rfl (by decide +kernel)) (goodIn_ca (goodIn_r _ [33, 34, 35, 36, 37] rfl (by decide +kernel)) (bs_in _ _))) rfl rfl rfl (by decide +kernel) ⟨(Nat.le_of_ble_eq_true rfl), (Nat.le_of_ble_eq_true rfl)⟩) ⟨fun a U g mk q => by obtain ⟨q0, q1, qK, qE⟩ := q; exact ⟨q0, q1, va_K.moved (u := U) (U := U.calling g mk a) (Vm.Alike.refl U.vm) qK, EVS.blind g mk a qE⟩, fun U hU hW => ⟨rfl, hU, va_K.moved hW.alike hK, hE.call hS hFc hU hW⟩⟩ rfl rfl hl.1 rfl (lv_room (Nat.le_of_ble_eq_true rfl)) dX12_dike_118 ⟨(Nat.le_of_ble_eq_true rfl), (Nat.le_of_ble_eq_true rfl)⟩) hS (fun q _ h => hFc q h) hFc (fun r104 u t H locs ht hvm hw105 hB _ _ hS => ?_)
                  obtain ⟨hT, hF1⟩ := hB
                  rw [ht] at hT hF1
                  have m106 := (el_kept (hF1.arr hg62 skm_2 (by decide))).trans m95
                  have hF := hF.more hF1 (by decide)
                  try dsimp only at hw105
                  obtain ⟨h107, hf108⟩ := hw105
                  refine lv_iconst (v := 1) hx hb dX12_dike_121 (by decide) ?_
                  refine lv_icmp_ne (tgt := 134) hx hb dX12_dike_122 (by decide) (fun c109 => ?_) (fun c109 => ?_)
                  · have t110 : r104.toInt ≠ 1 := ti_ne c109 rfl (by decide)
                    refine lv_iconst (v := (-1)) hx hb dX12_dike_134 (by decide) ?_
                    exact W.iret (v := (-1)) hx hb hr (fun t ht hW => ⟨⟨(-1), (wC, wK, wU, wV), rfl, (by exact ⟨(rg_t (a := (-1)) (by decide) (by first | decide | omega) (by first | decide | omega)), ⟨hgw, by omega, by omega⟩⟩), by (try dsimp only); rw [ht]; exact ⟨hT, hF⟩⟩, hS.F ht⟩) hS.2.2 dX12_dike_135
                  · have t111 : r104.toInt = 1 := ti_eq c109 rfl (by decide)
                    refine lv_iload_n hx hb dX12_dike_125 rfl (lv_at hl 1 rfl) ?_
                    refine lv_iload_n hx hb dX12_dike_126 rfl (lv_at hl 3 rfl) ?_
                    have hFc := gA_free hG hA hS
                    refine va_calli (va_runS (As := [.int p0, .int p2]) (rest := []) ⟨hx, hb, hml, hown, hts⟩ (s_stepsD l dC dI kA adK adV G H q wZ wN wH wB wC wL wK wU wV PI im PM PT lS lB lE lN p0 p2 hT (by have q8 := ti_all p0; omega) (by have q8 := ti_all p2; omega) hgz hgn hgh hgb hgc hgi hgu) (va_cwS 2 hts (goodIn_app (goodIn_r _ [38, 39, 6] rfl (by decide +kernel)) (goodIn_ca (goodIn_r _ [33, 34, 35, 36, 37] rfl (by decide +kernel)) (bs_in _ _))) rfl rfl rfl (by decide +kernel) ⟨(Nat.le_of_ble_eq_true rfl), (Nat.le_of_ble_eq_true rfl)⟩) ⟨fun a U g mk q => by obtain ⟨q0, q1, qK, qE⟩ := q; exact ⟨q0, q1, va_K.moved (u := U) (U := U.calling g mk a) (Vm.Alike.refl U.vm) qK, EVS.blind g mk a qE⟩, fun U hU hW => ⟨rfl, hU, va_K.moved hW.alike hK, hE.call hS hFc hU hW⟩⟩ rfl rfl hl.1 rfl (lv_room (Nat.le_of_ble_eq_true rfl)) dX12_dike_127 ⟨(Nat.le_of_ble_eq_true rfl), (Nat.le_of_ble_eq_true rfl)⟩) hS (fun q _ h => hFc q h) hFc (fun r112 u t H locs ht hvm hw113 hB _ _ hS => ?_)
                    obtain ⟨hT, hF1⟩ := hB
                    rw [ht] at hT hF1
                    have m114 := (el_kept (hF1.arr hg62 skm_2 (by decide))).trans m106
                    have hF := hF.more hF1 (by decide)
                    try dsimp only at hw113
                    obtain ⟨h115, hf116⟩ := hw113
                    refine lv_iconst (v := 1) hx hb dX12_dike_130 (by decide) ?_
                    refine lv_icmp_eq (tgt := 136) hx hb dX12_dike_131 (by decide) (fun c117 => ?_) (fun c117 => ?_)
                    · have t118 : r112.toInt = 1 := ti_eq c117 rfl (by decide)
                      refine lv_aload_n hx hb dX12_dike_136 rfl (lv_at hl 0 rfl) ?_
                      refine lv_iconst (v := 0) hx hb dX12_dike_137 (by decide) ?_
                      refine lv_iload_n hx hb dX12_dike_138 rfl (lv_at hl 1 rfl) ?_
                      refine lv_iload_n hx hb dX12_dike_139 rfl (lv_at hl 3 rfl) ?_
                      refine lv_iload hx hb dX12_dike_140 (lv_at hl 4 rfl) ?_
                      refine lv_iconst (v := 0) hx hb dX12_dike_142 (by decide) ?_
                      have hFc := gA_free hG hA hS
                      refine va_calli (va_runV (As := [.int 0, .int p0, .int p2, .int p3, .int 0]) (rest := []) ⟨hx, hb, hml, hown, hts⟩ (s_builds l dC dI kA adK adV G H q wZ wN wH wB wC wL wK wU wV PI im PM PT lS lB lE lN o0 0 p0 p2 p3 0 hT hr_o0 (rg_t (a := 0) (by decide) (by first | decide | omega) (by first | decide | omega)) (by have q8 := ti_all p0; omega) (by have q8 := ti_all p2; omega) (rg_t (a := 0) (by decide) (by first | decide | omega) (by first | decide | omega)) (by assumption) (by omega) (show wL p0.toNatClampNeg ∧ ∀ w : Nat, (w : Int) < wC → (wU w : Int) ≠ p0.toInt from by assumption).1 (show wL p0.toNatClampNeg ∧ ∀ w : Nat, (w : Int) < wC → (wU w : Int) ≠ p0.toInt from by assumption).2 (by omega) (fun _ => by assumption) hgz hgn hgh hgb hgc hgi hgu) (cwV 5 hts (goodIn_app (goodIn_r _ [42, 43, 44, 6] rfl (by decide +kernel)) (goodIn_ca (goodIn_r _ [40, 13, 21, 22, 23, 6, 41] rfl (by decide +kernel)) (bs_in _ _))) rfl rfl rfl (by decide +kernel) ⟨(Nat.le_of_ble_eq_true rfl), (Nat.le_of_ble_eq_true rfl)⟩) ⟨fun a U g mk q => by obtain ⟨q0, q1, qK, qE⟩ := q; exact ⟨q0, q1, va_K.moved (u := U) (U := U.calling g mk a) (Vm.Alike.refl U.vm) qK, EVS.blind g mk a qE⟩, gH_rc hK hT hr_o0 shm_0 rfl, fun U hU hW => ⟨rfl, hU, va_K.moved hW.alike hK, hE.call hS hFc hU hW⟩⟩ rfl rfl hl.1 rfl (lv_room (Nat.le_of_ble_eq_true rfl)) dX12_dike_143 ⟨(Nat.le_of_ble_eq_true rfl), (Nat.le_of_ble_eq_true rfl)⟩) hS (fun q _ h => hFc q h) hFc (fun r119 u t H locs ht hvm hw120 hB _ _ hS => ?_)
                      obtain ⟨u121, u122, u123, u124⟩ := u
                      obtain ⟨hT, hF1⟩ := hB
                      rw [ht] at hT hF1
                      have hF := hF.more hF1 (by decide)
                      try dsimp only at hw120
                      obtain ⟨h126, hf127⟩ := hw120
                      exact W.iret (v := r119) hx hb hr (fun t ht hW => ⟨⟨r119, (u121, u122, u123, u124), rfl, (by exact ⟨(by have q8 := ti_all r119; omega), hf127⟩), by (try dsimp only); rw [ht]; exact ⟨hT, hF⟩⟩, hS.F ht⟩) hS.2.2 dX12_dike_146
                    · have t128 : r112.toInt ≠ 1 := ti_ne c117 rfl (by decide)
                      refine lv_iconst (v := (-1)) hx hb dX12_dike_134 (by decide) ?_
                      exact W.iret (v := (-1)) hx hb hr (fun t ht hW => ⟨⟨(-1), (wC, wK, wU, wV), rfl, (by exact ⟨(rg_t (a := (-1)) (by decide) (by first | decide | omega) (by first | decide | omega)), ⟨hgw, by omega, by omega⟩⟩), by (try dsimp only); rw [ht]; exact ⟨hT, hF⟩⟩, hS.F ht⟩) hS.2.2 dX12_dike_135
          · have t129 : x64.toInt = 30 := ti_eq c65 rfl (by decide)
            refine lv_iconst (v := 1) hx hb dX12_dike_78 (by decide) ?_
            refine lv_goto (tgt := 83) hx hb dX12_dike_79 (by decide) ?_
            refine lv_iconst (v := 3) hx hb dX12_dike_83 (by decide) ?_
            have hFc := gA_free hG hA hS
            refine va_calli (va_runV (As := [.int 1, .int 3]) (rest := []) ⟨hx, hb, hml, hown, hts⟩ (s_throwsIf l dC dI kA adK adV G H q wZ wN wH wB wC wL wK wU wV PI im PM PT lS lB lE lN o0 1 3 hT hr_o0 (rg_t (a := 1) (by decide) (by first | decide | omega) (by first | decide | omega)) hgz hgn hgh hgb hgc hgi hgu) (cwV 2 hts (goodIn_app (goodIn_r _ [10, 11, 12, 6] rfl (by decide +kernel)) (goodIn_ca (goodIn_r _ [9, 1] rfl (by decide +kernel)) (bs_in _ _))) rfl rfl rfl (by decide +kernel) ⟨(Nat.le_of_ble_eq_true rfl), (Nat.le_of_ble_eq_true rfl)⟩) ⟨fun a U g mk q => by obtain ⟨q0, q1, qK, qE⟩ := q; exact ⟨q0, q1, va_K.moved (u := U) (U := U.calling g mk a) (Vm.Alike.refl U.vm) qK, EVS.blind g mk a qE⟩, gH_rc hK hT hr_o0 shm_0 rfl, fun U hU hW => ⟨rfl, hU, va_K.moved hW.alike hK, hE.call hS hFc hU hW⟩⟩ rfl rfl hl.1 rfl (lv_room (Nat.le_of_ble_eq_true rfl)) dX12_dike_84 ⟨(Nat.le_of_ble_eq_true rfl), (Nat.le_of_ble_eq_true rfl)⟩) hS (fun q _ h => hFc q h) hFc (fun r130 u t H locs ht hvm hw131 hB _ _ hS => ?_)
            obtain ⟨hT, hF1⟩ := hB
            rw [ht] at hT hF1
            have m132 := (el_kept (hF1.arr hg62 skm_2 (by decide))).trans m63
            have hF := hF.more hF1 (by decide)
            try dsimp only at hw131
            obtain ⟨h133, hd134⟩ := hw131
            obtain rfl : (1 : Int32) = r130 := hd134.symm
            refine lv_if_eq (tgt := 92) hx hb dX12_dike_87 (by decide) (fun c135 => absurd c135 (by decide)) (fun c135 => ?_)
            refine lv_iconst (v := 0) hx hb dX12_dike_90 (by decide) ?_
            exact W.iret (v := 0) hx hb hr (fun t ht hW => ⟨⟨0, (wC, wK, wU, wV), rfl, (by exact ⟨(rg_t (a := 0) (by decide) (by first | decide | omega) (by first | decide | omega)), ⟨hgw, by omega, by omega⟩⟩), by (try dsimp only); rw [ht]; exact ⟨hT, hF⟩⟩, hS.F ht⟩) hS.2.2 dX12_dike_91
        · have t136 : r46.toInt = 0 := ti_eq c51 rfl (by decide)
          have t137 : (1000 : Int32).toInt = 1000 := by decide
          have t138 : (1 : Int32).toInt = 1 := by decide
          have t139 : p3.toInt < (1 : Int32).toInt ∨ (1000 : Int32).toInt < p3.toInt := hi50 c51
          refine lv_iconst (v := 1) hx hb dX12_dike_52 (by decide) ?_
          refine lv_goto (tgt := 57) hx hb dX12_dike_53 (by decide) ?_
          refine lv_iconst (v := 2) hx hb dX12_dike_57 (by decide) ?_
          have hFc := gA_free hG hA hS
          refine va_calli (va_runV (As := [.int 1, .int 2]) (rest := []) ⟨hx, hb, hml, hown, hts⟩ (s_throwsIf l dC dI kA adK adV G H q wZ wN wH wB wC wL wK wU wV PI im PM PT lS lB lE lN o0 1 2 hT hr_o0 (rg_t (a := 1) (by decide) (by first | decide | omega) (by first | decide | omega)) hgz hgn hgh hgb hgc hgi hgu) (cwV 2 hts (goodIn_app (goodIn_r _ [10, 11, 12, 6] rfl (by decide +kernel)) (goodIn_ca (goodIn_r _ [9, 1] rfl (by decide +kernel)) (bs_in _ _))) rfl rfl rfl (by decide +kernel) ⟨(Nat.le_of_ble_eq_true rfl), (Nat.le_of_ble_eq_true rfl)⟩) ⟨fun a U g mk q => by obtain ⟨q0, q1, qK, qE⟩ := q; exact ⟨q0, q1, va_K.moved (u := U) (U := U.calling g mk a) (Vm.Alike.refl U.vm) qK, EVS.blind g mk a qE⟩, gH_rc hK hT hr_o0 shm_0 rfl, fun U hU hW => ⟨rfl, hU, va_K.moved hW.alike hK, hE.call hS hFc hU hW⟩⟩ rfl rfl hl.1 rfl (lv_room (Nat.le_of_ble_eq_true rfl)) dX12_dike_58 ⟨(Nat.le_of_ble_eq_true rfl), (Nat.le_of_ble_eq_true rfl)⟩) hS (fun q _ h => hFc q h) hFc (fun r140 u t H locs ht hvm hw141 hB _ _ hS => ?_)
          obtain ⟨hT, hF1⟩ := hB
          rw [ht] at hT hF1
          have hF := hF.more hF1 (by decide)
          try dsimp only at hw141
          obtain ⟨h142, hd143⟩ := hw141
          obtain rfl : (1 : Int32) = r140 := hd143.symm
          refine lv_if_ne (tgt := 90) hx hb dX12_dike_61 (by decide) (fun c144 => ?_) (fun c144 => absurd c144 (by decide))
          refine lv_iconst (v := 0) hx hb dX12_dike_90 (by decide) ?_
          exact W.iret (v := 0) hx hb hr (fun t ht hW => ⟨⟨0, (wC, wK, wU, wV), rfl, (by exact ⟨(rg_t (a := 0) (by decide) (by first | decide | omega) (by first | decide | omega)), ⟨hgw, by omega, by omega⟩⟩), by (try dsimp only); rw [ht]; exact ⟨hT, hF⟩⟩, hS.F ht⟩) hS.2.2 dX12_dike_91
      · have t145 : r32.toInt ≠ 0 := ti_ne c37 rfl (by decide)
        refine lv_iconst (v := 1) hx hb dX12_dike_27 (by decide) ?_
        refine lv_goto (tgt := 32) hx hb dX12_dike_28 (by decide) ?_
        refine lv_iconst (v := 1) hx hb dX12_dike_32 (by decide) ?_
        have hFc := gA_free hG hA hS
        refine va_calli (va_runV (As := [.int 1, .int 1]) (rest := []) ⟨hx, hb, hml, hown, hts⟩ (s_throwsIf l dC dI kA adK adV G H q wZ wN wH wB wC wL wK wU wV PI im PM PT lS lB lE lN o0 1 1 hT hr_o0 (rg_t (a := 1) (by decide) (by first | decide | omega) (by first | decide | omega)) hgz hgn hgh hgb hgc hgi hgu) (cwV 2 hts (goodIn_app (goodIn_r _ [10, 11, 12, 6] rfl (by decide +kernel)) (goodIn_ca (goodIn_r _ [9, 1] rfl (by decide +kernel)) (bs_in _ _))) rfl rfl rfl (by decide +kernel) ⟨(Nat.le_of_ble_eq_true rfl), (Nat.le_of_ble_eq_true rfl)⟩) ⟨fun a U g mk q => by obtain ⟨q0, q1, qK, qE⟩ := q; exact ⟨q0, q1, va_K.moved (u := U) (U := U.calling g mk a) (Vm.Alike.refl U.vm) qK, EVS.blind g mk a qE⟩, gH_rc hK hT hr_o0 shm_0 rfl, fun U hU hW => ⟨rfl, hU, va_K.moved hW.alike hK, hE.call hS hFc hU hW⟩⟩ rfl rfl hl.1 rfl (lv_room (Nat.le_of_ble_eq_true rfl)) dX12_dike_33 ⟨(Nat.le_of_ble_eq_true rfl), (Nat.le_of_ble_eq_true rfl)⟩) hS (fun q _ h => hFc q h) hFc (fun r146 u t H locs ht hvm hw147 hB _ _ hS => ?_)
        obtain ⟨hT, hF1⟩ := hB
        rw [ht] at hT hF1
        have hF := hF.more hF1 (by decide)
        try dsimp only at hw147
        obtain ⟨h149, hd150⟩ := hw147
        obtain rfl : (1 : Int32) = r146 := hd150.symm
        refine lv_if_ne (tgt := 90) hx hb dX12_dike_36 (by decide) (fun c151 => ?_) (fun c151 => absurd c151 (by decide))
        refine lv_iconst (v := 0) hx hb dX12_dike_90 (by decide) ?_
        exact W.iret (v := 0) hx hb hr (fun t ht hW => ⟨⟨0, (wC, wK, wU, wV), rfl, (by exact ⟨(rg_t (a := 0) (by decide) (by first | decide | omega) (by first | decide | omega)), ⟨hgw, by omega, by omega⟩⟩), by (try dsimp only); rw [ht]; exact ⟨hT, hF⟩⟩, hS.F ht⟩) hS.2.2 dX12_dike_91
