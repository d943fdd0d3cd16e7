def w_s_land : List Cond := .code yX12_land cX12_land 8 (some .int) :: (HAppend.hAppend (α := List Cond) (β := List Cond) (γ := List Cond) [.fieldLink RX12 194 "SeaLandModel" "thrown" "I", .code yX12_noSquare cX12_noSquare 1 (some .boolean), .code yX12_in cX12_in 3 (some .boolean), .methodLink RX12 197 yX12_in, .static yX12_in, .initialized RX12, .methodLink RX12 220 yX12_noSquare, .static yX12_noSquare, .code yX12_throwsIf cX12_throwsIf 3 (some .boolean), .methodLink RX12 224 yX12_throwsIf, .instanceMethod yX12_throwsIf, .selects RX12 yX12_throwsIf yX12_throwsIf, .code yX12_hour cX12_hour 1 (some .int), .fieldLink RX12 9 "SeaLandModel" "world" "[I", .methodLink RX12 228 yX12_hour, .instanceMethod yX12_hour, .selects RX12 yX12_hour yX12_hour, .fieldLink RX12 238 "SeaLandModel" "rows" "I", .code yX12_isIn cX12_isIn 5 (some .boolean), .methodLink RX12 207 Lib.Math.min.name, .static Lib.Math.min.name, .initialized "java/lang/Math", .code Lib.Math.min.name Lib.Math.min.code 2 (some .int), .methodLink RX12 211 Lib.Math.max.name, .static Lib.Math.max.name, .code Lib.Math.max.name Lib.Math.max.code 2 (some .int), .methodLink RX12 232 yX12_isIn, .static yX12_isIn, .code yX12_isLand cX12_isLand 2 (some .boolean), .methodLink RX12 235 yX12_isLand, .instanceMethod yX12_isLand, .selects RX12 yX12_isLand yX12_isLand] bs)
set_option maxHeartbeats 4000000 in
set_option maxRecDepth 100000 in
theorem s_land (l : Launch) (dC : Nat → ClassId) (dI : Nat → Nat → Nat) (kA : Nat → ClassId) (adK adV : Nat → Nat) (G : gT) (H0 : Heap) (q : Nat → Nat) (wZ wN : Nat → Int) (wH wB wC : Int) (wL wK : Nat → Prop) (wU wV : Nat → Nat) (PI : Nat → Int → Prop) (im : Int) (PM PT : Nat → Int → Prop) (lS lB lE : Nat → Nat → Int → Prop) (lN : Nat → Int) (o0 : Nat) (p0 : Int32) (p1 : Int32) (p2 : Int32) (p3 : Int32) (p4 : Int32)  (hT : gH (dC, dI) kA (SHm q (wP wZ0 wN wH wB wC wL wK wU wV) PI im PM PT lS lB lE lN) G H0) (hr_o0 : G o0 = some 0) (hgz : ∀ i, 0 ≤ wZ i) (hgn : ∀ i, 6500000 ≤ wN i ∧ wN i ≤ 20200000) (hgh : 0 ≤ wH ∧ wH ≤ 40000) (hgb : 0 ≤ wB ∧ wB ≤ 3850000) (hgc : 0 ≤ wC ∧ wC ≤ 30) (hgi : 0 ≤ im ∧ im ≤ 1) (hgu : ∀ a t, G a = some (t + 1) → a = q t) : Met l yX12_land w_s_land ({ frames := 2, cells := 0, slots := 0, locals := 64 }) (va_Pc [.ref o0, .int p0, .int p1, .int p2, .int p3, .int p4] (fun U => U.heap = H0 ∧ va_K (dC, dI) vwCl (tyl kA) U ∧ EVS adK adV (gA G H0.size) U U.heap)) (va_Qi (fun (r : Int32) (u : (Nat → Prop)) => (∀ j, wL j → u j)) (fun (wL1 : (Nat → Prop)) (t : State) => gH (dC, dI) kA (SHm q (wP wZ0 wN wH wB wC wL1 wK wU wV) PI im PM PT lS lB lE lN) G t.heap ∧ gF (dC, dI) SKm G ([(0, 0), (0, 9), (2, 0)] : List (Nat × Nat)) H0 t.heap) (gA G H0.size)) 0 0 (gA G H0.size) := by
  refine Met.ofW (cc := cX12_land) (maxL := 8) (ret := (some .int)) (by decide) rfl ?_
  intro p e s m args below meth c s₁ B hml hv
  obtain ⟨rfl, hH0, hK, hE⟩ := hv
  have hx := B.exec
  have hb := B.bytes
  have hr := B.returns
  have hts := atoms_spec (ws := w_s_land) B.pre
  have hown : s.vm.findClass RX12 = some m.cls := findClass_of_methodNamed B.named
  have hlocks := B.notSynchronized
  subst hH0
  generalize hAe : gA G s.heap.size = A at hE ⊢
  have hA : ∀ q : Nat, s.heap.size ≤ q → A q := fun q h => by rw [← hAe]; exact Or.inr h
  have hG := gA_of hAe
  have hS : va_S A s.heap s.heap [] := va_S.rf
  have hF : gF (dC, dI) SKm G ([(0, 0), (0, 9), (2, 0)] : List (Nat × Nat)) s.heap s.heap := gF.rf
  have hl := lv_entry ([.ref o0, .int p0, .int p1, .int p2, .int p3, .int p4]) (n := 8) (Nat.le_of_ble_eq_true rfl)
  rw [lg_entry_eq]
  generalize (lg_sl ([.ref o0, .int p0, .int p1, .int p2, .int p3, .int p4]) ++ List.replicate (8 - (lg_sl ([.ref o0, .int p0, .int p1, .int p2, .int p3, .int p4])).length) Slot.unset).toArray = ls at hl ⊢
  have hl : lv_has ls 8 [(0, .ref o0), (1, .int p0), (2, .int p1), (3, .int p2), (4, .int p3), (5, .int p4)] := hl
  refine lv_aload_n hx hb dX12_land_0 rfl (lv_at hl 0 rfl) ?_
  refine lv_iconst (v := 0) hx hb dX12_land_1 (by decide) ?_
  refine tw_put (v := .int 0) (ty := .int) hx hb hts bF_X12 tyX12 tyX12_ok nmX12 hown hK hT hG hS hr_o0 shm_0 rfl 0 (by decide) (ht_at hts 0 rfl) (fun _ h9 => h9) rfl (by decide +kernel) rfl rfl (gl_at rfl (gi_all _)) dX12_land_2 (fun H locs hT oq m1 oj hS => ?_)
  have hF := hF.put hr_o0 skm_0 oq oj (by decide)
  refine lv_aload_n hx hb dX12_land_5 rfl (lv_at hl 0 rfl) ?_
  refine lv_iload_n hx hb dX12_land_6 rfl (lv_at hl 1 rfl) ?_
  have hFc := gA_free hG hA hS
  refine va_calli (va_runS (As := [.int p0]) (rest := [.ref o0]) ⟨hx, hb, hml, hown, hts⟩ (s_noSquare l dC dI kA adK adV G H q wZ0 wN wH wB wC wL wK wU wV PI im PM PT lS lB lE lN p0 hT (fun _ => Int.le_refl 0) hgn hgh hgb hgc hgi hgu) (va_cwS 1 hts (goodIn_app (goodIn_r _ [7, 8, 6] rfl (by decide +kernel)) (goodIn_ca (goodIn_r _ [2, 3, 4, 5, 6] rfl (by decide +kernel)) (bs_in _ _))) rfl rfl rfl (by decide +kernel) ⟨(Nat.le_of_ble_eq_true rfl), (Nat.le_of_ble_eq_true rfl)⟩) ⟨fun a U g mk q => by obtain ⟨q0, q1, qK, qE⟩ := q; exact ⟨q0, q1, va_K.moved (u := U) (U := U.calling g mk a) (Vm.Alike.refl U.vm) qK, EVS.blind g mk a qE⟩, fun U hU hW => ⟨rfl, hU, va_K.moved hW.alike hK, hE.call hS hFc hU hW⟩⟩ rfl rfl hl.1 rfl (lv_room (Nat.le_of_ble_eq_true rfl)) dX12_land_7 ⟨(Nat.le_of_ble_eq_true rfl), (Nat.le_of_ble_eq_true rfl)⟩) hS (fun q _ h => hFc q h) hFc (fun r2 u t H locs ht hvm hw3 hB _ _ hS => ?_)
  obtain ⟨hT, hF1⟩ := hB
  rw [ht] at hT hF1
  have hF := hF.more hF1 (by decide)
  try dsimp only at hw3
  obtain ⟨h5, hi6⟩ := hw3
  refine lv_if_ne (tgt := 20) hx hb dX12_land_10 (by decide) (fun c7 => ?_) (fun c7 => ?_)
  · have t8 : r2.toInt ≠ 0 := ti_ne c7 rfl (by decide)
    refine lv_iconst (v := 1) hx hb dX12_land_20 (by decide) ?_
    refine lv_goto (tgt := 25) hx hb dX12_land_21 (by decide) ?_
    refine lv_iconst (v := 1) hx hb dX12_land_25 (by decide) ?_
    have hFc := gA_free hG hA hS
    refine va_calli (va_runV (As := [.int 1, .int 1]) (rest := []) ⟨hx, hb, hml, hown, hts⟩ (s_throwsIf l dC dI kA adK adV G H q wZ0 wN wH wB wC wL wK wU wV PI im PM PT lS lB lE lN o0 1 1 hT hr_o0 (rg_t (a := 1) (by decide) (by first | decide | omega) (by first | decide | omega)) (fun _ => Int.le_refl 0) hgn hgh hgb hgc hgi hgu) (cwV 2 hts (goodIn_app (goodIn_r _ [10, 11, 12, 6] rfl (by decide +kernel)) (goodIn_ca (goodIn_r _ [9, 1] rfl (by decide +kernel)) (bs_in _ _))) rfl rfl rfl (by decide +kernel) ⟨(Nat.le_of_ble_eq_true rfl), (Nat.le_of_ble_eq_true rfl)⟩) ⟨fun a U g mk q => by obtain ⟨q0, q1, qK, qE⟩ := q; exact ⟨q0, q1, va_K.moved (u := U) (U := U.calling g mk a) (Vm.Alike.refl U.vm) qK, EVS.blind g mk a qE⟩, gH_rc hK hT hr_o0 shm_0 rfl, fun U hU hW => ⟨rfl, hU, va_K.moved hW.alike hK, hE.call hS hFc hU hW⟩⟩ rfl rfl hl.1 rfl (lv_room (Nat.le_of_ble_eq_true rfl)) dX12_land_26 ⟨(Nat.le_of_ble_eq_true rfl), (Nat.le_of_ble_eq_true rfl)⟩) hS (fun q _ h => hFc q h) hFc (fun r9 u t H locs ht hvm hw10 hB _ _ hS => ?_)
    obtain ⟨hT, hF1⟩ := hB
    rw [ht] at hT hF1
    have hF := hF.more hF1 (by decide)
    try dsimp only at hw10
    obtain ⟨h12, hd13⟩ := hw10
    obtain rfl : (1 : Int32) = r9 := hd13.symm
    refine lv_if_ne (tgt := 99) hx hb dX12_land_29 (by decide) (fun c14 => ?_) (fun c14 => absurd c14 (by decide))
    refine lv_iconst (v := 0) hx hb dX12_land_99 (by decide) ?_
    exact W.iret (v := 0) hx hb hr (fun t ht hW => ⟨⟨0, wL, rfl, (by exact (fun _ h9 => h9)), by (try dsimp only); rw [ht]; exact ⟨hT, hF⟩⟩, hS.F ht⟩) hS.2.2 dX12_land_100
  · have t15 : r2.toInt = 0 := ti_eq c7 rfl (by decide)
    have t16 : 0 ≤ p0.toInt ∧ p0.toInt ≤ 95 := hi6 c7
    refine lv_iload_n hx hb dX12_land_13 rfl (lv_at hl 2 rfl) ?_
    have hFc := gA_free hG hA hS
    refine va_calli (va_runS (As := [.int p1]) (rest := [.ref o0]) ⟨hx, hb, hml, hown, hts⟩ (s_noSquare l dC dI kA adK adV G H q wZ0 wN wH wB wC wL wK wU wV PI im PM PT lS lB lE lN p1 hT (fun _ => Int.le_refl 0) hgn hgh hgb hgc hgi hgu) (va_cwS 1 hts (goodIn_app (goodIn_r _ [7, 8, 6] rfl (by decide +kernel)) (goodIn_ca (goodIn_r _ [2, 3, 4, 5, 6] rfl (by decide +kernel)) (bs_in _ _))) rfl rfl rfl (by decide +kernel) ⟨(Nat.le_of_ble_eq_true rfl), (Nat.le_of_ble_eq_true rfl)⟩) ⟨fun a U g mk q => by obtain ⟨q0, q1, qK, qE⟩ := q; exact ⟨q0, q1, va_K.moved (u := U) (U := U.calling g mk a) (Vm.Alike.refl U.vm) qK, EVS.blind g mk a qE⟩, fun U hU hW => ⟨rfl, hU, va_K.moved hW.alike hK, hE.call hS hFc hU hW⟩⟩ rfl rfl hl.1 rfl (lv_room (Nat.le_of_ble_eq_true rfl)) dX12_land_14 ⟨(Nat.le_of_ble_eq_true rfl), (Nat.le_of_ble_eq_true rfl)⟩) hS (fun q _ h => hFc q h) hFc (fun r17 u t H locs ht hvm hw18 hB _ _ hS => ?_)
    obtain ⟨hT, hF1⟩ := hB
    rw [ht] at hT hF1
    have hF := hF.more hF1 (by decide)
    try dsimp only at hw18
    obtain ⟨h20, hi21⟩ := hw18
    refine lv_if_eq (tgt := 24) hx hb dX12_land_17 (by decide) (fun c22 => ?_) (fun c22 => ?_)
    · have t23 : r17.toInt = 0 := ti_eq c22 rfl (by decide)
      have t24 : 0 ≤ p1.toInt ∧ p1.toInt ≤ 95 := hi21 c22
      refine lv_iconst (v := 0) hx hb dX12_land_24 (by decide) ?_
      refine lv_iconst (v := 1) hx hb dX12_land_25 (by decide) ?_
      have hFc := gA_free hG hA hS
      refine va_calli (va_runV (As := [.int 0, .int 1]) (rest := []) ⟨hx, hb, hml, hown, hts⟩ (s_throwsIf l dC dI kA adK adV G H q wZ0 wN wH wB wC wL wK wU wV PI im PM PT lS lB lE lN o0 0 1 hT hr_o0 (rg_t (a := 0) (by decide) (by first | decide | omega) (by first | decide | omega)) (fun _ => Int.le_refl 0) hgn hgh hgb hgc hgi hgu) (cwV 2 hts (goodIn_app (goodIn_r _ [10, 11, 12, 6] rfl (by decide +kernel)) (goodIn_ca (goodIn_r _ [9, 1] rfl (by decide +kernel)) (bs_in _ _))) rfl rfl rfl (by decide +kernel) ⟨(Nat.le_of_ble_eq_true rfl), (Nat.le_of_ble_eq_true rfl)⟩) ⟨fun a U g mk q => by obtain ⟨q0, q1, qK, qE⟩ := q; exact ⟨q0, q1, va_K.moved (u := U) (U := U.calling g mk a) (Vm.Alike.refl U.vm) qK, EVS.blind g mk a qE⟩, gH_rc hK hT hr_o0 shm_0 rfl, fun U hU hW => ⟨rfl, hU, va_K.moved hW.alike hK, hE.call hS hFc hU hW⟩⟩ rfl rfl hl.1 rfl (lv_room (Nat.le_of_ble_eq_true rfl)) dX12_land_26 ⟨(Nat.le_of_ble_eq_true rfl), (Nat.le_of_ble_eq_true rfl)⟩) hS (fun q _ h => hFc q h) hFc (fun r25 u t H locs ht hvm hw26 hB _ _ hS => ?_)
      obtain ⟨hT, hF1⟩ := hB
      rw [ht] at hT hF1
      have hF := hF.more hF1 (by decide)
      try dsimp only at hw26
      obtain ⟨h28, hd29⟩ := hw26
      obtain rfl : (0 : Int32) = r25 := hd29.symm
      refine lv_if_ne (tgt := 99) hx hb dX12_land_29 (by decide) (fun c30 => absurd c30 (by decide)) (fun c30 => ?_)
      refine lv_aload_n hx hb dX12_land_32 rfl (lv_at hl 0 rfl) ?_
      refine lv_iload_n hx hb dX12_land_33 rfl (lv_at hl 3 rfl) ?_
      refine lv_sipush (v := (-900)) hx hb dX12_land_34 (by decide) ?_
      refine lv_sipush (v := 300) hx hb dX12_land_37 (by decide) ?_
      have hFc := gA_free hG hA hS
      refine va_calli (va_runS (As := [.int p2, .int (-900), .int 300]) (rest := [.ref o0]) ⟨hx, hb, hml, hown, hts⟩ (s_in l dC dI kA adK adV G H q wZ0 wN wH wB wC wL wK wU wV PI im PM PT lS lB lE lN p2 (-900) 300 hT (fun _ => Int.le_refl 0) hgn hgh hgb hgc hgi hgu) (va_cwS 3 hts (goodIn_app (goodIn_r _ [4, 5, 6] rfl (by decide +kernel)) (goodIn_ca (goodIn_r _ [3] rfl (by decide +kernel)) (bs_in _ _))) rfl rfl rfl (by decide +kernel) ⟨(Nat.le_of_ble_eq_true rfl), (Nat.le_of_ble_eq_true rfl)⟩) ⟨fun a U g mk q => by obtain ⟨q0, q1, qK, qE⟩ := q; exact ⟨q0, q1, va_K.moved (u := U) (U := U.calling g mk a) (Vm.Alike.refl U.vm) qK, EVS.blind g mk a qE⟩, fun U hU hW => ⟨rfl, hU, va_K.moved hW.alike hK, hE.call hS hFc hU hW⟩⟩ rfl rfl hl.1 rfl (lv_room (Nat.le_of_ble_eq_true rfl)) dX12_land_40 ⟨(Nat.le_of_ble_eq_true rfl), (Nat.le_of_ble_eq_true rfl)⟩) hS (fun q _ h => hFc q h) hFc (fun r31 u t H locs ht hvm hw32 hB _ _ hS => ?_)
      obtain ⟨hT, hF1⟩ := hB
      rw [ht] at hT hF1
      have hF := hF.more hF1 (by decide)
      try dsimp only at hw32
      obtain ⟨h33, hi34, hi35⟩ := hw32
      refine lv_if_eq (tgt := 67) hx hb dX12_land_43 (by decide) (fun c36 => ?_) (fun c36 => ?_)
      · have t37 : r31.toInt = 0 := ti_eq c36 rfl (by decide)
        have t38 : (300 : Int32).toInt = 300 := by decide
        have t39 : (-900 : Int32).toInt = (-900) := by decide
        have t40 : p2.toInt < (-900 : Int32).toInt ∨ (300 : Int32).toInt < p2.toInt := hi35 c36
        refine lv_iconst (v := 1) hx hb dX12_land_67 (by decide) ?_
        refine lv_goto (tgt := 72) hx hb dX12_land_68 (by decide) ?_
        refine lv_iconst (v := 2) hx hb dX12_land_72 (by decide) ?_
        have hFc := gA_free hG hA hS
        refine va_calli (va_runV (As := [.int 1, .int 2]) (rest := []) ⟨hx, hb, hml, hown, hts⟩ (s_throwsIf l dC dI kA adK adV G H q wZ0 wN wH wB wC wL wK wU wV PI im PM PT lS lB lE lN o0 1 2 hT hr_o0 (rg_t (a := 1) (by decide) (by first | decide | omega) (by first | decide | omega)) (fun _ => Int.le_refl 0) hgn hgh hgb hgc hgi hgu) (cwV 2 hts (goodIn_app (goodIn_r _ [10, 11, 12, 6] rfl (by decide +kernel)) (goodIn_ca (goodIn_r _ [9, 1] rfl (by decide +kernel)) (bs_in _ _))) rfl rfl rfl (by decide +kernel) ⟨(Nat.le_of_ble_eq_true rfl), (Nat.le_of_ble_eq_true rfl)⟩) ⟨fun a U g mk q => by obtain ⟨q0, q1, qK, qE⟩ := q; exact ⟨q0, q1, va_K.moved (u := U) (U := U.calling g mk a) (Vm.Alike.refl U.vm) qK, EVS.blind g mk a qE⟩, gH_rc hK hT hr_o0 shm_0 rfl, fun U hU hW => ⟨rfl, hU, va_K.moved hW.alike hK, hE.call hS hFc hU hW⟩⟩ rfl rfl hl.1 rfl (lv_room (Nat.le_of_ble_eq_true rfl)) dX12_land_73 ⟨(Nat.le_of_ble_eq_true rfl), (Nat.le_of_ble_eq_true rfl)⟩) hS (fun q _ h => hFc q h) hFc (fun r41 u t H locs ht hvm hw42 hB _ _ hS => ?_)
        obtain ⟨hT, hF1⟩ := hB
        rw [ht] at hT hF1
        have hF := hF.more hF1 (by decide)
        try dsimp only at hw42
        obtain ⟨h43, hd44⟩ := hw42
        obtain rfl : (1 : Int32) = r41 := hd44.symm
        refine lv_if_ne (tgt := 99) hx hb dX12_land_76 (by decide) (fun c45 => ?_) (fun c45 => absurd c45 (by decide))
        refine lv_iconst (v := 0) hx hb dX12_land_99 (by decide) ?_
        exact W.iret (v := 0) hx hb hr (fun t ht hW => ⟨⟨0, wL, rfl, (by exact (fun _ h9 => h9)), by (try dsimp only); rw [ht]; exact ⟨hT, hF⟩⟩, hS.F ht⟩) hS.2.2 dX12_land_100
      · have t46 : r31.toInt ≠ 0 := ti_ne c36 rfl (by decide)
        have t47 : (300 : Int32).toInt = 300 := by decide
        have t48 : (-900 : Int32).toInt = (-900) := by decide
        have t49 : (-900 : Int32).toInt ≤ p2.toInt ∧ p2.toInt ≤ (300 : Int32).toInt := hi34 ((bit_of ⟨by omega, by omega⟩).resolve_left c36)
        refine lv_iload hx hb dX12_land_46 (lv_at hl 4 rfl) ?_
        refine lv_iconst (v := 0) hx hb dX12_land_48 (by decide) ?_
        refine lv_iconst (v := 2) hx hb dX12_land_49 (by decide) ?_
        have hFc := gA_free hG hA hS
        refine va_calli (va_runS (As := [.int p3, .int 0, .int 2]) (rest := [.ref o0]) ⟨hx, hb, hml, hown, hts⟩ (s_in l dC dI kA adK adV G H q wZ0 wN wH wB wC wL wK wU wV PI im PM PT lS lB lE lN p3 0 2 hT (fun _ => Int.le_refl 0) hgn hgh hgb hgc hgi hgu) (va_cwS 3 hts (goodIn_app (goodIn_r _ [4, 5, 6] rfl (by decide +kernel)) (goodIn_ca (goodIn_r _ [3] rfl (by decide +kernel)) (bs_in _ _))) rfl rfl rfl (by decide +kernel) ⟨(Nat.le_of_ble_eq_true rfl), (Nat.le_of_ble_eq_true rfl)⟩) ⟨fun a U g mk q => by obtain ⟨q0, q1, qK, qE⟩ := q; exact ⟨q0, q1, va_K.moved (u := U) (U := U.calling g mk a) (Vm.Alike.refl U.vm) qK, EVS.blind g mk a qE⟩, fun U hU hW => ⟨rfl, hU, va_K.moved hW.alike hK, hE.call hS hFc hU hW⟩⟩ rfl rfl hl.1 rfl (lv_room (Nat.le_of_ble_eq_true rfl)) dX12_land_50 ⟨(Nat.le_of_ble_eq_true rfl), (Nat.le_of_ble_eq_true rfl)⟩) hS (fun q _ h => hFc q h) hFc (fun r50 u t H locs ht hvm hw51 hB _ _ hS => ?_)
        obtain ⟨hT, hF1⟩ := hB
        rw [ht] at hT hF1
        have hF := hF.more hF1 (by decide)
        try dsimp only at hw51
        obtain ⟨h52, hi53, hi54⟩ := hw51
        refine lv_if_eq (tgt := 67) hx hb dX12_land_53 (by decide) (fun c55 => ?_) (fun c55 => ?_)
        · have t56 : r50.toInt = 0 := ti_eq c55 rfl (by decide)
          have t57 : (2 : Int32).toInt = 2 := by decide
          have t58 : (0 : Int32).toInt = 0 := by decide
          have t59 : p3.toInt < (0 : Int32).toInt ∨ (2 : Int32).toInt < p3.toInt := hi54 c55
          refine lv_iconst (v := 1) hx hb dX12_land_67 (by decide) ?_
          refine lv_goto (tgt := 72) hx hb dX12_land_68 (by decide) ?_
          refine lv_iconst (v := 2) hx hb dX12_land_72 (by decide) ?_
          have hFc := gA_free hG hA hS
          refine va_calli (va_runV (As := [.int 1, .int 2]) (rest := []) ⟨hx, hb, hml, hown, hts⟩ (s_throwsIf l dC dI kA adK adV G H q wZ0 wN wH wB wC wL wK wU wV PI im PM PT lS lB lE lN o0 1 2 hT hr_o0 (rg_t (a := 1) (by decide) (by first | decide | omega) (by first | decide | omega)) (fun _ => Int.le_refl 0) hgn hgh hgb hgc hgi hgu) (cwV 2 hts (goodIn_app (goodIn_r _ [10, 11, 12, 6] rfl (by decide +kernel)) (goodIn_ca (goodIn_r _ [9, 1] rfl (by decide +kernel)) (bs_in _ _))) rfl rfl rfl (by decide +kernel) ⟨(Nat.le_of_ble_eq_true rfl), (Nat.le_of_ble_eq_true rfl)⟩) ⟨fun a U g mk q => by obtain ⟨q0, q1, qK, qE⟩ := q; exact ⟨q0, q1, va_K.moved (u := U) (U := U.calling g mk a) (Vm.Alike.refl U.vm) qK, EVS.blind g mk a qE⟩, gH_rc hK hT hr_o0 shm_0 rfl, fun U hU hW => ⟨rfl, hU, va_K.moved hW.alike hK, hE.call hS hFc hU hW⟩⟩ rfl rfl hl.1 rfl (lv_room (Nat.le_of_ble_eq_true rfl)) dX12_land_73 ⟨(Nat.le_of_ble_eq_true rfl), (Nat.le_of_ble_eq_true rfl)⟩) hS (fun q _ h => hFc q h) hFc (fun r60 u t H locs ht hvm hw61 hB _ _ hS => ?_)
          obtain ⟨hT, hF1⟩ := hB
          rw [ht] at hT hF1
          have hF := hF.more hF1 (by decide)
          try dsimp only at hw61
          obtain ⟨h62, hd63⟩ := hw61
          obtain rfl : (1 : Int32) = r60 := hd63.symm
          refine lv_if_ne (tgt := 99) hx hb dX12_land_76 (by decide) (fun c64 => ?_) (fun c64 => absurd c64 (by decide))
          refine lv_iconst (v := 0) hx hb dX12_land_99 (by decide) ?_
          exact W.iret (v := 0) hx hb hr (fun t ht hW => ⟨⟨0, wL, rfl, (by exact (fun _ h9 => h9)), by (try dsimp only); rw [ht]; exact ⟨hT, hF⟩⟩, hS.F ht⟩) hS.2.2 dX12_land_100
        · have t65 : r50.toInt ≠ 0 := ti_ne c55 rfl (by decide)
          have t66 : (2 : Int32).toInt = 2 := by decide
          have t67 : (0 : Int32).toInt = 0 := by decide
          have t68 : (0 : Int32).toInt ≤ p3.toInt ∧ p3.toInt ≤ (2 : Int32).toInt := hi53 ((bit_of ⟨by omega, by omega⟩).resolve_left c55)
          refine lv_iload hx hb dX12_land_56 (lv_at hl 5 rfl) ?_
          refine lv_iconst (v := 0) hx hb dX12_land_58 (by decide) ?_
          refine lv_bipush (v := 20) hx hb dX12_land_59 (by decide) ?_
          have hFc := gA_free hG hA hS
          refine va_calli (va_runS (As := [.int p4, .int 0, .int 20]) (rest := [.ref o0]) ⟨hx, hb, hml, hown, hts⟩ (s_in l dC dI kA adK adV G H q wZ0 wN wH wB wC wL wK wU wV PI im PM PT lS lB lE lN p4 0 20 hT (fun _ => Int.le_refl 0) hgn hgh hgb hgc hgi hgu) (va_cwS 3 hts (goodIn_app (goodIn_r _ [4, 5, 6] rfl (by decide +kernel)) (goodIn_ca (goodIn_r _ [3] rfl (by decide +kernel)) (bs_in _ _))) rfl rfl rfl (by decide +kernel) ⟨(Nat.le_of_ble_eq_true rfl), (Nat.le_of_ble_eq_true rfl)⟩) ⟨fun a U g mk q => by obtain ⟨q0, q1, qK, qE⟩ := q; exact ⟨q0, q1, va_K.moved (u := U) (U := U.calling g mk a) (Vm.Alike.refl U.vm) qK, EVS.blind g mk a qE⟩, fun U hU hW => ⟨rfl, hU, va_K.moved hW.alike hK, hE.call hS hFc hU hW⟩⟩ rfl rfl hl.1 rfl (lv_room (Nat.le_of_ble_eq_true rfl)) dX12_land_61 ⟨(Nat.le_of_ble_eq_true rfl), (Nat.le_of_ble_eq_true rfl)⟩) hS (fun q _ h => hFc q h) hFc (fun r69 u t H locs ht hvm hw70 hB _ _ hS => ?_)
          obtain ⟨hT, hF1⟩ := hB
          rw [ht] at hT hF1
          have hF := hF.more hF1 (by decide)
          try dsimp only at hw70
          obtain ⟨h71, hi72, hi73⟩ := hw70
          refine lv_if_ne (tgt := 71) hx hb dX12_land_64 (by decide) (fun c74 => ?_) (fun c74 => ?_)
          · have t75 : r69.toInt ≠ 0 := ti_ne c74 rfl (by decide)
            have t76 : (20 : Int32).toInt = 20 := by decide
            have t77 : (0 : Int32).toInt = 0 := by decide
            have t78 : (0 : Int32).toInt ≤ p4.toInt ∧ p4.toInt ≤ (20 : Int32).toInt := hi72 ((bit_of ⟨by omega, by omega⟩).resolve_left c74)
            refine lv_iconst (v := 0) hx hb dX12_land_71 (by decide) ?_
            refine lv_iconst (v := 2) hx hb dX12_land_72 (by decide) ?_
            have hFc := gA_free hG hA hS
            refine va_calli (va_runV (As := [.int 0, .int 2]) (rest := []) ⟨hx, hb, hml, hown, hts⟩ (s_throwsIf l dC dI kA adK adV G H q wZ0 wN wH wB wC wL wK wU wV PI im PM PT lS lB lE lN o0 0 2 hT hr_o0 (rg_t (a := 0) (by decide) (by first | decide | omega) (by first | decide | omega)) (fun _ => Int.le_refl 0) hgn hgh hgb hgc hgi hgu) (cwV 2 hts (goodIn_app (goodIn_r _ [10, 11, 12, 6] rfl (by decide +kernel)) (goodIn_ca (goodIn_r _ [9, 1] rfl (by decide +kernel)) (bs_in _ _))) rfl rfl rfl (by decide +kernel) ⟨(Nat.le_of_ble_eq_true rfl), (Nat.le_of_ble_eq_true rfl)⟩) ⟨fun a U g mk q => by obtain ⟨q0, q1, qK, qE⟩ := q; exact ⟨q0, q1, va_K.moved (u := U) (U := U.calling g mk a) (Vm.Alike.refl U.vm) qK, EVS.blind g mk a qE⟩, gH_rc hK hT hr_o0 shm_0 rfl, fun U hU hW => ⟨rfl, hU, va_K.moved hW.alike hK, hE.call hS hFc hU hW⟩⟩ rfl rfl hl.1 rfl (lv_room (Nat.le_of_ble_eq_true rfl)) dX12_land_73 ⟨(Nat.le_of_ble_eq_true rfl), (Nat.le_of_ble_eq_true rfl)⟩) hS (fun q _ h => hFc q h) hFc (fun r79 u t H locs ht hvm hw80 hB _ _ hS => ?_)
            obtain ⟨hT, hF1⟩ := hB
            rw [ht] at hT hF1
            have hF := hF.more hF1 (by decide)
            try dsimp only at hw80
            obtain ⟨h81, hd82⟩ := hw80
            obtain rfl : (0 : Int32) = r79 := hd82.symm
            refine lv_if_ne (tgt := 99) hx hb dX12_land_76 (by decide) (fun c83 => absurd c83 (by decide)) (fun c83 => ?_)
            refine lv_aload_n hx hb dX12_land_79 rfl (lv_at hl 0 rfl) ?_
            refine lv_aload_n hx hb dX12_land_80 rfl (lv_at hl 0 rfl) ?_
            have hFc := gA_free hG hA hS
            refine va_calli (va_runV (As := []) (rest := [.ref o0]) ⟨hx, hb, hml, hown, hts⟩ (s_hour l dC dI kA adK adV G H q wZ0 wN wH wB wC wL wK wU wV PI im PM PT lS lB lE lN o0 hT hr_o0 (fun _ => Int.le_refl 0) hgn hgh hgb hgc hgi hgu) (cwV 0 hts (goodIn_app (goodIn_r _ [15, 16, 17, 6] rfl (by decide +kernel)) (goodIn_ca (goodIn_r _ [13, 14] rfl (by decide +kernel)) (bs_in _ _))) rfl rfl rfl (by decide +kernel) ⟨(Nat.le_of_ble_eq_true rfl), (Nat.le_of_ble_eq_true rfl)⟩) ⟨fun a U g mk q => by obtain ⟨q0, q1, qK, qE⟩ := q; exact ⟨q0, q1, va_K.moved (u := U) (U := U.calling g mk a) (Vm.Alike.refl U.vm) qK, EVS.blind g mk a qE⟩, gH_rc hK hT hr_o0 shm_0 rfl, fun U hU hW => ⟨rfl, hU, va_K.moved hW.alike hK, hE.call hS hFc hU hW⟩⟩ rfl rfl hl.1 rfl (lv_room (Nat.le_of_ble_eq_true rfl)) dX12_land_81 ⟨(Nat.le_of_ble_eq_true rfl), (Nat.le_of_ble_eq_true rfl)⟩) hS (fun q _ h => hFc q h) hFc (fun r84 u t H locs ht hvm hw85 hB _ _ hS => ?_)
            obtain ⟨hT, hF1⟩ := hB
            rw [ht] at hT hF1
            have hF := hF.more hF1 (by decide)
            try dsimp only at hw85
            obtain ⟨h86, hf87⟩ := hw85
            refine lv_if_le (tgt := 91) hx hb dX12_land_84 (by decide) (fun c88 => ?_) (fun c88 => ?_)
            · have t89 : r84.toInt ≤ 0 := ti_le c88 rfl (by decide)
              refine lv_iconst (v := 0) hx hb dX12_land_91 (by decide) ?_
              refine lv_iconst (v := 3) hx hb dX12_land_92 (by decide) ?_
              have hFc := gA_free hG hA hS
              refine va_calli (va_runV (As := [.int 0, .int 3]) (rest := []) ⟨hx, hb, hml, hown, hts⟩ (s_throwsIf l dC dI kA adK adV G H q wZ0 wN wH wB wC wL wK wU wV PI im PM PT lS lB lE lN o0 0 3 hT hr_o0 (rg_t (a := 0) (by decide) (by first | decide | omega) (by first | decide | omega)) (fun _ => Int.le_refl 0) hgn hgh hgb hgc hgi hgu) (cwV 2 hts (goodIn_app (goodIn_r _ [10, 11, 12, 6] rfl (by decide +kernel)) (goodIn_ca (goodIn_r _ [9, 1] rfl (by decide +kernel)) (bs_in _ _))) rfl rfl rfl (by decide +kernel) ⟨(Nat.le_of_ble_eq_true rfl), (Nat.le_of_ble_eq_true rfl)⟩) ⟨fun a U g mk q => by obtain ⟨q0, q1, qK, qE⟩ := q; exact ⟨q0, q1, va_K.moved (u := U) (U := U.calling g mk a) (Vm.Alike.refl U.vm) qK, EVS.blind g mk a qE⟩, gH_rc hK hT hr_o0 shm_0 rfl, fun U hU hW => ⟨rfl, hU, va_K.moved hW.alike hK, hE.call hS hFc hU hW⟩⟩ rfl rfl hl.1 rfl (lv_room (Nat.le_of_ble_eq_true rfl)) dX12_land_93 ⟨(Nat.le_of_ble_eq_true rfl), (Nat.le_of_ble_eq_true rfl)⟩) hS (fun q _ h => hFc q h) hFc (fun r90 u t H locs ht hvm hw91 hB _ _ hS => ?_)
              obtain ⟨hT, hF1⟩ := hB
              rw [ht] at hT hF1
              have hF := hF.more hF1 (by decide)
              try dsimp only at hw91
              obtain ⟨h92, hd93⟩ := hw91
              obtain rfl : (0 : Int32) = r90 := hd93.symm
              refine lv_if_eq (tgt := 101) hx hb dX12_land_96 (by decide) (fun c94 => ?_) (fun c94 => absurd c94 (by decide))
              refine lv_iconst (v := 0) hx hb dX12_land_101 (by decide) ?_
              refine lv_istore (lv' := [(6, .int 0), (0, .ref o0), (1, .int p0), (2, .int p1), (3, .int p2), (4, .int p3), (5, .int p4)]) hx hb dX12_land_102 hl (by decide) rfl (fun ls hl => ?_)
              refine lv_iconst (v := 0) hx hb dX12_land_104 (by decide) ?_
              refine lv_istore (lv' := [(7, .int 0), (6, .int 0), (0, .ref o0), (1, .int p0), (2, .int p1), (3, .int p2), (4, .int p3), (5, .int p4)]) hx hb dX12_land_105 hl (by decide) rfl (fun ls hl => ?_)
              have key184 : ∀ (n184 i95 : Nat), i95 + n184 = 96 → 0 ≤ i95 → ∀ (gwL96 : Nat → Prop), ∀ (z97 : Int32), ((∀ j, wL j → gwL96 j)) → ∀ (H : Heap) (locs : List Loc), gH (dC, dI) kA (SHm q (wP wZ0 wN wH wB wC gwL96 wK wU wV) PI im PM PT lS lB lE lN) G H → gF (dC, dI) SKm G ([(0, 0), (0, 9), (2, 0)] : List (Nat × Nat)) s.heap H → va_S A s.heap H locs → ∀ ls : Array Slot, lv_has ls 8 [(7, .int (nI i95)), (6, .int z97), (0, .ref o0), (1, .int p0), (2, .int p1), (3, .int p2), (4, .int p3), (5, .int p4)] → W p l e (headSpec w_s_land ({ frames := 2, cells := 0, slots := 0, locals := 64 })).room s m #[.ref o0, .int p0, .int p1, .int p2, .int p3, .int p4] below meth c H locs 0 0 (MQ below (va_Qi (fun (r : Int32) (u : (Nat → Prop)) => (∀ j, wL j → u j)) (fun (wL1 : (Nat → Prop)) (t : State) => gH (dC, dI) kA (SHm q (wP wZ0 wN wH wB wC wL1 wK wU wV) PI im PM PT lS lB lE lN) G t.heap ∧ gF (dC, dI) SKm G ([(0, 0), (0, 9), (2, 0)] : List (Nat × Nat)) s.heap t.heap) A) #[.ref o0, .int p0, .int p1, .int p2, .int p3, .int p4] s 0 0 A) (F0 m 107 ls []) := by
                intro n184
                induction n184 with
                | zero =>
                  intro i95 hn184 hlo185 gwL96 z97 hg98 H locs hT hF hS  ls hl
                  obtain rfl : 96 = i95 := by omega
                  refine lv_iload hx hb dX12_land_107 (lv_at hl 0 rfl) ?_
                  refine lv_bipush (v := 96) hx hb dX12_land_109 (by decide) ?_
                  refine lv_icmp_ge (tgt := 245) hx hb dX12_land_111 (by decide) (fun c186 => ?_) (fun c186 => (by exfalso; have q9 : ((96 : Nat) : Int) < 96 := ti_nle c186 (by decide) (nI_toInt (by omega)); omega))
                  have t187 : 96 ≤ ((96 : Nat) : Int) := ti_le c186 (by decide) (nI_toInt (by omega))
                  refine lv_aload_n hx hb dX12_land_245 rfl (lv_at hl 2 rfl) ?_
                  refine lv_iconst (v := 0) hx hb dX12_land_246 (by decide) ?_
                  refine tw_put (v := .int 0) (ty := .int) hx hb hts bF_X12 tyX12 tyX12_ok nmX12 hown hK hT hG hS hr_o0 shm_0 rfl 9 (by decide) (ht_at hts 17 rfl) (fun _ h9 => h9) rfl (by decide +kernel) rfl rfl (gl_at rfl (gi_of (show (0 : Int32).toInt = 0 from (by decide)) (by first | decide | omega) (by first | decide | omega))) dX12_land_247 (fun H locs hT oq m188 oj hS => ?_)
                  have hF := hF.put hr_o0 skm_0 oq oj (by decide)
                  refine lv_iload hx hb dX12_land_250 (lv_at hl 1 rfl) ?_
                  exact W.iret (v := z97) hx hb hr (fun t ht hW => ⟨⟨z97, gwL96, rfl, (by exact hg98), by (try dsimp only); rw [ht]; exact ⟨hT, hF⟩⟩, hS.F ht⟩) hS.2.2 dX12_land_252
                | succ n184 ih184 =>
                  intro i95 hn184 hlo185 gwL96 z97 hg98 H locs hT hF hS  ls hl
                  have hlt188 : i95 < 96 := by omega
                  refine lv_iload hx hb dX12_land_107 (lv_at hl 0 rfl) ?_
                  refine lv_bipush (v := 96) hx hb dX12_land_109 (by decide) ?_
                  refine lv_icmp_ge (tgt := 245) hx hb dX12_land_111 (by decide) (fun c189 => (by exfalso; have q9 : 96 ≤ ((i95 : Nat) : Int) := ti_le c189 (by decide) (nI_toInt (by omega)); omega)) (fun c189 => ?_)
                  have t190 : ((i95 : Nat) : Int) < 96 := ti_nle c189 (by decide) (nI_toInt (by omega))
                  refine lv_iload hx hb dX12_land_114 (lv_at hl 0 rfl) ?_
                  refine lv_iload_n hx hb dX12_land_116 rfl (lv_at hl 3 rfl) ?_
                  refine lv_iload_n hx hb dX12_land_117 rfl (lv_at hl 4 rfl) ?_
                  have hFc := gA_free hG hA hS
                  refine va_calli (va_runS (As := [.int (nI i95), .int p0, .int p1]) (rest := []) ⟨hx, hb, hml, hown, hts⟩ (s_isIn l dC dI kA adK adV G H q wZ0 wN wH wB wC gwL96 wK wU wV PI im PM PT lS lB lE lN (nI i95) p0 p1 hT (fun _ => Int.le_refl 0) hgn (by omega) (by omega) (by omega) (by omega) hgu) (va_cwS 3 hts (goodIn_app (goodIn_r _ [27, 28, 6] rfl (by decide +kernel)) (goodIn_ca (goodIn_r _ [19, 20, 21, 22, 23, 24, 25, 26, 3, 4, 5, 6] rfl (by decide +kernel)) (bs_in _ _))) rfl rfl rfl (by decide +kernel) ⟨(Nat.le_of_ble_eq_true rfl), (Nat.le_of_ble_eq_true rfl)⟩) ⟨fun a U g mk q => by obtain ⟨q0, q1, qK, qE⟩ := q; exact ⟨q0, q1, va_K.moved (u := U) (U := U.calling g mk a) (Vm.Alike.refl U.vm) qK, EVS.blind g mk a qE⟩, fun U hU hW => ⟨rfl, hU, va_K.moved hW.alike hK, hE.call hS hFc hU hW⟩⟩ rfl rfl hl.1 rfl (lv_room (Nat.le_of_ble_eq_true rfl)) dX12_land_118 ⟨(Nat.le_of_ble_eq_true rfl), (Nat.le_of_ble_eq_true rfl)⟩) hS (fun q _ h => hFc q h) hFc (fun r191 u t H locs ht hvm hw192 hB _ _ hS => ?_)
                  obtain ⟨hT, hF1⟩ := hB
                  rw [ht] at hT hF1
                  have hF := hF.more hF1 (by decide)
                  try dsimp only at hw192
                  have h193 := hw192
                  refine lv_if_ne (tgt := 127) hx hb dX12_land_121 (by decide) (fun c194 => ?_) (fun c194 => ?_)
                  · have t195 : r191.toInt ≠ 0 := ti_ne c194 rfl (by decide)
                    refine lv_iload hx hb dX12_land_127 (lv_at hl 1 rfl) ?_
                    refine lv_aload_n hx hb dX12_land_129 rfl (lv_at hl 2 rfl) ?_
                    refine lv_iload hx hb dX12_land_130 (lv_at hl 0 rfl) ?_
                    have hFc := gA_free hG hA hS
                    refine va_calli (va_runV (As := [.int (nI i95)]) (rest := [.int z97]) ⟨hx, hb, hml, hown, hts⟩ (s_isLand l dC dI kA adK adV G H q wZ0 wN wH wB wC gwL96 wK wU wV PI im PM PT lS lB lE lN o0 (nI i95) hT hr_o0 (rg_t (a := ((i95 : Nat) : Int)) (nI_toInt (by omega)) (by omega) (by omega)) (fun _ => Int.le_refl 0) hgn (by omega) (by omega) (by omega) (by omega) hgu) (cwV 1 hts (goodIn_app (goodIn_r _ [30, 31, 32, 6] rfl (by decide +kernel)) (goodIn_ca (goodIn_r _ [29, 14] rfl (by decide +kernel)) (bs_in _ _))) rfl rfl rfl (by decide +kernel) ⟨(Nat.le_of_ble_eq_true rfl), (Nat.le_of_ble_eq_true rfl)⟩) ⟨fun a U g mk q => by obtain ⟨q0, q1, qK, qE⟩ := q; exact ⟨q0, q1, va_K.moved (u := U) (U := U.calling g mk a) (Vm.Alike.refl U.vm) qK, EVS.blind g mk a qE⟩, gH_rc hK hT hr_o0 shm_0 rfl, fun U hU hW => ⟨rfl, hU, va_K.moved hW.alike hK, hE.call hS hFc hU hW⟩⟩ rfl rfl hl.1 rfl (lv_room (Nat.le_of_ble_eq_true rfl)) dX12_land_132 ⟨(Nat.le_of_ble_eq_true rfl), (Nat.le_of_ble_eq_true rfl)⟩) hS (fun q _ h => hFc q h) hFc (fun r196 u t H locs ht hvm hw197 hB _ _ hS => ?_)
                    obtain ⟨hT, hF1⟩ := hB
                    rw [ht] at hT hF1
                    have hF := hF.more hF1 (by decide)
                    try dsimp only at hw197
                    obtain ⟨h198, hi199, hi200⟩ := hw197
                    have jn203 : ∀ (z201 : Int32), ((0 ≤ z201.toInt ∧ z201.toInt ≤ 1)) → ∀ (H : Heap) (locs : List Loc), gH (dC, dI) kA (SHm q (wP wZ0 wN wH wB wC gwL96 wK wU wV) PI im PM PT lS lB lE lN) G H → gF (dC, dI) SKm G ([(0, 0), (0, 9), (2, 0)] : List (Nat × Nat)) s.heap H → va_S A s.heap H locs → ∀ ls : Array Slot, lv_has ls 8 [(7, .int (nI i95)), (6, .int z97), (0, .ref o0), (1, .int p0), (2, .int p1), (3, .int p2), (4, .int p3), (5, .int p4)] → W p l e (headSpec w_s_land ({ frames := 2, cells := 0, slots := 0, locals := 64 })).room s m #[.ref o0, .int p0, .int p1, .int p2, .int p3, .int p4] below meth c H locs 0 0 (MQ below (va_Qi (fun (r : Int32) (u : (Nat → Prop)) => (∀ j, wL j → u j)) (fun (wL1 : (Nat → Prop)) (t : State) => gH (dC, dI) kA (SHm q (wP wZ0 wN wH wB wC wL1 wK wU wV) PI im PM PT lS lB lE lN) G t.heap ∧ gF (dC, dI) SKm G ([(0, 0), (0, 9), (2, 0)] : List (Nat × Nat)) s.heap t.heap) A) #[.ref o0, .int p0, .int p1, .int p2, .int p3, .int p4] s 0 0 A) (F0 m 143 ls [.int z201, .int z97]) := by
                      intro z201 h202 H locs hT hF hS  ls hl
                      refine lv_iadd hx hb dX12_land_143 ?_
                      refine lv_topi (fun x204 ex204 => ?_)
                      refine lv_istore (lv' := [(6, .int x204), (7, .int (nI i95)), (0, .ref o0), (1, .int p0), (2, .int p1), (3, .int p2), (4, .int p3), (5, .int p4)]) hx hb dX12_land_144 hl (by decide) rfl (fun ls hl => ?_)
                      refine lv_aload_n hx hb dX12_land_146 rfl (lv_at hl 2 rfl) ?_
                      refine tw_get hx hb hts bF_X12 hown hK hT hr_o0 shm_0 rfl 1 (by decide) (ht_at hts 13 rfl) (fun _ h9 => h9) dX12_land_147 (fun v9 m205 h9 => ?_)
                      obtain ⟨rfl, hg206⟩ := h9 _ rfl
                      refine lv_sipush (v := 1748) hx hb dX12_land_150 (by decide) ?_
                      refine lv_dup2_11 hx hb dX12_land_153 rfl rfl ?_
                      refine tw_iald (i := 1748) hx hb hK hT hg206 shm_2 rfl (by unfold vp_in; decide) dX12_land_154 (fun v9 m207 h9 => ?_)
                      obtain ⟨x208, rfl, gx208, kx208⟩ := (gp_at h9 (w_fre (by have q9 := tn_of (show (1748 : Int32).toInt = 1748 from (by decide)) (show (0 : Int) ≤ 1748 from by omega); omega)))
                      refine lv_aload_n hx hb dX12_land_155 rfl (lv_at hl 2 rfl) ?_
                      refine tw_get hx hb hts bF_X12 hown hK hT hr_o0 shm_0 rfl 1 (by decide) (ht_at hts 13 rfl) (fun _ h9 => h9) dX12_land_156 (fun v9 m209 h9 => ?_)
                      obtain ⟨rfl, hg210⟩ := h9 _ rfl
                      refine lv_sipush (v := 384) hx hb dX12_land_159 (by decide) ?_
                      refine lv_iload hx hb dX12_land_162 (lv_at hl 1 rfl) ?_
                      refine lv_iadd hx hb dX12_land_164 ?_
                      refine lv_topi (fun x211 ex211 => ?_)
                      obtain rfl : nI (384 + i95) = x211 := (ex211.trans (nI_add 384 i95)).symm
                      refine tw_iald (i := (nI (384 + i95))) hx hb hK hT hg206 shm_2 rfl (vp_in_nI (by omega) (by decide)) dX12_land_165 (fun v9 m212 h9 => ?_)
                      obtain ⟨x213, rfl, gx213, kx213⟩ := (gw_at h9 (w_wat (by have q9 := tn_of (show (nI (384 + i95)).toInt = ((384 + i95 : Nat) : Int) from (nI_toInt (by omega))) (show (0 : Int) ≤ ((384 + i95 : Nat) : Int) from by omega); omega)) hgn (fun _ => Int.le_refl 0))
                      refine lv_isub hx hb dX12_land_166 ?_
                      refine lv_topi (fun x214 ex214 => ?_)
                      refine tw_iast (i := 1748) (x := x214) hx hb hK hT hG hS hg206 shm_2 rfl (by unfold vp_in; decide) (gp_of (gi_all _) (w_fre (by have q9 := tn_of (show (1748 : Int32).toInt = 1748 from (by decide)) (show (0 : Int) ≤ 1748 from by omega); omega)) (wX_o (by have q9 := tn_of (show (1748 : Int32).toInt = 1748 from (by decide)) (show (0 : Int) ≤ 1748 from by omega); omega) (by omega))) dX12_land_167 (fun H locs hT oq m215 oi hS => ?_)
                      have hF := hF.ast hg206 skm_2 oq (by decide)
                      refine lv_aload_n hx hb dX12_land_168 rfl (lv_at hl 2 rfl) ?_
                      refine tw_get hx hb hts bF_X12 hown hK hT hr_o0 shm_0 rfl 1 (by decide) (ht_at hts 13 rfl) (fun _ h9 => h9) dX12_land_169 (fun v9 m217 h9 => ?_)
                      obtain ⟨rfl, hg218⟩ := h9 _ rfl
                      refine lv_iconst (v := 0) hx hb dX12_land_172 (by decide) ?_
                      refine lv_iload hx hb dX12_land_173 (lv_at hl 1 rfl) ?_
                      refine lv_iadd hx hb dX12_land_175 ?_
                      refine lv_topi (fun x219 ex219 => ?_)
                      obtain rfl : nI (0 + i95) = x219 := (ex219.trans (nI_add 0 i95)).symm
                      refine lv_iconst (v := 1) hx hb dX12_land_176 (by decide) ?_
                      have t220 : (((nI (0 + i95)).toNatClampNeg : Nat) : Int) = ((0 + i95 : Nat) : Int) := tn_of (show (nI (0 + i95)).toInt = ((0 + i95 : Nat) : Int) from (nI_toInt (by omega))) (by omega)
                      refine tw_iast2 (Sg1 := (SHm q (wP wZ0 wN wH wB wC (fun j => gwL96 j ∨ j = i95) wK wU wV) PI im PM PT lS lB lE lN)) (i := (nI (0 + i95))) (x := 1) hx hb hK hT hG hS hg206 shm_2 rfl shm_2 shm_o2 (fun b9 h9 => hgu b9 1 h9) (vp_in_nI (by omega) (by decide)) (gp_of (gi_all _) (w_fre (by omega)) (wX_l (by omega) (Or.inr (by omega)) (by decide))) (fun k9 hk9 hne9 v9 hv9 he9 => by obtain ⟨x9, rfl, p9⟩ := he9; exact ⟨x9, rfl, wP_L (fun _ => ⟨Or.inl, fun z9 => z9.resolve_right (by omega)⟩) p9⟩) dX12_land_177 (fun H locs hT oq m221 oi hS => ?_)
                      have hF := hF.ast hg206 skm_2 oq (by decide)
                      refine lv_aload_n hx hb dX12_land_178 rfl (lv_at hl 2 rfl) ?_
                      refine tw_get hx hb hts bF_X12 hown hK hT hr_o0 shm_0 rfl 1 (by decide) (ht_at hts 13 rfl) (fun _ h9 => h9) dX12_land_179 (fun v9 m224 h9 => ?_)
                      obtain ⟨rfl, hg225⟩ := h9 _ rfl
                      refine lv_bipush (v := 96) hx hb dX12_land_182 (by decide) ?_
                      refine lv_iload hx hb dX12_land_184 (lv_at hl 1 rfl) ?_
                      refine lv_iadd hx hb dX12_land_186 ?_
                      refine lv_topi (fun x226 ex226 => ?_)
                      obtain rfl : nI (96 + i95) = x226 := (ex226.trans (nI_add 96 i95)).symm
                      refine lv_iload_n hx hb dX12_land_187 rfl (lv_at hl 5 rfl) ?_
                      refine tw_iast (i := (nI (96 + i95))) (x := p2) hx hb hK hT hG hS hg206 shm_2 rfl (vp_in_nI (by omega) (by decide)) (gp_of (gi_of (show p2.toInt = p2.toInt from rfl) (by omega) (by omega)) (w_hgt (by have q9 := tn_of (show (nI (96 + i95)).toInt = ((96 + i95 : Nat) : Int) from (nI_toInt (by omega))) (show (0 : Int) ≤ ((96 + i95 : Nat) : Int) from by omega); omega)) (wX_o (by have q9 := tn_of (show (nI (96 + i95)).toInt = ((96 + i95 : Nat) : Int) from (nI_toInt (by omega))) (show (0 : Int) ≤ ((96 + i95 : Nat) : Int) from by omega); omega) (by omega))) dX12_land_188 (fun H locs hT oq m227 oi hS => ?_)
                      have hF := hF.ast hg206 skm_2 oq (by decide)
                      refine lv_aload_n hx hb dX12_land_189 rfl (lv_at hl 2 rfl) ?_
                      refine tw_get hx hb hts bF_X12 hown hK hT hr_o0 shm_0 rfl 1 (by decide) (ht_at hts 13 rfl) (fun _ h9 => h9) dX12_land_190 (fun v9 m231 h9 => ?_)
                      obtain ⟨rfl, hg232⟩ := h9 _ rfl
                      refine lv_sipush (v := 192) hx hb dX12_land_193 (by decide) ?_
                      refine lv_iload hx hb dX12_land_196 (lv_at hl 1 rfl) ?_
                      refine lv_iadd hx hb dX12_land_198 ?_
                      refine lv_topi (fun x233 ex233 => ?_)
                      obtain rfl : nI (192 + i95) = x233 := (ex233.trans (nI_add 192 i95)).symm
                      refine lv_iload hx hb dX12_land_199 (lv_at hl 6 rfl) ?_
                      refine tw_iast (i := (nI (192 + i95))) (x := p3) hx hb hK hT hG hS hg206 shm_2 rfl (vp_in_nI (by omega) (by decide)) (gp_of (gi_all _) (w_fre (by have q9 := tn_of (show (nI (192 + i95)).toInt = ((192 + i95 : Nat) : Int) from (nI_toInt (by omega))) (show (0 : Int) ≤ ((192 + i95 : Nat) : Int) from by omega); omega)) (wX_o (by have q9 := tn_of (show (nI (192 + i95)).toInt = ((192 + i95 : Nat) : Int) from (nI_toInt (by omega))) (show (0 : Int) ≤ ((192 + i95 : Nat) : Int) from by omega); omega) (by omega))) dX12_land_201 (fun H locs hT oq m234 oi hS => ?_)
                      have hF := hF.ast hg206 skm_2 oq (by decide)
                      refine lv_aload_n hx hb dX12_land_202 rfl (lv_at hl 2 rfl) ?_
                      refine tw_get hx hb hts bF_X12 hown hK hT hr_o0 shm_0 rfl 1 (by decide) (ht_at hts 13 rfl) (fun _ h9 => h9) dX12_land_203 (fun v9 m239 h9 => ?_)
                      obtain ⟨rfl, hg240⟩ := h9 _ rfl
                      refine lv_sipush (v := 288) hx hb dX12_land_206 (by decide) ?_
                      refine lv_iload hx hb dX12_land_209 (lv_at hl 1 rfl) ?_
                      refine lv_iadd hx hb dX12_land_211 ?_
                      refine lv_topi (fun x241 ex241 => ?_)
                      obtain rfl : nI (288 + i95) = x241 := (ex241.trans (nI_add 288 i95)).symm
                      refine lv_iload hx hb dX12_land_212 (lv_at hl 7 rfl) ?_
                      refine tw_iast (i := (nI (288 + i95))) (x := p4) hx hb hK hT hG hS hg206 shm_2 rfl (vp_in_nI (by omega) (by decide)) (gp_of (gi_of (show p4.toInt = p4.toInt from rfl) (by omega) (by omega)) (w_dit (by have q9 := tn_of (show (nI (288 + i95)).toInt = ((288 + i95 : Nat) : Int) from (nI_toInt (by omega))) (show (0 : Int) ≤ ((288 + i95 : Nat) : Int) from by omega); omega)) (wX_o (by have q9 := tn_of (show (nI (288 + i95)).toInt = ((288 + i95 : Nat) : Int) from (nI_toInt (by omega))) (show (0 : Int) ≤ ((288 + i95 : Nat) : Int) from by omega); omega) (by omega))) dX12_land_214 (fun H locs hT oq m242 oi hS => ?_)
                      have hF := hF.ast hg206 skm_2 oq (by decide)
                      refine lv_aload_n hx hb dX12_land_215 rfl (lv_at hl 2 rfl) ?_
                      refine tw_get hx hb hts bF_X12 hown hK hT hr_o0 shm_0 rfl 1 (by decide) (ht_at hts 13 rfl) (fun _ h9 => h9) dX12_land_216 (fun v9 m248 h9 => ?_)
                      obtain ⟨rfl, hg249⟩ := h9 _ rfl
                      refine lv_sipush (v := 384) hx hb dX12_land_219 (by decide) ?_
                      refine lv_iload hx hb dX12_land_222 (lv_at hl 1 rfl) ?_
                      refine lv_iadd hx hb dX12_land_224 ?_
                      refine lv_topi (fun x250 ex250 => ?_)
                      obtain rfl : nI (384 + i95) = x250 := (ex250.trans (nI_add 384 i95)).symm
                      refine lv_iconst (v := 0) hx hb dX12_land_225 (by decide) ?_
                      have t251 : 6500000 ≤ wN (nI (384 + i95)).toNatClampNeg ∧ wN (nI (384 + i95)).toNatClampNeg ≤ 20200000 := hgn _
                      refine tw_iast (i := (nI (384 + i95))) (x := 0) hx hb hK hT hG hS hg206 shm_2 rfl (vp_in_nI (by omega) (by decide)) (gp_of (gi_of (show (0 : Int32).toInt = 0 from (by decide)) (by first | decide | omega) (by first | decide | omega)) (w_wat0 (by have q9 := tn_of (show (nI (384 + i95)).toInt = ((384 + i95 : Nat) : Int) from (nI_toInt (by omega))) (show (0 : Int) ≤ ((384 + i95 : Nat) : Int) from by omega); omega)) (wX_o (by have q9 := tn_of (show (nI (384 + i95)).toInt = ((384 + i95 : Nat) : Int) from (nI_toInt (by omega))) (show (0 : Int) ≤ ((384 + i95 : Nat) : Int) from by omega); omega) (by omega))) dX12_land_226 (fun H locs hT oq m252 oi hS => ?_)
                      have hF := hF.ast hg206 skm_2 oq (by decide)
                      refine lv_aload_n hx hb dX12_land_227 rfl (lv_at hl 2 rfl) ?_
                      refine tw_get hx hb hts bF_X12 hown hK hT hr_o0 shm_0 rfl 1 (by decide) (ht_at hts 13 rfl) (fun _ h9 => h9) dX12_land_228 (fun v9 m258 h9 => ?_)
                      obtain ⟨rfl, hg259⟩ := h9 _ rfl
                      refine lv_sipush (v := 480) hx hb dX12_land_231 (by decide) ?_
                      refine lv_iload hx hb dX12_land_234 (lv_at hl 1 rfl) ?_
                      refine lv_iadd hx hb dX12_land_236 ?_
                      refine lv_topi (fun x260 ex260 => ?_)
                      obtain rfl : nI (480 + i95) = x260 := (ex260.trans (nI_add 480 i95)).symm
                      refine lv_iconst (v := 0) hx hb dX12_land_237 (by decide) ?_
                      refine tw_iast (i := (nI (480 + i95))) (x := 0) hx hb hK hT hG hS hg206 shm_2 rfl (vp_in_nI (by omega) (by decide)) (gp_of (gi_all _) (w_fre (by have q9 := tn_of (show (nI (480 + i95)).toInt = ((480 + i95 : Nat) : Int) from (nI_toInt (by omega))) (show (0 : Int) ≤ ((480 + i95 : Nat) : Int) from by omega); omega)) (wX_o (by have q9 := tn_of (show (nI (480 + i95)).toInt = ((480 + i95 : Nat) : Int) from (nI_toInt (by omega))) (show (0 : Int) ≤ ((480 + i95 : Nat) : Int) from by omega); omega) (by omega))) dX12_land_238 (fun H locs hT oq m261 oi hS => ?_)
                      have hF := hF.ast hg206 skm_2 oq (by decide)
                      refine lv_iinc (v := nI (i95 + 1)) (lv' := [(7, .int (nI (i95 + 1))), (6, .int x204), (0, .ref o0), (1, .int p0), (2, .int p1), (3, .int p2), (4, .int p3), (5, .int p4)]) hx hb dX12_land_239 hl (k := 1) rfl (nI_add i95 1) (by decide) rfl (fun ls hl => ?_)
                      refine lv_goto (tgt := 107) hx hb dX12_land_242 (by decide) ?_
                      exact ih184 (i95 + 1) (by omega) (by omega) (fun j => gwL96 j ∨ j = i95) x204 (fun j9 h9 => Or.inl (hg98 j9 h9)) _ _ hT hF hS ls (lv_sub hl [0, 1, 2, 3, 4, 5, 6, 7] rfl)
                    refine lv_if_eq (tgt := 142) hx hb dX12_land_135 (by decide) (fun c268 => ?_) (fun c268 => ?_)
                    · have t269 : r196.toInt = 0 := ti_eq c268 rfl (by decide)
                      have t270 : ¬ gwL96 (nI i95).toNatClampNeg := hi200 c268
                      refine lv_iconst (v := 1) hx hb dX12_land_142 (by decide) ?_
                      exact jn203 1 (rg_t (a := 1) (by decide) (by first | decide | omega) (by first | decide | omega)) _ _ hT hF hS ls (lv_sub hl [0, 1, 2, 3, 4, 5, 6, 7] rfl)
                    · have t271 : r196.toInt ≠ 0 := ti_ne c268 rfl (by decide)
                      have t272 : gwL96 (nI i95).toNatClampNeg := hi199 ((bit_of ⟨by omega, by omega⟩).resolve_left c268)
                      refine lv_iconst (v := 0) hx hb dX12_land_138 (by decide) ?_
                      refine lv_goto (tgt := 143) hx hb dX12_land_139 (by decide) ?_
                      exact jn203 0 (rg_t (a := 0) (by decide) (by first | decide | omega) (by first | decide | omega)) _ _ hT hF hS ls (lv_sub hl [0, 1, 2, 3, 4, 5, 6, 7] rfl)
                  · have t273 : r191.toInt = 0 := ti_eq c194 rfl (by decide)
                    refine lv_goto (tgt := 239) hx hb dX12_land_124 (by decide) ?_
                    refine lv_iinc (v := nI (i95 + 1)) (lv' := [(7, .int (nI (i95 + 1))), (6, .int z97), (0, .ref o0), (1, .int p0), (2, .int p1), (3, .int p2), (4, .int p3), (5, .int p4)]) hx hb dX12_land_239 hl (k := 0) rfl (nI_add i95 1) (by decide) rfl (fun ls hl => ?_)
                    refine lv_goto (tgt := 107) hx hb dX12_land_242 (by decide) ?_
                    exact ih184 (i95 + 1) (by omega) (by omega) gwL96 z97 hg98 _ _ hT hF hS ls (lv_sub hl [0, 1, 2, 3, 4, 5, 6, 7] rfl)
              exact key184 (96 - 0) 0 (by omega) (Nat.le_refl _) wL 0 (fun _ h9 => h9) _ _ hT hF hS ls (lv_sub hl [0, 1, 2, 3, 4, 5, 6, 7] rfl)
            · have t274 : 0 < r84.toInt := ti_nle c88 rfl (by decide)
              refine lv_iconst (v := 1) hx hb dX12_land_87 (by decide) ?_
              refine lv_goto (tgt := 92) hx hb dX12_land_88 (by decide) ?_
              refine lv_iconst (v := 3) hx hb dX12_land_92 (by decide) ?_
              have hFc := gA_free hG hA hS
              refine va_calli (va_runV (As := [.int 1, .int 3]) (rest := []) ⟨hx, hb, hml, hown, hts⟩ (s_throwsIf l dC dI kA adK adV G H q wZ0 wN wH wB wC wL wK wU wV PI im PM PT lS lB lE lN o0 1 3 hT hr_o0 (rg_t (a := 1) (by decide) (by first | decide | omega) (by first | decide | omega)) (fun _ => Int.le_refl 0) hgn hgh hgb hgc hgi hgu) (cwV 2 hts (goodIn_app (goodIn_r _ [10, 11, 12, 6] rfl (by decide +kernel)) (goodIn_ca (goodIn_r _ [9, 1] rfl (by decide +kernel)) (bs_in _ _))) rfl rfl rfl (by decide +kernel) ⟨(Nat.le_of_ble_eq_true rfl), (Nat.le_of_ble_eq_true rfl)⟩) ⟨fun a U g mk q => by obtain ⟨q0, q1, qK, qE⟩ := q; exact ⟨q0, q1, va_K.moved (u := U) (U := U.calling g mk a) (Vm.Alike.refl U.vm) qK, EVS.blind g mk a qE⟩, gH_rc hK hT hr_o0 shm_0 rfl, fun U hU hW => ⟨rfl, hU, va_K.moved hW.alike hK, hE.call hS hFc hU hW⟩⟩ rfl rfl hl.1 rfl (lv_room (Nat.le_of_ble_eq_true rfl)) dX12_land_93 ⟨(Nat.le_of_ble_eq_true rfl), (Nat.le_of_ble_eq_true rfl)⟩) hS (fun q _ h => hFc q h) hFc (fun r275 u t H locs ht hvm hw276 hB _ _ hS => ?_)
              obtain ⟨hT, hF1⟩ := hB
              rw [ht] at hT hF1
              have hF := hF.more hF1 (by decide)
              try dsimp only at hw276
              obtain ⟨h277, hd278⟩ := hw276
              obtain rfl : (1 : Int32) = r275 := hd278.symm
              refine lv_if_eq (tgt := 101) hx hb dX12_land_96 (by decide) (fun c279 => absurd c279 (by decide)) (fun c279 => ?_)
              refine lv_iconst (v := 0) hx hb dX12_land_99 (by decide) ?_
              exact W.iret (v := 0) hx hb hr (fun t ht hW => ⟨⟨0, wL, rfl, (by exact (fun _ h9 => h9)), by (try dsimp only); rw [ht]; exact ⟨hT, hF⟩⟩, hS.F ht⟩) hS.2.2 dX12_land_100
          · have t280 : r69.toInt = 0 := ti_eq c74 rfl (by decide)
            have t281 : (20 : Int32).toInt = 20 := by decide
            have t282 : (0 : Int32).toInt = 0 := by decide
            have t283 : p4.toInt < (0 : Int32).toInt ∨ (20 : Int32).toInt < p4.toInt := hi73 c74
            refine lv_iconst (v := 1) hx hb dX12_land_67 (by decide) ?_
            refine lv_goto (tgt := 72) hx hb dX12_land_68 (by decide) ?_
            refine lv_iconst (v := 2) hx hb dX12_land_72 (by decide) ?_
            have hFc := gA_free hG hA hS
            refine va_calli (va_runV (As := [.int 1, .int 2]) (rest := []) ⟨hx, hb, hml, hown, hts⟩ (s_throwsIf l dC dI kA adK adV G H q wZ0 wN wH wB wC wL wK wU wV PI im PM PT lS lB lE lN o0 1 2 hT hr_o0 (rg_t (a := 1) (by decide) (by first | decide | omega) (by first | decide | omega)) (fun _ => Int.le_refl 0) hgn hgh hgb hgc hgi hgu) (cwV 2 hts (goodIn_app (goodIn_r _ [10, 11, 12, 6] rfl (by decide +kernel)) (goodIn_ca (goodIn_r _ [9, 1] rfl (by decide +kernel)) (bs_in _ _))) rfl rfl rfl (by decide +kernel) ⟨(Nat.le_of_ble_eq_true rfl), (Nat.le_of_ble_eq_true rfl)⟩) ⟨fun a U g mk q => by obtain ⟨q0, q1, qK, qE⟩ := q; exact ⟨q0, q1, va_K.moved (u := U) (U := U.calling g mk a) (Vm.Alike.refl U.vm) qK, EVS.blind g mk a qE⟩, gH_rc hK hT hr_o0 shm_0 rfl, fun U hU hW => ⟨rfl, hU, va_K.moved hW.alike hK, hE.call hS hFc hU hW⟩⟩ rfl rfl hl.1 rfl (lv_room (Nat.le_of_ble_eq_true rfl)) dX12_land_73 ⟨(Nat.le_of_ble_eq_true rfl), (Nat.le_of_ble_eq_true rfl)⟩) hS (fun q _ h => hFc q h) hFc (fun r284 u t H locs ht hvm hw285 hB _ _ hS => ?_)
            obtain ⟨hT, hF1⟩ := hB
            rw [ht] at hT hF1
            have hF := hF.more hF1 (by decide)
            try dsimp only at hw285
            obtain ⟨h286, hd287⟩ := hw285
            obtain rfl : (1 : Int32) = r284 := hd287.symm
            refine lv_if_ne (tgt := 99) hx hb dX12_land_76 (by decide) (fun c288 => ?_) (fun c288 => absurd c288 (by decide))
            refine lv_iconst (v := 0) hx hb dX12_land_99 (by decide) ?_
            exact W.iret (v := 0) hx hb hr (fun t ht hW => ⟨⟨0, wL, rfl, (by exact (fun _ h9 => h9)), by (try dsimp only); rw [ht]; exact ⟨hT, hF⟩⟩, hS.F ht⟩) hS.2.2 dX12_land_100
    · have t289 : r17.toInt ≠ 0 := ti_ne c22 rfl (by decide)
      refine lv_iconst (v := 1) hx hb dX12_land_20 (by decide) ?_
      refine lv_goto (tgt := 25) hx hb dX12_land_21 (by decide) ?_
      refine lv_iconst (v := 1) hx hb dX12_land_25 (by decide) ?_
      have hFc := gA_free hG hA hS
      refine va_calli (va_runV (As := [.int 1, .int 1]) (rest := []) ⟨hx, hb, hml, hown, hts⟩ (s_throwsIf l dC dI kA adK adV G H q wZ0 wN wH wB wC wL wK wU wV PI im PM PT lS lB lE lN o0 1 1 hT hr_o0 (rg_t (a := 1) (by decide) (by first | decide | omega) (by first | decide | omega)) (fun _ => Int.le_refl 0) hgn hgh hgb hgc hgi hgu) (cwV 2 hts (goodIn_app (goodIn_r _ [10, 11, 12, 6] rfl (by decide +kernel)) (goodIn_ca (goodIn_r _ [9, 1] rfl (by decide +kernel)) (bs_in _ _))) rfl rfl rfl (by decide +kernel) ⟨(Nat.le_of_ble_eq_true rfl), (Nat.le_of_ble_eq_true rfl)⟩) ⟨fun a U g mk q => by obtain ⟨q0, q1, qK, qE⟩ := q; exact ⟨q0, q1, va_K.moved (u := U) (U := U.calling g mk a) (Vm.Alike.refl U.vm) qK, EVS.blind g mk a qE⟩, gH_rc hK hT hr_o0 shm_0 rfl, fun U hU hW => ⟨rfl, hU, va_K.moved hW.alike hK, hE.call hS hFc hU hW⟩⟩ rfl rfl hl.1 rfl (lv_room (Nat.le_of_ble_eq_true rfl)) dX12_land_26 ⟨(Nat.le_of_ble_eq_true rfl), (Nat.le_of_ble_eq_true rfl)⟩) hS (fun q _ h => hFc q h) hFc (fun r290 u t H locs ht hvm hw291 hB _ _ hS => ?_)
      obtain ⟨hT, hF1⟩ := hB
      rw [ht] at hT hF1
      have hF := hF.more hF1 (by decide)
      try dsimp only at hw291
      obtain ⟨h293, hd294⟩ := hw291
      obtain rfl : (1 : Int32) = r290 := hd294.symm
      refine lv_if_ne (tgt := 99) hx hb dX12_land_29 (by decide) (fun c295 => ?_) (fun c295 => absurd c295 (by decide))
      refine lv_iconst (v := 0) hx hb dX12_land_99 (by decide) ?_
      exact W.iret (v := 0) hx hb hr (fun t ht hW => ⟨⟨0, wL, rfl, (by exact (fun _ h9 => h9)), by (try dsimp only); rw [ht]; exact ⟨hT, hF⟩⟩, hS.F ht⟩) hS.2.2 dX12_land_100
