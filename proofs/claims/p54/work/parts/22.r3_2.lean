def w_s_fill : List Cond := .code yX12_fill cX12_fill 4 (some .boolean) :: (HAppend.hAppend (α := List Cond) (β := List Cond) (γ := List Cond) [.fieldLink RX12 194 "SeaLandModel" "thrown" "I", .code yX12_noSquare cX12_noSquare 1 (some .boolean), .code yX12_in cX12_in 3 (some .boolean), .methodLink RX12 197 yX12_in, .static yX12_in, .initialized RX12, .methodLink RX12 220 yX12_noSquare, .static yX12_noSquare, .code yX12_throwsIf cX12_throwsIf 3 (some .boolean), .methodLink RX12 224 yX12_throwsIf, .instanceMethod yX12_throwsIf, .selects RX12 yX12_throwsIf yX12_throwsIf, .constant RX12 241 100000, .code yX12_isLand cX12_isLand 2 (some .boolean), .fieldLink RX12 9 "SeaLandModel" "world" "[I", .methodLink RX12 235 yX12_isLand, .instanceMethod yX12_isLand, .selects RX12 yX12_isLand yX12_isLand, .fieldLink RX12 238 "SeaLandModel" "rows" "I"] bs)
set_option maxHeartbeats 4000000 in
set_option maxRecDepth 100000 in
theorem s_fill (l : Launch) (dC : Nat → ClassId) (dI : Nat → Nat → Nat) (kA : Nat → ClassId) (adK adV : Nat → Nat) (G : gT) (H0 : Heap) (q : Nat → Nat) (wZ wN : Nat → Int) (wH wB wC : Int) (wL wK : Nat → Prop) (wU wV : Nat → Nat) (PI : Nat → Int → Prop) (im : Int) (PM PT : Nat → Int → Prop) (lS lB lE : Nat → Nat → Int → Prop) (lN : Nat → Int) (o0 : Nat) (p0 : Int32) (p1 : Int32) (p2 : Int32)  (hT : gH (dC, dI) kA (SHm q (wP wZ0 wN wH wB wC wL wK wU wV) PI im PM PT lS lB lE lN) G H0) (hr_o0 : G o0 = some 0) (hgz : ∀ i, 0 ≤ wZ i) (hgn : ∀ i, 6500000 ≤ wN i ∧ wN i ≤ 20200000) (hgh : 0 ≤ wH ∧ wH ≤ 40000) (hgb : 0 ≤ wB ∧ wB ≤ 3850000) (hgc : 0 ≤ wC ∧ wC ≤ 30) (hgi : 0 ≤ im ∧ im ≤ 1) (hgu : ∀ a t, G a = some (t + 1) → a = q t) : Met l yX12_fill w_s_fill ({ frames := 2, cells := 0, slots := 0, locals := 42 }) (va_Pc [.ref o0, .int p0, .int p1, .int p2] (fun U => U.heap = H0 ∧ va_K (dC, dI) vwCl (tyl kA) U ∧ EVS adK adV (gA G H0.size) U U.heap)) (va_Qi (fun (r : Int32) (u : Unit) => (0 ≤ r.toInt ∧ r.toInt ≤ 1)) (fun (_ : Unit) (t : State) => gH (dC, dI) kA (SHm q (wP wZ0 wN wH wB wC wL wK wU wV) PI im PM PT lS lB lE lN) G t.heap ∧ gF (dC, dI) SKm G ([(0, 0), (0, 9), (2, 0)] : List (Nat × Nat)) H0 t.heap) (gA G H0.size)) 0 0 (gA G H0.size) := by
  refine Met.ofW (cc := cX12_fill) (maxL := 4) (ret := (some .boolean)) (by decide) rfl ?_
  intro p e s m args below meth c s₁ B hml hv
  obtain ⟨rfl, hH0, hK, hE⟩ := hv
  have hx := B.exec
  have hb := B.bytes
  have hr := B.returns
  have hts := atoms_spec (ws := w_s_fill) B.pre
  have hown : s.vm.findClass RX12 = some m.cls := findClass_of_methodNamed B.named
  have hlocks := B.notSynchronized
  subst hH0
  generalize hAe : gA G s.heap.size = A at hE ⊢
  have hA : ∀ q : Nat, s.heap.size ≤ q → A q := fun q h => by rw [← hAe]; exact Or.inr h
  have hG := gA_of hAe
  have hS : va_S A s.heap s.heap [] := va_S.rf
  have hF : gF (dC, dI) SKm G ([(0, 0), (0, 9), (2, 0)] : List (Nat × Nat)) s.heap s.heap := gF.rf
  have hl := lv_entry ([.ref o0, .int p0, .int p1, .int p2]) (n := 4) (Nat.le_of_ble_eq_true rfl)
  rw [lg_entry_eq]
  generalize (lg_sl ([.ref o0, .int p0, .int p1, .int p2]) ++ List.replicate (4 - (lg_sl ([.ref o0, .int p0, .int p1, .int p2])).length) Slot.unset).toArray = ls at hl ⊢
  have hl : lv_has ls 4 [(0, .ref o0), (1, .int p0), (2, .int p1), (3, .int p2)] := hl
  refine lv_aload_n hx hb dX12_fill_0 rfl (lv_at hl 0 rfl) ?_
  refine lv_iconst (v := 0) hx hb dX12_fill_1 (by decide) ?_
  refine tw_put (v := .int 0) (ty := .int) hx hb hts bF_X12 tyX12 tyX12_ok nmX12 hown hK hT hG hS hr_o0 shm_0 rfl 0 (by decide) (ht_at hts 0 rfl) (fun _ h9 => h9) rfl (by decide +kernel) rfl rfl (gl_at rfl (gi_all _)) dX12_fill_2 (fun H locs hT oq m1 oj hS => ?_)
  have hF := hF.put hr_o0 skm_0 oq oj (by decide)
  refine lv_aload_n hx hb dX12_fill_5 rfl (lv_at hl 0 rfl) ?_
  refine lv_iload_n hx hb dX12_fill_6 rfl (lv_at hl 1 rfl) ?_
  have hFc := gA_free hG hA hS
  refine va_calli (va_runS (As := [.int p0]) (rest := [.ref o0]) ⟨hx, hb, hml, hown, hts⟩ (s_noSquare l dC dI kA adK adV G H q wZ0 wN wH wB wC wL wK wU wV PI im PM PT lS lB lE lN p0 hT (fun _ => Int.le_refl 0) hgn hgh hgb hgc hgi hgu) (va_cwS 1 hts (goodIn_app (goodIn_r _ [7, 8, 6] rfl (by decide +kernel)) (goodIn_ca (goodIn_r _ [2, 3, 4, 5, 6] rfl (by decide +kernel)) (bs_in _ _))) rfl rfl rfl (by decide +kernel) ⟨(Nat.le_of_ble_eq_true rfl), (Nat.le_of_ble_eq_true rfl)⟩) ⟨fun a U g mk q => by obtain ⟨q0, q1, qK, qE⟩ := q; exact ⟨q0, q1, va_K.moved (u := U) (U := U.calling g mk a) (Vm.Alike.refl U.vm) qK, EVS.blind g mk a qE⟩, fun U hU hW => ⟨rfl, hU, va_K.moved hW.alike hK, hE.call hS hFc hU hW⟩⟩ rfl rfl hl.1 rfl (lv_room (Nat.le_of_ble_eq_true rfl)) dX12_fill_7 ⟨(Nat.le_of_ble_eq_true rfl), (Nat.le_of_ble_eq_true rfl)⟩) hS (fun q _ h => hFc q h) hFc (fun r2 u t H locs ht hvm hw3 hB _ _ hS => ?_)
  obtain ⟨hT, hF1⟩ := hB
  rw [ht] at hT hF1
  have hF := hF.more hF1 (by decide)
  try dsimp only at hw3
  obtain ⟨h5, hi6⟩ := hw3
  refine lv_iconst (v := 1) hx hb dX12_fill_10 (by decide) ?_
  have hFc := gA_free hG hA hS
  refine va_calli (va_runV (As := [.int r2, .int 1]) (rest := []) ⟨hx, hb, hml, hown, hts⟩ (s_throwsIf l dC dI kA adK adV G H q wZ0 wN wH wB wC wL wK wU wV PI im PM PT lS lB lE lN o0 r2 1 hT hr_o0 (by have q8 := ti_all r2; omega) (fun _ => Int.le_refl 0) hgn hgh hgb hgc hgi hgu) (cwV 2 hts (goodIn_app (goodIn_r _ [10, 11, 12, 6] rfl (by decide +kernel)) (goodIn_ca (goodIn_r _ [9, 1] rfl (by decide +kernel)) (bs_in _ _))) rfl rfl rfl (by decide +kernel) ⟨(Nat.le_of_ble_eq_true rfl), (Nat.le_of_ble_eq_true rfl)⟩) ⟨fun a U g mk q => by obtain ⟨q0, q1, qK, qE⟩ := q; exact ⟨q0, q1, va_K.moved (u := U) (U := U.calling g mk a) (Vm.Alike.refl U.vm) qK, EVS.blind g mk a qE⟩, gH_rc hK hT hr_o0 shm_0 rfl, fun U hU hW => ⟨rfl, hU, va_K.moved hW.alike hK, hE.call hS hFc hU hW⟩⟩ rfl rfl hl.1 rfl (lv_room (Nat.le_of_ble_eq_true rfl)) dX12_fill_11 ⟨(Nat.le_of_ble_eq_true rfl), (Nat.le_of_ble_eq_true rfl)⟩) hS (fun q _ h => hFc q h) hFc (fun r7 u t H locs ht hvm hw8 hB _ _ hS => ?_)
  obtain ⟨hT, hF1⟩ := hB
  rw [ht] at hT hF1
  have hF := hF.more hF1 (by decide)
  try dsimp only at hw8
  obtain ⟨h10, hd11⟩ := hw8
  obtain rfl : r2 = r7 := hd11.symm
  refine lv_if_ne (tgt := 59) hx hb dX12_fill_14 (by decide) (fun c12 => ?_) (fun c12 => ?_)
  · have t13 : r2.toInt ≠ 0 := ti_ne c12 rfl (by decide)
    refine lv_iconst (v := 0) hx hb dX12_fill_59 (by decide) ?_
    exact W.zret (v := 0) hx hb hr (by decide) (fun t ht hW => ⟨⟨0, (), rfl, (by exact (rg_t (a := 0) (by decide) (by first | decide | omega) (by first | decide | omega))), by (try dsimp only); rw [ht]; exact ⟨hT, hF⟩⟩, hS.F ht⟩) hS.2.2 dX12_fill_60
  · have t14 : r2.toInt = 0 := ti_eq c12 rfl (by decide)
    have t15 : 0 ≤ p0.toInt ∧ p0.toInt ≤ 95 := hi6 c12
    refine lv_aload_n hx hb dX12_fill_17 rfl (lv_at hl 0 rfl) ?_
    refine lv_iload_n hx hb dX12_fill_18 rfl (lv_at hl 2 rfl) ?_
    refine lv_iconst (v := 0) hx hb dX12_fill_19 (by decide) ?_
    refine lv_sipush (v := 900) hx hb dX12_fill_20 (by decide) ?_
    have hFc := gA_free hG hA hS
    refine va_calli (va_runS (As := [.int p1, .int 0, .int 900]) (rest := [.ref o0]) ⟨hx, hb, hml, hown, hts⟩ (s_in l dC dI kA adK adV G H q wZ0 wN wH wB wC wL wK wU wV PI im PM PT lS lB lE lN p1 0 900 hT (fun _ => Int.le_refl 0) hgn hgh hgb hgc hgi hgu) (va_cwS 3 hts (goodIn_app (goodIn_r _ [4, 5, 6] rfl (by decide +kernel)) (goodIn_ca (goodIn_r _ [3] rfl (by decide +kernel)) (bs_in _ _))) rfl rfl rfl (by decide +kernel) ⟨(Nat.le_of_ble_eq_true rfl), (Nat.le_of_ble_eq_true rfl)⟩) ⟨fun a U g mk q => by obtain ⟨q0, q1, qK, qE⟩ := q; exact ⟨q0, q1, va_K.moved (u := U) (U := U.calling g mk a) (Vm.Alike.refl U.vm) qK, EVS.blind g mk a qE⟩, fun U hU hW => ⟨rfl, hU, va_K.moved hW.alike hK, hE.call hS hFc hU hW⟩⟩ rfl rfl hl.1 rfl (lv_room (Nat.le_of_ble_eq_true rfl)) dX12_fill_23 ⟨(Nat.le_of_ble_eq_true rfl), (Nat.le_of_ble_eq_true rfl)⟩) hS (fun q _ h => hFc q h) hFc (fun r16 u t H locs ht hvm hw17 hB _ _ hS => ?_)
    obtain ⟨hT, hF1⟩ := hB
    rw [ht] at hT hF1
    have hF := hF.more hF1 (by decide)
    try dsimp only at hw17
    obtain ⟨h18, hi19, hi20⟩ := hw17
    refine lv_if_eq (tgt := 39) hx hb dX12_fill_26 (by decide) (fun c21 => ?_) (fun c21 => ?_)
    · have t22 : r16.toInt = 0 := ti_eq c21 rfl (by decide)
      have t23 : (900 : Int32).toInt = 900 := by decide
      have t24 : (0 : Int32).toInt = 0 := by decide
      have t25 : p1.toInt < (0 : Int32).toInt ∨ (900 : Int32).toInt < p1.toInt := hi20 c21
      refine lv_iconst (v := 1) hx hb dX12_fill_39 (by decide) ?_
      refine lv_goto (tgt := 44) hx hb dX12_fill_40 (by decide) ?_
      refine lv_iconst (v := 2) hx hb dX12_fill_44 (by decide) ?_
      have hFc := gA_free hG hA hS
      refine va_calli (va_runV (As := [.int 1, .int 2]) (rest := []) ⟨hx, hb, hml, hown, hts⟩ (s_throwsIf l dC dI kA adK adV G H q wZ0 wN wH wB wC wL wK wU wV PI im PM PT lS lB lE lN o0 1 2 hT hr_o0 (rg_t (a := 1) (by decide) (by first | decide | omega) (by first | decide | omega)) (fun _ => Int.le_refl 0) hgn hgh hgb hgc hgi hgu) (cwV 2 hts (goodIn_app (goodIn_r _ [10, 11, 12, 6] rfl (by decide +kernel)) (goodIn_ca (goodIn_r _ [9, 1] rfl (by decide +kernel)) (bs_in _ _))) rfl rfl rfl (by decide +kernel) ⟨(Nat.le_of_ble_eq_true rfl), (Nat.le_of_ble_eq_true rfl)⟩) ⟨fun a U g mk q => by obtain ⟨q0, q1, qK, qE⟩ := q; exact ⟨q0, q1, va_K.moved (u := U) (U := U.calling g mk a) (Vm.Alike.refl U.vm) qK, EVS.blind g mk a qE⟩, gH_rc hK hT hr_o0 shm_0 rfl, fun U hU hW => ⟨rfl, hU, va_K.moved hW.alike hK, hE.call hS hFc hU hW⟩⟩ rfl rfl hl.1 rfl (lv_room (Nat.le_of_ble_eq_true rfl)) dX12_fill_45 ⟨(Nat.le_of_ble_eq_true rfl), (Nat.le_of_ble_eq_true rfl)⟩) hS (fun q _ h => hFc q h) hFc (fun r26 u t H locs ht hvm hw27 hB _ _ hS => ?_)
      obtain ⟨hT, hF1⟩ := hB
      rw [ht] at hT hF1
      have hF := hF.more hF1 (by decide)
      try dsimp only at hw27
      obtain ⟨h28, hd29⟩ := hw27
      obtain rfl : (1 : Int32) = r26 := hd29.symm
      refine lv_if_ne (tgt := 59) hx hb dX12_fill_48 (by decide) (fun c30 => ?_) (fun c30 => absurd c30 (by decide))
      refine lv_iconst (v := 0) hx hb dX12_fill_59 (by decide) ?_
      exact W.zret (v := 0) hx hb hr (by decide) (fun t ht hW => ⟨⟨0, (), rfl, (by exact (rg_t (a := 0) (by decide) (by first | decide | omega) (by first | decide | omega))), by (try dsimp only); rw [ht]; exact ⟨hT, hF⟩⟩, hS.F ht⟩) hS.2.2 dX12_fill_60
    · have t31 : r16.toInt ≠ 0 := ti_ne c21 rfl (by decide)
      have t32 : (900 : Int32).toInt = 900 := by decide
      have t33 : (0 : Int32).toInt = 0 := by decide
      have t34 : (0 : Int32).toInt ≤ p1.toInt ∧ p1.toInt ≤ (900 : Int32).toInt := hi19 ((bit_of ⟨by omega, by omega⟩).resolve_left c21)
      refine lv_iload_n hx hb dX12_fill_29 rfl (lv_at hl 3 rfl) ?_
      refine lv_iconst (v := 0) hx hb dX12_fill_30 (by decide) ?_
      refine lv_ldc (v := 100000) hx hb hown (ht_at hts 12 rfl) dX12_fill_31 ?_
      have hFc := gA_free hG hA hS
      refine va_calli (va_runS (As := [.int p2, .int 0, .int 100000]) (rest := [.ref o0]) ⟨hx, hb, hml, hown, hts⟩ (s_in l dC dI kA adK adV G H q wZ0 wN wH wB wC wL wK wU wV PI im PM PT lS lB lE lN p2 0 100000 hT (fun _ => Int.le_refl 0) hgn hgh hgb hgc hgi hgu) (va_cwS 3 hts (goodIn_app (goodIn_r _ [4, 5, 6] rfl (by decide +kernel)) (goodIn_ca (goodIn_r _ [3] rfl (by decide +kernel)) (bs_in _ _))) rfl rfl rfl (by decide +kernel) ⟨(Nat.le_of_ble_eq_true rfl), (Nat.le_of_ble_eq_true rfl)⟩) ⟨fun a U g mk q => by obtain ⟨q0, q1, qK, qE⟩ := q; exact ⟨q0, q1, va_K.moved (u := U) (U := U.calling g mk a) (Vm.Alike.refl U.vm) qK, EVS.blind g mk a qE⟩, fun U hU hW => ⟨rfl, hU, va_K.moved hW.alike hK, hE.call hS hFc hU hW⟩⟩ rfl rfl hl.1 rfl (lv_room (Nat.le_of_ble_eq_true rfl)) dX12_fill_33 ⟨(Nat.le_of_ble_eq_true rfl), (Nat.le_of_ble_eq_true rfl)⟩) hS (fun q _ h => hFc q h) hFc (fun r35 u t H locs ht hvm hw36 hB _ _ hS => ?_)
      obtain ⟨hT, hF1⟩ := hB
      rw [ht] at hT hF1
      have hF := hF.more hF1 (by decide)
      try dsimp only at hw36
      obtain ⟨h37, hi38, hi39⟩ := hw36
      refine lv_if_ne (tgt := 43) hx hb dX12_fill_36 (by decide) (fun c40 => ?_) (fun c40 => ?_)
      · have t41 : r35.toInt ≠ 0 := ti_ne c40 rfl (by decide)
        have t42 : (100000 : Int32).toInt = 100000 := by decide
        have t43 : (0 : Int32).toInt = 0 := by decide
        have t44 : (0 : Int32).toInt ≤ p2.toInt ∧ p2.toInt ≤ (100000 : Int32).toInt := hi38 ((bit_of ⟨by omega, by omega⟩).resolve_left c40)
        refine lv_iconst (v := 0) hx hb dX12_fill_43 (by decide) ?_
        refine lv_iconst (v := 2) hx hb dX12_fill_44 (by decide) ?_
        have hFc := gA_free hG hA hS
        refine va_calli (va_runV (As := [.int 0, .int 2]) (rest := []) ⟨hx, hb, hml, hown, hts⟩ (s_throwsIf l dC dI kA adK adV G H q wZ0 wN wH wB wC wL wK wU wV PI im PM PT lS lB lE lN o0 0 2 hT hr_o0 (rg_t (a := 0) (by decide) (by first | decide | omega) (by first | decide | omega)) (fun _ => Int.le_refl 0) hgn hgh hgb hgc hgi hgu) (cwV 2 hts (goodIn_app (goodIn_r _ [10, 11, 12, 6] rfl (by decide +kernel)) (goodIn_ca (goodIn_r _ [9, 1] rfl (by decide +kernel)) (bs_in _ _))) rfl rfl rfl (by decide +kernel) ⟨(Nat.le_of_ble_eq_true rfl), (Nat.le_of_ble_eq_true rfl)⟩) ⟨fun a U g mk q => by obtain ⟨q0, q1, qK, qE⟩ := q; exact ⟨q0, q1, va_K.moved (u := U) (U := U.calling g mk a) (Vm.Alike.refl U.vm) qK, EVS.blind g mk a qE⟩, gH_rc hK hT hr_o0 shm_0 rfl, fun U hU hW => ⟨rfl, hU, va_K.moved hW.alike hK, hE.call hS hFc hU hW⟩⟩ rfl rfl hl.1 rfl (lv_room (Nat.le_of_ble_eq_true rfl)) dX12_fill_45 ⟨(Nat.le_of_ble_eq_true rfl), (Nat.le_of_ble_eq_true rfl)⟩) hS (fun q _ h => hFc q h) hFc (fun r45 u t H locs ht hvm hw46 hB _ _ hS => ?_)
        obtain ⟨hT, hF1⟩ := hB
        rw [ht] at hT hF1
        have hF := hF.more hF1 (by decide)
        try dsimp only at hw46
        obtain ⟨h47, hd48⟩ := hw46
        obtain rfl : (0 : Int32) = r45 := hd48.symm
        refine lv_if_ne (tgt := 59) hx hb dX12_fill_48 (by decide) (fun c49 => absurd c49 (by decide)) (fun c49 => ?_)
        refine lv_aload_n hx hb dX12_fill_51 rfl (lv_at hl 0 rfl) ?_
        refine lv_iload_n hx hb dX12_fill_52 rfl (lv_at hl 1 rfl) ?_
        have hFc := gA_free hG hA hS
        refine va_calli (va_runV (As := [.int p0]) (rest := []) ⟨hx, hb, hml, hown, hts⟩ (s_isLand l dC dI kA adK adV G H q wZ0 wN wH wB wC wL wK wU wV PI im PM PT lS lB lE lN o0 p0 hT hr_o0 (by have q8 := ti_all p0; omega) (fun _ => Int.le_refl 0) hgn hgh hgb hgc hgi hgu) (cwV 1 hts (goodIn_app (goodIn_r _ [16, 17, 18, 6] rfl (by decide +kernel)) (goodIn_ca (goodIn_r _ [14, 15] rfl (by decide +kernel)) (bs_in _ _))) rfl rfl rfl (by decide +kernel) ⟨(Nat.le_of_ble_eq_true rfl), (Nat.le_of_ble_eq_true rfl)⟩) ⟨fun a U g mk q => by obtain ⟨q0, q1, qK, qE⟩ := q; exact ⟨q0, q1, va_K.moved (u := U) (U := U.calling g mk a) (Vm.Alike.refl U.vm) qK, EVS.blind g mk a qE⟩, gH_rc hK hT hr_o0 shm_0 rfl, fun U hU hW => ⟨rfl, hU, va_K.moved hW.alike hK, hE.call hS hFc hU hW⟩⟩ rfl rfl hl.1 rfl (lv_room (Nat.le_of_ble_eq_true rfl)) dX12_fill_53 ⟨(Nat.le_of_ble_eq_true rfl), (Nat.le_of_ble_eq_true rfl)⟩) hS (fun q _ h => hFc q h) hFc (fun r50 u t H locs ht hvm hw51 hB _ _ hS => ?_)
        obtain ⟨hT, hF1⟩ := hB
        rw [ht] at hT hF1
        have hF := hF.more hF1 (by decide)
        try dsimp only at hw51
        obtain ⟨h52, hi53, hi54⟩ := hw51
        refine lv_if_ne (tgt := 61) hx hb dX12_fill_56 (by decide) (fun c55 => ?_) (fun c55 => ?_)
        · have t56 : r50.toInt ≠ 0 := ti_ne c55 rfl (by decide)
          have t57 : wL p0.toNatClampNeg := hi53 ((bit_of ⟨by omega, by omega⟩).resolve_left c55)
          refine lv_aload_n hx hb dX12_fill_61 rfl (lv_at hl 0 rfl) ?_
          refine tw_get hx hb hts bF_X12 hown hK hT hr_o0 shm_0 rfl 1 (by decide) (ht_at hts 14 rfl) (fun _ h9 => h9) dX12_fill_62 (fun v9 m58 h9 => ?_)
          obtain ⟨rfl, hg59⟩ := h9 _ rfl
          refine lv_sipush (v := 1748) hx hb dX12_fill_65 (by decide) ?_
          refine lv_dup2_11 hx hb dX12_fill_68 rfl rfl ?_
          refine tw_iald (i := 1748) hx hb hK hT hg59 shm_2 rfl (by unfold vp_in; decide) dX12_fill_69 (fun v9 m60 h9 => ?_)
          obtain ⟨x61, rfl, gx61, kx61⟩ := (gp_at h9 (w_fre (by have q9 := tn_of (show (1748 : Int32).toInt = 1748 from (by decide)) (show (0 : Int) ≤ 1748 from by omega); omega)))
          refine lv_iload_n hx hb dX12_fill_70 rfl (lv_at hl 2 rfl) ?_
          refine lv_aload_n hx hb dX12_fill_71 rfl (lv_at hl 0 rfl) ?_
          refine tw_get hx hb hts bF_X12 hown hK hT hr_o0 shm_0 rfl 1 (by decide) (ht_at hts 14 rfl) (fun _ h9 => h9) dX12_fill_72 (fun v9 m62 h9 => ?_)
          obtain ⟨rfl, hg63⟩ := h9 _ rfl
          refine lv_sipush (v := 384) hx hb dX12_fill_75 (by decide) ?_
          refine lv_iload_n hx hb dX12_fill_78 rfl (lv_at hl 1 rfl) ?_
          refine lv_iadd hx hb dX12_fill_79 ?_
          refine lv_topi (fun x64 ex64 => ?_)
          have t65 : x64.toInt = 384 + p0.toInt := ti_add ex64 (by decide) rfl (by omega) (by omega)
          refine tw_iald (i := x64) hx hb hK hT hg59 shm_2 rfl (vin_t (a := x64.toInt) rfl (by omega) (by omega)) dX12_fill_80 (fun v9 m66 h9 => ?_)
          obtain ⟨x67, rfl, gx67, kx67⟩ := (gw_at h9 (w_wat (by have q9 := tn_of (show x64.toInt = x64.toInt from rfl) (show (0 : Int) ≤ x64.toInt from by omega); omega)) hgn (fun _ => Int.le_refl 0))
          refine lv_isub hx hb dX12_fill_81 ?_
          refine lv_topi (fun x68 ex68 => ?_)
          have t69 : x68.toInt = p1.toInt - x67.toInt := ti_sub ex68 rfl rfl (by omega) (by omega)
          refine lv_iadd hx hb dX12_fill_82 ?_
          refine lv_topi (fun x70 ex70 => ?_)
          refine tw_iast (i := 1748) (x := x70) hx hb hK hT hG hS hg59 shm_2 rfl (by unfold vp_in; decide) (gp_of (gi_all _) (w_fre (by have q9 := tn_of (show (1748 : Int32).toInt = 1748 from (by decide)) (show (0 : Int) ≤ 1748 from by omega); omega)) (wX_o (by have q9 := tn_of (show (1748 : Int32).toInt = 1748 from (by decide)) (show (0 : Int) ≤ 1748 from by omega); omega) (by omega))) dX12_fill_83 (fun H locs hT oq m71 oi hS => ?_)
          have hF := hF.ast hg59 skm_2 oq (by decide)
          refine lv_aload_n hx hb dX12_fill_84 rfl (lv_at hl 0 rfl) ?_
          refine tw_get hx hb hts bF_X12 hown hK hT hr_o0 shm_0 rfl 1 (by decide) (ht_at hts 14 rfl) (fun _ h9 => h9) dX12_fill_85 (fun v9 m73 h9 => ?_)
          obtain ⟨rfl, hg74⟩ := h9 _ rfl
          refine lv_sipush (v := 384) hx hb dX12_fill_88 (by decide) ?_
          refine lv_iload_n hx hb dX12_fill_91 rfl (lv_at hl 1 rfl) ?_
          refine lv_iadd hx hb dX12_fill_92 ?_
          refine lv_topi (fun x75 ex75 => ?_)
          have t76 : x75.toInt = 384 + p0.toInt := ti_add ex75 (by decide) rfl (by omega) (by omega)
          refine lv_iload_n hx hb dX12_fill_93 rfl (lv_at hl 2 rfl) ?_
          have t77 : 6500000 ≤ wN x75.toNatClampNeg ∧ wN x75.toNatClampNeg ≤ 20200000 := hgn _
          have t78 : wN x64.toNatClampNeg = wN x75.toNatClampNeg := congrArg _ (tn_same (show x64.toInt = x64.toInt from rfl) (show x75.toInt = x75.toInt from rfl) (by omega))
          refine tw_iast (i := x75) (x := p1) hx hb hK hT hG hS hg59 shm_2 rfl (vin_t (a := x75.toInt) rfl (by omega) (by omega)) (gp_of (gi_of (show p1.toInt = p1.toInt from rfl) (by omega) (by omega)) (w_wat0 (by have q9 := tn_of (show x75.toInt = x75.toInt from rfl) (show (0 : Int) ≤ x75.toInt from by omega); omega)) (wX_o (by have q9 := tn_of (show x75.toInt = x75.toInt from rfl) (show (0 : Int) ≤ x75.toInt from by omega); omega) (by omega))) dX12_fill_94 (fun H locs hT oq m79 oi hS => ?_)
          have hF := hF.ast hg59 skm_2 oq (by decide)
          refine lv_aload_n hx hb dX12_fill_95 rfl (lv_at hl 0 rfl) ?_
          refine tw_get hx hb hts bF_X12 hown hK hT hr_o0 shm_0 rfl 1 (by decide) (ht_at hts 14 rfl) (fun _ h9 => h9) dX12_fill_96 (fun v9 m81 h9 => ?_)
          obtain ⟨rfl, hg82⟩ := h9 _ rfl
          refine lv_sipush (v := 480) hx hb dX12_fill_99 (by decide) ?_
          refine lv_iload_n hx hb dX12_fill_102 rfl (lv_at hl 1 rfl) ?_
          refine lv_iadd hx hb dX12_fill_103 ?_
          refine lv_topi (fun x83 ex83 => ?_)
          have t84 : x83.toInt = 480 + p0.toInt := ti_add ex83 (by decide) rfl (by omega) (by omega)
          refine lv_iload_n hx hb dX12_fill_104 rfl (lv_at hl 3 rfl) ?_
          refine tw_iast (i := x83) (x := p2) hx hb hK hT hG hS hg59 shm_2 rfl (vin_t (a := x83.toInt) rfl (by omega) (by omega)) (gp_of (gi_all _) (w_fre (by have q9 := tn_of (show x83.toInt = x83.toInt from rfl) (show (0 : Int) ≤ x83.toInt from by omega); omega)) (wX_o (by have q9 := tn_of (show x83.toInt = x83.toInt from rfl) (show (0 : Int) ≤ x83.toInt from by omega); omega) (by omega))) dX12_fill_105 (fun H locs hT oq m85 oi hS => ?_)
          have hF := hF.ast hg59 skm_2 oq (by decide)
          refine lv_aload_n hx hb dX12_fill_106 rfl (lv_at hl 0 rfl) ?_
          refine lv_iconst (v := 0) hx hb dX12_fill_107 (by decide) ?_
          refine tw_put (v := .int 0) (ty := .int) hx hb hts bF_X12 tyX12 tyX12_ok nmX12 hown hK hT hG hS hr_o0 shm_0 rfl 9 (by decide) (ht_at hts 18 rfl) (fun _ h9 => h9) rfl (by decide +kernel) rfl rfl (gl_at rfl (gi_of (show (0 : Int32).toInt = 0 from (by decide)) (by first | decide | omega) (by first | decide | omega))) dX12_fill_108 (fun H locs hT oq m88 oj hS => ?_)
          have hF := hF.put hr_o0 skm_0 oq oj (by decide)
          refine lv_iconst (v := 1) hx hb dX12_fill_111 (by decide) ?_
          exact W.zret (v := 1) hx hb hr (by decide) (fun t ht hW => ⟨⟨1, (), rfl, (by exact (rg_t (a := 1) (by decide) (by first | decide | omega) (by first | decide | omega))), by (try dsimp only); rw [ht]; exact ⟨hT, hF⟩⟩, hS.F ht⟩) hS.2.2 dX12_fill_112
        · have t92 : r50.toInt = 0 := ti_eq c55 rfl (by decide)
          have t93 : ¬ wL p0.toNatClampNeg := hi54 c55
          refine lv_iconst (v := 0) hx hb dX12_fill_59 (by decide) ?_
          exact W.zret (v := 0) hx hb hr (by decide) (fun t ht hW => ⟨⟨0, (), rfl, (by exact (rg_t (a := 0) (by decide) (by first | decide | omega) (by first | decide | omega))), by (try dsimp only); rw [ht]; exact ⟨hT, hF⟩⟩, hS.F ht⟩) hS.2.2 dX12_fill_60
      · have t94 : r35.toInt = 0 := ti_eq c40 rfl (by decide)
        have t95 : (100000 : Int32).toInt = 100000 := by decide
        have t96 : (0 : Int32).toInt = 0 := by decide
        have t97 : p2.toInt < (0 : Int32).toInt ∨ (100000 : Int32).toInt < p2.toInt := hi39 c40
        refine lv_iconst (v := 1) hx hb dX12_fill_39 (by decide) ?_
        refine lv_goto (tgt := 44) hx hb dX12_fill_40 (by decide) ?_
        refine lv_iconst (v := 2) hx hb dX12_fill_44 (by decide) ?_
        have hFc := gA_free hG hA hS
        refine va_calli (va_runV (As := [.int 1, .int 2]) (rest := []) ⟨hx, hb, hml, hown, hts⟩ (s_throwsIf l dC dI kA adK adV G H q wZ0 wN wH wB wC wL wK wU wV PI im PM PT lS lB lE lN o0 1 2 hT hr_o0 (rg_t (a := 1) (by decide) (by first | decide | omega) (by first | decide | omega)) (fun _ => Int.le_refl 0) hgn hgh hgb hgc hgi hgu) (cwV 2 hts (goodIn_app (goodIn_r _ [10, 11, 12, 6] rfl (by decide +kernel)) (goodIn_ca (goodIn_r _ [9, 1] rfl (by decide +kernel)) (bs_in _ _))) rfl rfl rfl (by decide +kernel) ⟨(Nat.le_of_ble_eq_true rfl), (Nat.le_of_ble_eq_true rfl)⟩) ⟨fun a U g mk q => by obtain ⟨q0, q1, qK, qE⟩ := q; exact ⟨q0, q1, va_K.moved (u := U) (U := U.calling g mk a) (Vm.Alike.refl U.vm) qK, EVS.blind g mk a qE⟩, gH_rc hK hT hr_o0 shm_0 rfl, fun U hU hW => ⟨rfl, hU, va_K.moved hW.alike hK, hE.call hS hFc hU hW⟩⟩ rfl rfl hl.1 rfl (lv_room (Nat.le_of_ble_eq_true rfl)) dX12_fill_45 ⟨(Nat.le_of_ble_eq_true rfl), (Nat.le_of_ble_eq_true rfl)⟩) hS (fun q _ h => hFc q h) hFc (fun r98 u t H locs ht hvm hw99 hB _ _ hS => ?_)
        obtain ⟨hT, hF1⟩ := hB
        rw [ht] at hT hF1
        have hF := hF.more hF1 (by decide)
        try dsimp only at hw99
        obtain ⟨h100, hd101⟩ := hw99
        obtain rfl : (1 : Int32) = r98 := hd101.symm
        refine lv_if_ne (tgt := 59) hx hb dX12_fill_48 (by decide) (fun c102 => ?_) (fun c102 => absurd c102 (by decide))
        refine lv_iconst (v := 0) hx hb dX12_fill_59 (by decide) ?_
        exact W.zret (v := 0) hx hb hr (by decide) (fun t ht hW => ⟨⟨0, (), rfl, (by exact (rg_t (a := 0) (by decide) (by first | decide | omega) (by first | decide | omega))), by (try dsimp only); rw [ht]; exact ⟨hT, hF⟩⟩, hS.F ht⟩) hS.2.2 dX12_fill_60
def w_s_lawLevel : List Cond := .code yX12_lawLevel cX12_lawLevel 4 (some .int) :: (HAppend.hAppend (α := List Cond) (β := List Cond) (γ := List Cond) [.fieldLink RX12 194 "SeaLandModel" "thrown" "I", .code yX12_noSquare cX12_noSquare 1 (some .boolean), .code yX12_in cX12_in 3 (some .boolean), .methodLink RX12 197 yX12_in, .static yX12_in, .initialized RX12, .methodLink RX12 220 yX12_noSquare, .static yX12_noSquare, .code yX12_throwsIf cX12_throwsIf 3 (some .boolean), .methodLink RX12 224 yX12_throwsIf, .instanceMethod yX12_throwsIf, .selects RX12 yX12_throwsIf yX12_throwsIf, .fieldLink RX12 42 "SeaLandModel" "lines" "[I", .fieldLink RX12 45 "SeaLandModel" "sort" "[I", .fieldLink RX12 54 "SeaLandModel" "from" "[I", .fieldLink RX12 57 "SeaLandModel" "to" "[I", .code yX12_isIn cX12_isIn 5 (some .boolean), .methodLink RX12 207 Lib.Math.min.name, .static Lib.Math.min.name, .initialized "java/lang/Math", .code Lib.Math.min.name Lib.Math.min.code 2 (some .int), .methodLink RX12 211 Lib.Math.max.name, .static Lib.Math.max.name, .code Lib.Math.max.name Lib.Math.max.code 2 (some .int), .methodLink RX12 232 yX12_isIn, .static yX12_isIn, .code yX12_hour cX12_hour 1 (some .int), .fieldLink RX12 9 "SeaLandModel" "world" "[I", .methodLink RX12 228 yX12_hour, .instanceMethod yX12_hour, .selects RX12 yX12_hour yX12_hour, .fieldLink RX12 51 "SeaLandModel" "winter" "[I", .fieldLink RX12 48 "SeaLandModel" "told" "[I"] bs)
set_option maxHeartbeats 4000000 in
set_option maxRecDepth 100000 in
theorem s_lawLevel (l : Launch) (dC : Nat → ClassId) (dI : Nat → Nat → Nat) (kA : Nat → ClassId) (adK adV : Nat → Nat) (G : gT) (H0 : Heap) (q : Nat → Nat) (wZ wN : Nat → Int) (wH wB wC : Int) (wL wK : Nat → Prop) (wU wV : Nat → Nat) (PI : Nat → Int → Prop) (im : Int) (PM PT : Nat → Int → Prop) (lS lB lE : Nat → Nat → Int → Prop) (lN : Nat → Int) (o0 : Nat) (p0 : Int32)  (hT : gH (dC, dI) kA (SHm q (wP wZ wN wH wB wC wL wK wU wV) PI im PM PT lS lB lE lN) G H0) (hr_o0 : G o0 = some 0) (hgz : ∀ i, 0 ≤ wZ i) (hgn : ∀ i, 6500000 ≤ wN i ∧ wN i ≤ 20200000) (hgh : 0 ≤ wH ∧ wH ≤ 40000) (hgb : 0 ≤ wB ∧ wB ≤ 3850000) (hgc : 0 ≤ wC ∧ wC ≤ 30) (hgi : 0 ≤ im ∧ im ≤ 1) (hgu : ∀ a t, G a = some (t + 1) → a = q t) : Met l yX12_lawLevel w_s_lawLevel ({ frames := 2, cells := 0, slots := 0, locals := 64 }) (va_Pc [.ref o0, .int p0] (fun U => U.heap = H0 ∧ va_K (dC, dI) vwCl (tyl kA) U ∧ EVS adK adV (gA G H0.size) U U.heap)) (va_Qi (fun (r : Int32) (u : Unit) => True) (fun (_ : Unit) (t : State) => gH (dC, dI) kA (SHm q (wP wZ wN wH wB wC wL wK wU wV) PI im PM PT lS lB lE lN) G t.heap ∧ gF (dC, dI) SKm G ([(0, 0)] : List (Nat × Nat)) H0 t.heap) (gA G H0.size)) 0 0 (gA G H0.size) := by
  refine Met.ofW (cc := cX12_lawLevel) (maxL := 4) (ret := (some .int)) (by decide) rfl ?_
  intro p e s m args below meth c s₁ B hml hv
  obtain ⟨rfl, hH0, hK, hE⟩ := hv
  have hx := B.exec
  have hb := B.bytes
  have hr := B.returns
  have hts := atoms_spec (ws := w_s_lawLevel) B.pre
  have hown : s.vm.findClass RX12 = some m.cls := findClass_of_methodNamed B.named
  have hlocks := B.notSynchronized
  subst hH0
  generalize hAe : gA G s.heap.size = A at hE ⊢
  have hA : ∀ q : Nat, s.heap.size ≤ q → A q := fun q h => by rw [← hAe]; exact Or.inr h
  have hG := gA_of hAe
  have hS : va_S A s.heap s.heap [] := va_S.rf
  have hF : gF (dC, dI) SKm G ([(0, 0)] : List (Nat × Nat)) s.heap s.heap := gF.rf
  have hl := lv_entry ([.ref o0, .int p0]) (n := 4) (Nat.le_of_ble_eq_true rfl)
  rw [lg_entry_eq]
  generalize (lg_sl ([.ref o0, .int p0]) ++ List.replicate (4 - (lg_sl ([.ref o0, .int p0])).length) Slot.unset).toArray = ls at hl ⊢
  have hl : lv_has ls 4 [(0, .ref o0), (1, .int p0)] := hl
  refine lv_aload_n hx hb dX12_lawLevel_0 rfl (lv_at hl 0 rfl) ?_
  refine lv_iconst (v := 0) hx hb dX12_lawLevel_1 (by decide) ?_
  refine tw_put (v := .int 0) (ty := .int) hx hb hts bF_X12 tyX12 tyX12_ok nmX12 hown hK hT hG hS hr_o0 shm_0 rfl 0 (by decide) (ht_at hts 0 rfl) (fun _ h9 => h9) rfl (by decide +kernel) rfl rfl (gl_at rfl (gi_all _)) dX12_lawLevel_2 (fun H locs hT oq m1 oj hS => ?_)
  have hF := hF.put hr_o0 skm_0 oq oj (by decide)
  refine lv_aload_n hx hb dX12_lawLevel_5 rfl (lv_at hl 0 rfl) ?_
  refine lv_iload_n hx hb dX12_lawLevel_6 rfl (lv_at hl 1 rfl) ?_
  have hFc := gA_free hG hA hS
  refine va_calli (va_runS (As := [.int p0]) (rest := [.ref o0]) ⟨hx, hb, hml, hown, hts⟩ (s_noSquare l dC dI kA adK adV G H q wZ wN wH wB wC wL wK wU wV PI im PM PT lS lB lE lN p0 hT hgz hgn hgh hgb hgc hgi hgu) (va_cwS 1 hts (goodIn_app (goodIn_r _ [7, 8, 6] rfl (by decide +kernel)) (goodIn_ca (goodIn_r _ [2, 3, 4, 5, 6] rfl (by decide +kernel)) (bs_in _ _))) rfl rfl rfl (by decide +kernel) ⟨(Nat.le_of_ble_eq_true rfl), (Nat.le_of_ble_eq_true rfl)⟩) ⟨fun a U g mk q => by obtain ⟨q0, q1, qK, qE⟩ := q; exact ⟨q0, q1, va_K.moved (u := U) (U := U.calling g mk a) (Vm.Alike.refl U.vm) qK, EVS.blind g mk a qE⟩, fun U hU hW => ⟨rfl, hU, va_K.moved hW.alike hK, hE.call hS hFc hU hW⟩⟩ rfl rfl hl.1 rfl (lv_room (Nat.le_of_ble_eq_true rfl)) dX12_lawLevel_7 ⟨(Nat.le_of_ble_eq_true rfl), (Nat.le_of_ble_eq_true rfl)⟩) hS (fun q _ h => hFc q h) hFc (fun r2 u t H locs ht hvm hw3 hB _ _ hS => ?_)
  obtain ⟨hT, hF1⟩ := hB
  rw [ht] at hT hF1
  have hF := hF.more hF1 (by decide)
  try dsimp only at hw3
  obtain ⟨h5, hi6⟩ := hw3
  refine lv_iconst (v := 1) hx hb dX12_lawLevel_10 (by decide) ?_
  have hFc := gA_free hG hA hS
  refine va_calli (va_runV (As := [.int r2, .int 1]) (rest := []) ⟨hx, hb, hml, hown, hts⟩ (s_throwsIf l dC dI kA adK adV G H q wZ wN wH wB wC wL wK wU wV PI im PM PT lS lB lE lN o0 r2 1 hT hr_o0 (by have q8 := ti_all r2; omega) hgz hgn hgh hgb hgc hgi hgu) (cwV 2 hts (goodIn_app (goodIn_r _ [10, 11, 12, 6] rfl (by decide +kernel)) (goodIn_ca (goodIn_r _ [9, 1] rfl (by decide +kernel)) (bs_in _ _))) rfl rfl rfl (by decide +kernel) ⟨(Nat.le_of_ble_eq_true rfl), (Nat.le_of_ble_eq_true rfl)⟩) ⟨fun a U g mk q => by obtain ⟨q0, q1, qK, qE⟩ := q; exact ⟨q0, q1, va_K.moved (u := U) (U := U.calling g mk a) (Vm.Alike.refl U.vm) qK, EVS.blind g mk a qE⟩, gH_rc hK hT hr_o0 shm_0 rfl, fun U hU hW => ⟨rfl, hU, va_K.moved hW.alike hK, hE.call hS hFc hU hW⟩⟩ rfl rfl hl.1 rfl (lv_room (Nat.le_of_ble_eq_true rfl)) dX12_lawLevel_11 ⟨(Nat.le_of_ble_eq_true rfl), (Nat.le_of_ble_eq_true rfl)⟩) hS (fun q _ h => hFc q h) hFc (fun r7 u t H locs ht hvm hw8 hB _ _ hS => ?_)
  obtain ⟨hT, hF1⟩ := hB
  rw [ht] at hT hF1
  have hF := hF.more hF1 (by decide)
  try dsimp only at hw8
  obtain ⟨h10, hd11⟩ := hw8
  obtain rfl : r2 = r7 := hd11.symm
  refine lv_if_eq (tgt := 19) hx hb dX12_lawLevel_14 (by decide) (fun c12 => ?_) (fun c12 => ?_)
  · have t13 : r2.toInt = 0 := ti_eq c12 rfl (by decide)
    have t14 : 0 ≤ p0.toInt ∧ p0.toInt ≤ 95 := hi6 c12
    refine lv_sipush (v := 1000) hx hb dX12_lawLevel_19 (by decide) ?_
    refine lv_istore_n (lv' := [(2, .int 1000), (0, .ref o0), (1, .int p0)]) hx hb dX12_lawLevel_22 rfl hl (by decide) rfl (fun ls hl => ?_)
    refine lv_iconst (v := 0) hx hb dX12_lawLevel_23 (by decide) ?_
    refine lv_istore_n (lv' := [(3, .int 0), (2, .int 1000), (0, .ref o0), (1, .int p0)]) hx hb dX12_lawLevel_24 rfl hl (by decide) rfl (fun ls hl => ?_)
    have key89 : ∀ (n89 i15 : Nat), i15 + n89 = 20 → 0 ≤ i15 → ∀ (z16 : Int32), ∀ (H : Heap) (locs : List Loc), gH (dC, dI) kA (SHm q (wP wZ wN wH wB wC wL wK wU wV) PI im PM PT lS lB lE lN) G H → gF (dC, dI) SKm G ([(0, 0)] : List (Nat × Nat)) s.heap H → va_S A s.heap H locs → ∀ ls : Array Slot, lv_has ls 4 [(3, .int (nI i15)), (2, .int z16), (0, .ref o0), (1, .int p0)] → W p l e (headSpec w_s_lawLevel ({ frames := 2, cells := 0, slots := 0, locals := 64 })).room s m #[.ref o0, .int p0] below meth c H locs 0 0 (MQ below (va_Qi (fun (r : Int32) (u : Unit) => True) (fun (_ : Unit) (t : State) => gH (dC, dI) kA (SHm q (wP wZ wN wH wB wC wL wK wU wV) PI im PM PT lS lB lE lN) G t.heap ∧ gF (dC, dI) SKm G ([(0, 0)] : List (Nat × Nat)) s.heap t.heap) A) #[.ref o0, .int p0] s 0 0 A) (F0 m 25 ls []) := by
      intro n89
      induction n89 with
      | zero =>
        intro i15 hn89 hlo90 z16 H locs hT hF hS  ls hl
        obtain rfl : 20 = i15 := by omega
        refine lv_iload_n hx hb dX12_lawLevel_25 rfl (lv_at hl 0 rfl) ?_
        refine lv_aload_n hx hb dX12_lawLevel_26 rfl (lv_at hl 2 rfl) ?_
        refine tw_get hx hb hts bF_X12 hown hK hT hr_o0 shm_0 rfl 18 (by decide) (ht_at hts 12 rfl) (fun _ h9 => h9) dX12_lawLevel_27 (fun v9 m91 h9 => ?_)
        obtain ⟨rfl, hg92⟩ := h9 _ rfl
        refine lv_iconst (v := 0) hx hb dX12_lawLevel_30 (by decide) ?_
        refine tw_iald (i := 0) hx hb hK hT hg92 shm_19 rfl (by unfold vp_in; decide) dX12_lawLevel_31 (fun v9 m93 h9 => ?_)
        obtain ⟨x94, rfl, gx94, kx94⟩ := (gn_at h9)
        refine lv_icmp_ge (tgt := 111) hx hb dX12_lawLevel_32 (by decide) (fun c95 => ?_) (fun c95 => (by exfalso; have q9 : ((20 : Nat) : Int) < x94.toInt := ti_nle c95 rfl (nI_toInt (by omega)); omega))
        have t96 : x94.toInt ≤ ((20 : Nat) : Int) := ti_le c95 rfl (nI_toInt (by omega))
        refine lv_iload_n hx hb dX12_lawLevel_111 rfl (lv_at hl 1 rfl) ?_
        exact W.iret (v := z16) hx hb hr (fun t ht hW => ⟨⟨z16, (), rfl, (by exact trivial), by (try dsimp only); rw [ht]; exact ⟨hT, hF⟩⟩, hS.F ht⟩) hS.2.2 dX12_lawLevel_112
      | succ n89 ih89 =>
        intro i15 hn89 hlo90 z16 H locs hT hF hS  ls hl
        have hlt96 : i15 < 20 := by omega
        refine lv_iload_n hx hb dX12_lawLevel_25 rfl (lv_at hl 0 rfl) ?_
        refine lv_aload_n hx hb dX12_lawLevel_26 rfl (lv_at hl 2 rfl) ?_
        refine tw_get hx hb hts bF_X12 hown hK hT hr_o0 shm_0 rfl 18 (by decide) (ht_at hts 12 rfl) (fun _ h9 => h9) dX12_lawLevel_27 (fun v9 m97 h9 => ?_)
        obtain ⟨rfl, hg98⟩ := h9 _ rfl
        refine lv_iconst (v := 0) hx hb dX12_lawLevel_30 (by decide) ?_
        refine tw_iald (i := 0) hx hb hK hT hg98 shm_19 rfl (by unfold vp_in; decide) dX12_lawLevel_31 (fun v9 m99 h9 => ?_)
        obtain ⟨x100, rfl, gx100, kx100⟩ := (gn_at h9)
        refine lv_icmp_ge (tgt := 111) hx hb dX12_lawLevel_32 (by decide) (fun c101 => ?_) (fun c101 => ?_)
        · have t102 : x100.toInt ≤ ((i15 : Nat) : Int) := ti_le c101 rfl (nI_toInt (by omega))
          refine lv_iload_n hx hb dX12_lawLevel_111 rfl (lv_at hl 1 rfl) ?_
          exact W.iret (v := z16) hx hb hr (fun t ht hW => ⟨⟨z16, (), rfl, (by exact trivial), by (try dsimp only); rw [ht]; exact ⟨hT, hF⟩⟩, hS.F ht⟩) hS.2.2 dX12_lawLevel_112
        · have t103 : ((i15 : Nat) : Int) < x100.toInt := ti_nle c101 rfl (nI_toInt (by omega))
          refine lv_aload_n hx hb dX12_lawLevel_35 rfl (lv_at hl 2 rfl) ?_
          refine tw_get hx hb hts bF_X12 hown hK hT hr_o0 shm_0 rfl 19 (by decide) (ht_at hts 13 rfl) (fun _ h9 => h9) dX12_lawLevel_36 (fun v9 m104 h9 => ?_)
          obtain ⟨rfl, hg105⟩ := h9 _ rfl
          refine lv_iload_n hx hb dX12_lawLevel_39 rfl (lv_at hl 0 rfl) ?_
          refine tw_iald (i := (nI i15)) hx hb hK hT hg105 shm_20 rfl (vp_in_nI (by omega) (by decide)) dX12_lawLevel_40 (fun v9 m106 h9 => ?_)
          obtain ⟨x107, rfl, gx107, kx107⟩ := h9
          refine lv_bipush (v := 7) hx hb dX12_lawLevel_41 (by decide) ?_
          refine lv_icmp_ne (tgt := 105) hx hb dX12_lawLevel_43 (by decide) (fun c108 => ?_) (fun c108 => ?_)
          · have t109 : x107.toInt ≠ 7 := ti_ne c108 rfl (by decide)
            refine lv_iinc (v := nI (i15 + 1)) (lv' := [(3, .int (nI (i15 + 1))), (2, .int z16), (0, .ref o0), (1, .int p0)]) hx hb dX12_lawLevel_105 hl (k := 0) rfl (nI_add i15 1) (by decide) rfl (fun ls hl => ?_)
            refine lv_goto (tgt := 25) hx hb dX12_lawLevel_108 (by decide) ?_
            exact ih89 (i15 + 1) (by omega) (by omega) z16 _ _ hT hF hS ls (lv_sub hl [0, 1, 2, 3] rfl)
          · have t110 : x107.toInt = 7 := ti_eq c108 rfl (by decide)
            refine lv_iload_n hx hb dX12_lawLevel_46 rfl (lv_at hl 3 rfl) ?_
            refine lv_aload_n hx hb dX12_lawLevel_47 rfl (lv_at hl 2 rfl) ?_
            refine tw_get hx hb hts bF_X12 hown hK hT hr_o0 shm_0 rfl 22 (by decide) (ht_at hts 14 rfl) (fun _ h9 => h9) dX12_lawLevel_48 (fun v9 m111 h9 => ?_)
            obtain ⟨rfl, hg112⟩ := h9 _ rfl
            refine lv_iload_n hx hb dX12_lawLevel_51 rfl (lv_at hl 0 rfl) ?_
            refine tw_iald (i := (nI i15)) hx hb hK hT hg112 shm_23 rfl (vp_in_nI (by omega) (by decide)) dX12_lawLevel_52 (fun v9 m113 h9 => ?_)
            obtain ⟨x114, rfl, gx114, kx114⟩ := h9
            refine lv_aload_n hx hb dX12_lawLevel_53 rfl (lv_at hl 2 rfl) ?_
            refine tw_get hx hb hts bF_X12 hown hK hT hr_o0 shm_0 rfl 23 (by decide) (ht_at hts 15 rfl) (fun _ h9 => h9) dX12_lawLevel_54 (fun v9 m115 h9 => ?_)
            obtain ⟨rfl, hg116⟩ := h9 _ rfl
            refine lv_iload_n hx hb dX12_lawLevel_57 rfl (lv_at hl 0 rfl) ?_
            refine tw_iald (i := (nI i15)) hx hb hK hT hg116 shm_24 rfl (vp_in_nI (by omega) (by decide)) dX12_lawLevel_58 (fun v9 m117 h9 => ?_)
            obtain ⟨x118, rfl, gx118, kx118⟩ := h9
            have hFc := gA_free hG hA hS
            refine va_calli (va_runS (As := [.int p0, .int x114, .int x118]) (rest := []) ⟨hx, hb, hml, hown, hts⟩ (s_isIn l dC dI kA adK adV G H q wZ wN wH wB wC wL wK wU wV PI im PM PT lS lB lE lN p0 x114 x118 hT hgz hgn hgh hgb hgc hgi hgu) (va_cwS 3 hts (goodIn_app (goodIn_r _ [25, 26, 6] rfl (by decide +kernel)) (goodIn_ca (goodIn_r _ [17, 18, 19, 20, 21, 22, 23, 24, 3, 4, 5, 6] rfl (by decide +kernel)) (bs_in _ _))) rfl rfl rfl (by decide +kernel) ⟨(Nat.le_of_ble_eq_true rfl), (Nat.le_of_ble_eq_true rfl)⟩) ⟨fun a U g mk q => by obtain ⟨q0, q1, qK, qE⟩ := q; exact ⟨q0, q1, va_K.moved (u := U) (U := U.calling g mk a) (Vm.Alike.refl U.vm) qK, EVS.blind g mk a qE⟩, fun U hU hW => ⟨rfl, hU, va_K.moved hW.alike hK, hE.call hS hFc hU hW⟩⟩ rfl rfl hl.1 rfl (lv_room (Nat.le_of_ble_eq_true rfl)) dX12_lawLevel_59 ⟨(Nat.le_of_ble_eq_true rfl), (Nat.le_of_ble_eq_true rfl)⟩) hS (fun q _ h => hFc q h) hFc (fun r119 u t H locs ht hvm hw120 hB _ _ hS => ?_)
            obtain ⟨hT, hF1⟩ := hB
            rw [ht] at hT hF1
            have hF := hF.more hF1 (by decide)
            try dsimp only at hw120
            have h125 := hw120
            refine lv_if_eq (tgt := 105) hx hb dX12_lawLevel_62 (by decide) (fun c126 => ?_) (fun c126 => ?_)
            · have t127 : r119.toInt = 0 := ti_eq c126 rfl (by decide)
              refine lv_iinc (v := nI (i15 + 1)) (lv' := [(3, .int (nI (i15 + 1))), (2, .int z16), (0, .ref o0), (1, .int p0)]) hx hb dX12_lawLevel_105 hl (k := 0) rfl (nI_add i15 1) (by decide) rfl (fun ls hl => ?_)
              refine lv_goto (tgt := 25) hx hb dX12_lawLevel_108 (by decide) ?_
              exact ih89 (i15 + 1) (by omega) (by omega) z16 _ _ hT hF hS ls (lv_sub hl [0, 1, 2, 3] rfl)
            · have t128 : r119.toInt ≠ 0 := ti_ne c126 rfl (by decide)
              refine lv_aload_n hx hb dX12_lawLevel_65 rfl (lv_at hl 2 rfl) ?_
              have hFc := gA_free hG hA hS
              refine va_calli (va_runV (As := []) (rest := []) ⟨hx, hb, hml, hown, hts⟩ (s_hour l dC dI kA adK adV G H q wZ wN wH wB wC wL wK wU wV PI im PM PT lS lB lE lN o0 hT hr_o0 hgz hgn hgh hgb hgc hgi hgu) (cwV 0 hts (goodIn_app (goodIn_r _ [29, 30, 31, 6] rfl (by decide +kernel)) (goodIn_ca (goodIn_r _ [27, 28] rfl (by decide +kernel)) (bs_in _ _))) rfl rfl rfl (by decide +kernel) ⟨(Nat.le_of_ble_eq_true rfl), (Nat.le_of_ble_eq_true rfl)⟩) ⟨fun a U g mk q => by obtain ⟨q0, q1, qK, qE⟩ := q; exact ⟨q0, q1, va_K.moved (u := U) (U := U.calling g mk a) (Vm.Alike.refl U.vm) qK, EVS.blind g mk a qE⟩, gH_rc hK hT hr_o0 shm_0 rfl, fun U hU hW => ⟨rfl, hU, va_K.moved hW.alike hK, hE.call hS hFc hU hW⟩⟩ rfl rfl hl.1 rfl (lv_room (Nat.le_of_ble_eq_true rfl)) dX12_lawLevel_66 ⟨(Nat.le_of_ble_eq_true rfl), (Nat.le_of_ble_eq_true rfl)⟩) hS (fun q _ h => hFc q h) hFc (fun r129 u t H locs ht hvm hw130 hB _ _ hS => ?_)
              obtain ⟨hT, hF1⟩ := hB
              rw [ht] at hT hF1
              have hF := hF.more hF1 (by decide)
              try dsimp only at hw130
              obtain ⟨h135, hf136⟩ := hw130
              refine lv_bipush (v := 24) hx hb dX12_lawLevel_69 (by decide) ?_
              refine lv_idiv hx hb dX12_lawLevel_71 (by decide) ?_
              refine lv_topi (fun x137 ex137 => ?_)
              have t138 : x137.toInt = r129.toInt / 24 := ti_div ex137 rfl (by decide) (by omega) (by omega)
              refine lv_sipush (v := 360) hx hb dX12_lawLevel_72 (by decide) ?_
              refine lv_irem hx hb dX12_lawLevel_75 (by decide) ?_
              refine lv_topi (fun x139 ex139 => ?_)
              have t140 : x139.toInt = x137.toInt % 360 := ti_rem ex139 rfl (by decide) (by omega) (by omega)
              refine lv_bipush (v := 90) hx hb dX12_lawLevel_76 (by decide) ?_
              refine lv_sipush (v := 269) hx hb dX12_lawLevel_78 (by decide) ?_
              have hFc := gA_free hG hA hS
              refine va_calli (va_runS (As := [.int x139, .int 90, .int 269]) (rest := []) ⟨hx, hb, hml, hown, hts⟩ (s_in l dC dI kA adK adV G H q wZ wN wH wB wC wL wK wU wV PI im PM PT lS lB lE lN x139 90 269 hT hgz hgn hgh hgb hgc hgi hgu) (va_cwS 3 hts (goodIn_app (goodIn_r _ [4, 5, 6] rfl (by decide +kernel)) (goodIn_ca (goodIn_r _ [3] rfl (by decide +kernel)) (bs_in _ _))) rfl rfl rfl (by decide +kernel) ⟨(Nat.le_of_ble_eq_true rfl), (Nat.le_of_ble_eq_true rfl)⟩) ⟨fun a U g mk q => by obtain ⟨q0, q1, qK, qE⟩ := q; exact ⟨q0, q1, va_K.moved (u := U) (U := U.calling g mk a) (Vm.Alike.refl U.vm) qK, EVS.blind g mk a qE⟩, fun U hU hW => ⟨rfl, hU, va_K.moved hW.alike hK, hE.call hS hFc hU hW⟩⟩ rfl rfl hl.1 rfl (lv_room (Nat.le_of_ble_eq_true rfl)) dX12_lawLevel_81 ⟨(Nat.le_of_ble_eq_true rfl), (Nat.le_of_ble_eq_true rfl)⟩) hS (fun q _ h => hFc q h) hFc (fun r141 u t H locs ht hvm hw142 hB _ _ hS => ?_)
              obtain ⟨hT, hF1⟩ := hB
              rw [ht] at hT hF1
              have hF := hF.more hF1 (by decide)
              try dsimp only at hw142
              obtain ⟨h147, hi148, hi149⟩ := hw142
              refine lv_if_eq (tgt := 97) hx hb dX12_lawLevel_84 (by decide) (fun c150 => ?_) (fun c150 => ?_)
              · have t151 : r141.toInt = 0 := ti_eq c150 rfl (by decide)
                have t152 : (269 : Int32).toInt = 269 := by decide
                have t153 : (90 : Int32).toInt = 90 := by decide
                have t154 : x139.toInt < (90 : Int32).toInt ∨ (269 : Int32).toInt < x139.toInt := hi149 c150
                refine lv_aload_n hx hb dX12_lawLevel_97 rfl (lv_at hl 2 rfl) ?_
                refine tw_get hx hb hts bF_X12 hown hK hT hr_o0 shm_0 rfl 21 (by decide) (ht_at hts 31 rfl) (fun _ h9 => h9) dX12_lawLevel_98 (fun v9 m155 h9 => ?_)
                obtain ⟨rfl, hg156⟩ := h9 _ rfl
                refine lv_iload_n hx hb dX12_lawLevel_101 rfl (lv_at hl 0 rfl) ?_
                refine tw_iald (i := (nI i15)) hx hb hK hT hg156 shm_22 rfl (vp_in_nI (by omega) (by decide)) dX12_lawLevel_102 (fun v9 m157 h9 => ?_)
                obtain ⟨x158, rfl, gx158, kx158⟩ := h9
                refine lv_ineg hx hb dX12_lawLevel_103 ?_
                refine lv_topi (fun x159 ex159 => ?_)
                refine lv_istore_n (lv' := [(2, .int x159), (3, .int (nI i15)), (0, .ref o0), (1, .int p0)]) hx hb dX12_lawLevel_104 rfl hl (by decide) rfl (fun ls hl => ?_)
                refine lv_iinc (v := nI (i15 + 1)) (lv' := [(3, .int (nI (i15 + 1))), (2, .int x159), (0, .ref o0), (1, .int p0)]) hx hb dX12_lawLevel_105 hl (k := 1) rfl (nI_add i15 1) (by decide) rfl (fun ls hl => ?_)
                refine lv_goto (tgt := 25) hx hb dX12_lawLevel_108 (by decide) ?_
                exact ih89 (i15 + 1) (by omega) (by omega) x159 _ _ hT hF hS ls (lv_sub hl [0, 1, 2, 3] rfl)
              · have t160 : r141.toInt ≠ 0 := ti_ne c150 rfl (by decide)
                have t161 : (269 : Int32).toInt = 269 := by decide
                have t162 : (90 : Int32).toInt = 90 := by decide
                have t163 : (90 : Int32).toInt ≤ x139.toInt ∧ x139.toInt ≤ (269 : Int32).toInt := hi148 ((bit_of ⟨by omega, by omega⟩).resolve_left c150)
                refine lv_aload_n hx hb dX12_lawLevel_87 rfl (lv_at hl 2 rfl) ?_
                refine tw_get hx hb hts bF_X12 hown hK hT hr_o0 shm_0 rfl 20 (by decide) (ht_at hts 32 rfl) (fun _ h9 => h9) dX12_lawLevel_88 (fun v9 m164 h9 => ?_)
                obtain ⟨rfl, hg165⟩ := h9 _ rfl
                refine lv_iload_n hx hb dX12_lawLevel_91 rfl (lv_at hl 0 rfl) ?_
                refine tw_iald (i := (nI i15)) hx hb hK hT hg165 shm_21 rfl (vp_in_nI (by omega) (by decide)) dX12_lawLevel_92 (fun v9 m166 h9 => ?_)
                obtain ⟨x167, rfl, gx167, kx167⟩ := h9
                refine lv_ineg hx hb dX12_lawLevel_93 ?_
                refine lv_topi (fun x168 ex168 => ?_)
                refine lv_goto (tgt := 104) hx hb dX12_lawLevel_94 (by decide) ?_
                refine lv_istore_n (lv' := [(2, .int x168), (3, .int (nI i15)), (0, .ref o0), (1, .int p0)]) hx hb dX12_lawLevel_104 rfl hl (by decide) rfl (fun ls hl => ?_)
                refine lv_iinc (v := nI (i15 + 1)) (lv' := [(3, .int (nI (i15 + 1))), (2, .int x168), (0, .ref o0), (1, .int p0)]) hx hb dX12_lawLevel_105 hl (k := 1) rfl (nI_add i15 1) (by decide) rfl (fun ls hl => ?_)
                refine lv_goto (tgt := 25) hx hb dX12_lawLevel_108 (by decide) ?_
                exact ih89 (i15 + 1) (by omega) (by omega) x168 _ _ hT hF hS ls (lv_sub hl [0, 1, 2, 3] rfl)
    exact key89 (20 - 0) 0 (by omega) (Nat.le_refl _) 1000 _ _ hT hF hS ls (lv_sub hl [0, 1, 2, 3] rfl)
  · have t169 : r2.toInt ≠ 0 := ti_ne c12 rfl (by decide)
    refine lv_iconst (v := 0) hx hb dX12_lawLevel_17 (by decide) ?_
    exact W.iret (v := 0) hx hb hr (fun t ht hW => ⟨⟨0, (), rfl, (by exact trivial), by (try dsimp only); rw [ht]; exact ⟨hT, hF⟩⟩, hS.F ht⟩) hS.2.2 dX12_lawLevel_18
def w_s_farm : List Cond := .code yX12_farm cX12_farm 4 (some .int) :: (HAppend.hAppend (α := List Cond) (β := List Cond) (γ := List Cond) [.fieldLink RX12 194 "SeaLandModel" "thrown" "I", .code yX12_noSquare cX12_noSquare 1 (some .boolean), .code yX12_in cX12_in 3 (some .boolean), .methodLink RX12 197 yX12_in, .static yX12_in, .initialized RX12, .methodLink RX12 220 yX12_noSquare, .static yX12_noSquare, .code yX12_throwsIf cX12_throwsIf 3 (some .boolean), .methodLink RX12 224 yX12_throwsIf, .instanceMethod yX12_throwsIf, .selects RX12 yX12_throwsIf yX12_throwsIf, .fieldLink RX12 498 "SeaLandModel" "farms" "I", .fieldLink RX12 113 "SeaLandModel" "farmFrom" "[I", .fieldLink RX12 116 "SeaLandModel" "farmTo" "[I", .fieldLink RX12 122 "SeaLandModel" "holder" "[I", .code yX12_isIn cX12_isIn 5 (some .boolean), .methodLink RX12 207 Lib.Math.min.name, .static Lib.Math.min.name, .initialized "java/lang/Math", .code Lib.Math.min.name Lib.Math.min.code 2 (some .int), .methodLink RX12 211 Lib.Math.max.name, .static Lib.Math.max.name, .code Lib.Math.max.name Lib.Math.max.code 2 (some .int), .methodLink RX12 232 yX12_isIn, .static yX12_isIn, .code yX12_isLand cX12_isLand 2 (some .boolean), .fieldLink RX12 9 "SeaLandModel" "world" "[I", .methodLink RX12 235 yX12_isLand, .instanceMethod yX12_isLand, .selects RX12 yX12_isLand yX12_isLand, .code yX12_farmOf cX12_farmOf 3 (some .int), .methodLink RX12 329 yX12_farmOf, .instanceMethod yX12_farmOf, .selects RX12 yX12_farmOf yX12_farmOf] bs)
set_option maxHeartbeats 4000000 in
set_option maxRecDepth 100000 in
theorem s_farm (l : Launch) (dC : Nat → ClassId) (dI : Nat → Nat → Nat) (kA : Nat → ClassId) (adK adV : Nat → Nat) (G : gT) (H0 : Heap) (q : Nat → Nat) (wZ wN : Nat → Int) (wH wB wC : Int) (wL wK : Nat → Prop) (wU wV : Nat → Nat) (PI : Nat → Int → Prop) (im : Int) (PM PT : Nat → Int → Prop) (lS lB lE : Nat → Nat → Int → Prop) (lN : Nat → Int) (o0 : Nat) (p0 : Int32) (p1 : Int32)  (hT : gH (dC, dI) kA (SHm q (wP wZ wN wH wB wC wL wK wU wV) PI im PM PT lS lB lE lN) G H0) (hr_o0 : G o0 = some 0) (hgz : ∀ i, 0 ≤ wZ i) (hgn : ∀ i, 6500000 ≤ wN i ∧ wN i ≤ 20200000) (hgh : 0 ≤ wH ∧ wH ≤ 40000) (hgb : 0 ≤ wB ∧ wB ≤ 3850000) (hgc : 0 ≤ wC ∧ wC ≤ 30) (hgi : 0 ≤ im ∧ im ≤ 1) (hgu : ∀ a t, G a = some (t + 1) → a = q t) : Met l yX12_farm w_s_farm ({ frames := 3, cells := 0, slots := 0, locals := 86 }) (va_Pc [.ref o0, .int p0, .int p1] (fun U => U.heap = H0 ∧ va_K (dC, dI) vwCl (tyl kA) U ∧ EVS adK adV (gA G H0.size) U U.heap)) (va_Qi (fun (r : Int32) (u : Unit) => (-1 ≤ r.toInt ∧ r.toInt ≤ 29)) (fun (_ : Unit) (t : State) => gH (dC, dI) kA (SHm q (wP wZ wN wH wB wC wL wK wU wV) PI im PM PT lS lB lE lN) G t.heap ∧ gF (dC, dI) SKm G ([(0, 0), (0, 47), (44, 0), (45, 0), (47, 0)] : List (Nat × Nat)) H0 t.heap) (gA G H0.size)) 0 0 (gA G H0.size) := by
  refine Met.ofW (cc := cX12_farm) (maxL := 4) (ret := (some .int)) (by decide) rfl ?_
  intro p e s m args below meth c s₁ B hml hv
  obtain ⟨rfl, hH0, hK, hE⟩ := hv
  have hx := B.exec
  have hb := B.bytes
  have hr := B.returns
  have hts := atoms_spec (ws := w_s_farm) B.pre
  have hown : s.vm.findClass RX12 = some m.cls := findClass_of_methodNamed B.named
  have hlocks := B.notSynchronized
  subst hH0
  generalize hAe : gA G s.heap.size = A at hE ⊢
  have hA : ∀ q : Nat, s.heap.size ≤ q → A q := fun q h => by rw [← hAe]; exact Or.inr h
  have hG := gA_of hAe
  have hS : va_S A s.heap s.heap [] := va_S.rf
  have hF : gF (dC, dI) SKm G ([(0, 0), (0, 47), (44, 0), (45, 0), (47, 0)] : List (Nat × Nat)) s.heap s.heap := gF.rf
  have hl := lv_entry ([.ref o0, .int p0, .int p1]) (n := 4) (Nat.le_of_ble_eq_true rfl)
  rw [lg_entry_eq]
  generalize (lg_sl ([.ref o0, .int p0, .int p1]) ++ List.replicate (4 - (lg_sl ([.ref o0, .int p0, .int p1])).length) Slot.unset).toArray = ls at hl ⊢
  have hl : lv_has ls 4 [(0, .ref o0), (1, .int p0), (2, .int p1)] := hl
  refine lv_aload_n hx hb dX12_farm_0 rfl (lv_at hl 0 rfl) ?_
  refine lv_iconst (v := 0) hx hb dX12_farm_1 (by decide) ?_
  refine tw_put (v := .int 0) (ty := .int) hx hb hts bF_X12 tyX12 tyX12_ok nmX12 hown hK hT hG hS hr_o0 shm_0 rfl 0 (by decide) (ht_at hts 0 rfl) (fun _ h9 => h9) rfl (by decide +kernel) rfl rfl (gl_at rfl (gi_all _)) dX12_farm_2 (fun H locs hT oq m1 oj hS => ?_)
  have hF := hF.put hr_o0 skm_0 oq oj (by decide)
  refine lv_aload_n hx hb dX12_farm_5 rfl (lv_at hl 0 rfl) ?_
  refine lv_iload_n hx hb dX12_farm_6 rfl (lv_at hl 1 rfl) ?_
  have hFc := gA_free hG hA hS
  refine va_calli (va_runS (As := [.int p0]) (rest := [.ref o0]) ⟨hx, hb, hml, hown, hts⟩ (s_noSquare l dC dI kA adK adV G H q wZ wN wH wB wC wL wK wU wV PI im PM PT lS lB lE lN p0 hT hgz hgn hgh hgb hgc hgi hgu) (va_cwS 1 hts (goodIn_app (goodIn_r _ [7, 8, 6] rfl (by decide +kernel)) (goodIn_ca (goodIn_r _ [2, 3, 4, 5, 6] rfl (by decide +kernel)) (bs_in _ _))) rfl rfl rfl (by decide +kernel) ⟨(Nat.le_of_ble_eq_true rfl), (Nat.le_of_ble_eq_true rfl)⟩) ⟨fun a U g mk q => by obtain ⟨q0, q1, qK, qE⟩ := q; exact ⟨q0, q1, va_K.moved (u := U) (U := U.calling g mk a) (Vm.Alike.refl U.vm) qK, EVS.blind g mk a qE⟩, fun U hU hW => ⟨rfl, hU, va_K.moved hW.alike hK, hE.call hS hFc hU hW⟩⟩ rfl rfl hl.1 rfl (lv_room (Nat.le_of_ble_eq_true rfl)) dX12_farm_7 ⟨(Nat.le_of_ble_eq_true rfl), (Nat.le_of_ble_eq_true rfl)⟩) hS (fun q _ h => hFc q h) hFc (fun r2 u t H locs ht hvm hw3 hB _ _ hS => ?_)
  obtain ⟨hT, hF1⟩ := hB
  rw [ht] at hT hF1
  have hF := hF.more hF1 (by decide)
  try dsimp only at hw3
  obtain ⟨h5, hi6⟩ := hw3
  refine lv_if_ne (tgt := 20) hx hb dX12_farm_10 (by decide) (fun c7 => ?_) (fun c7 => ?_)
  · have t8 : r2.toInt ≠ 0 := ti_ne c7 rfl (by decide)
    refine lv_iconst (v := 1) hx hb dX12_farm_20 (by decide) ?_
    refine lv_goto (tgt := 25) hx hb dX12_farm_21 (by decide) ?_
    refine lv_iconst (v := 1) hx hb dX12_farm_25 (by decide) ?_
    have hFc := gA_free hG hA hS
    refine va_calli (va_runV (As := [.int 1, .int 1]) (rest := []) ⟨hx, hb, hml, hown, hts⟩ (s_throwsIf l dC dI kA adK adV G H q wZ wN wH wB wC wL wK wU wV PI im PM PT lS lB lE lN o0 1 1 hT hr_o0 (rg_t (a := 1) (by decide) (by first | decide | omega) (by first | decide | omega)) hgz hgn hgh hgb hgc hgi hgu) (cwV 2 hts (goodIn_app (goodIn_r _ [10, 11, 12, 6] rfl (by decide +kernel)) (goodIn_ca (goodIn_r _ [9, 1] rfl (by decide +kernel)) (bs_in _ _))) rfl rfl rfl (by decide +kernel) ⟨(Nat.le_of_ble_eq_true rfl), (Nat.le_of_ble_eq_true rfl)⟩) ⟨fun a U g mk q => by obtain ⟨q0, q1, qK, qE⟩ := q; exact ⟨q0, q1, va_K.moved (u := U) (U := U.calling g mk a) (Vm.Alike.refl U.vm) qK, EVS.blind g mk a qE⟩, gH_rc hK hT hr_o0 shm_0 rfl, fun U hU hW => ⟨rfl, hU, va_K.moved hW.alike hK, hE.call hS hFc hU hW⟩⟩ rfl rfl hl.1 rfl (lv_room (Nat.le_of_ble_eq_true rfl)) dX12_farm_26 ⟨(Nat.le_of_ble_eq_true rfl), (Nat.le_of_ble_eq_true rfl)⟩) hS (fun q _ h => hFc q h) hFc (fun r9 u t H locs ht hvm hw10 hB _ _ hS => ?_)
    obtain ⟨hT, hF1⟩ := hB
    rw [ht] at hT hF1
    have hF := hF.more hF1 (by decide)
    try dsimp only at hw10
    obtain ⟨h12, hd13⟩ := hw10
    obtain rfl : (1 : Int32) = r9 := hd13.symm
    refine lv_if_ne (tgt := 41) hx hb dX12_farm_29 (by decide) (fun c14 => ?_) (fun c14 => absurd c14 (by decide))
    refine lv_aload_n hx hb dX12_farm_41 rfl (lv_at hl 0 rfl) ?_
    refine tw_get hx hb hts bF_X12 hown hK hT hr_o0 shm_0 rfl 0 (by decide) (ht_at hts 0 rfl) (fun _ h9 => h9) dX12_farm_42 (fun v9 m15 h9 => ?_)
    obtain ⟨x16, rfl, gx16, kx16⟩ := h9 _ rfl
    refine lv_if_eq (tgt := 52) hx hb dX12_farm_45 (by decide) (fun c17 => ?_) (fun c17 => ?_)
    · have t18 : x16.toInt = 0 := ti_eq c17 rfl (by decide)
      refine lv_iconst (v := (-1)) hx hb dX12_farm_52 (by decide) ?_
      exact W.iret (v := (-1)) hx hb hr (fun t ht hW => ⟨⟨(-1), (), rfl, (by exact (rg_t (a := (-1)) (by decide) (by first | decide | omega) (by first | decide | omega))), by (try dsimp only); rw [ht]; exact ⟨hT, hF⟩⟩, hS.F ht⟩) hS.2.2 dX12_farm_53
    · have t19 : x16.toInt ≠ 0 := ti_ne c17 rfl (by decide)
      refine lv_iconst (v := 0) hx hb dX12_farm_48 (by decide) ?_
      refine lv_goto (tgt := 53) hx hb dX12_farm_49 (by decide) ?_
      exact W.iret (v := 0) hx hb hr (fun t ht hW => ⟨⟨0, (), rfl, (by exact (rg_t (a := 0) (by decide) (by first | decide | omega) (by first | decide | omega))), by (try dsimp only); rw [ht]; exact ⟨hT, hF⟩⟩, hS.F ht⟩) hS.2.2 dX12_farm_53
  · have t20 : r2.toInt = 0 := ti_eq c7 rfl (by decide)
    have t21 : 0 ≤ p0.toInt ∧ p0.toInt ≤ 95 := hi6 c7
    refine lv_iload_n hx hb dX12_farm_13 rfl (lv_at hl 2 rfl) ?_
    have hFc := gA_free hG hA hS
    refine va_calli (va_runS (As := [.int p1]) (rest := [.ref o0]) ⟨hx, hb, hml, hown, hts⟩ (s_noSquare l dC dI kA adK adV G H q wZ wN wH wB wC wL wK wU wV PI im PM PT lS lB lE lN p1 hT hgz hgn hgh hgb hgc hgi hgu) (va_cwS 1 hts (goodIn_app (goodIn_r _ [7, 8, 6] rfl (by decide +kernel)) (goodIn_ca (goodIn_r _ [2, 3, 4, 5, 6] rfl (by decide +kernel)) (bs_in _ _))) rfl rfl rfl (by decide +kernel) ⟨(Nat.le_of_ble_eq_true rfl), (Nat.le_of_ble_eq_true rfl)⟩) ⟨fun a U g mk q => by obtain ⟨q0, q1, qK, qE⟩ := q; exact ⟨q0, q1, va_K.moved (u := U) (U := U.calling g mk a) (Vm.Alike.refl U.vm) qK, EVS.blind g mk a qE⟩, fun U hU hW => ⟨rfl, hU, va_K.moved hW.alike hK, hE.call hS hFc hU hW⟩⟩ rfl rfl hl.1 rfl (lv_room (Nat.le_of_ble_eq_true rfl)) dX12_farm_14 ⟨(Nat.le_of_ble_eq_true rfl), (Nat.le_of_ble_eq_true rfl)⟩) hS (fun q _ h => hFc q h) hFc (fun r22 u t H locs ht hvm hw23 hB _ _ hS => ?_)
    obtain ⟨hT, hF1⟩ := hB
    rw [ht] at hT hF1
    have hF := hF.more hF1 (by decide)
    try dsimp only at hw23
    obtain ⟨h25, hi26⟩ := hw23
    refine lv_if_eq (tgt := 24) hx hb dX12_farm_17 (by decide) (fun c27 => ?_) (fun c27 => ?_)
    · have t28 : r22.toInt = 0 := ti_eq c27 rfl (by decide)
      have t29 : 0 ≤ p1.toInt ∧ p1.toInt ≤ 95 := hi26 c27
      refine lv_iconst (v := 0) hx hb dX12_farm_24 (by decide) ?_
      refine lv_iconst (v := 1) hx hb dX12_farm_25 (by decide) ?_
      have hFc := gA_free hG hA hS
      refine va_calli (va_runV (As := [.int 0, .int 1]) (rest := []) ⟨hx, hb, hml, hown, hts⟩ (s_throwsIf l dC dI kA adK adV G H q wZ wN wH wB wC wL wK wU wV PI im PM PT lS lB lE lN o0 0 1 hT hr_o0 (rg_t (a := 0) (by decide) (by first | decide | omega) (by first | decide | omega)) hgz hgn hgh hgb hgc hgi hgu) (cwV 2 hts (goodIn_app (goodIn_r _ [10, 11, 12, 6] rfl (by decide +kernel)) (goodIn_ca (goodIn_r _ [9, 1] rfl (by decide +kernel)) (bs_in _ _))) rfl rfl rfl (by decide +kernel) ⟨(Nat.le_of_ble_eq_true rfl), (Nat.le_of_ble_eq_true rfl)⟩) ⟨fun a U g mk q => by obtain ⟨q0, q1, qK, qE⟩ := q; exact ⟨q0, q1, va_K.moved (u := U) (U := U.calling g mk a) (Vm.Alike.refl U.vm) qK, EVS.blind g mk a qE⟩, gH_rc hK hT hr_o0 shm_0 rfl, fun U hU hW => ⟨rfl, hU, va_K.moved hW.alike hK, hE.call hS hFc hU hW⟩⟩ rfl rfl hl.1 rfl (lv_room (Nat.le_of_ble_eq_true rfl)) dX12_farm_26 ⟨(Nat.le_of_ble_eq_true rfl), (Nat.le_of_ble_eq_true rfl)⟩) hS (fun q _ h => hFc q h) hFc (fun r30 u t H locs ht hvm hw31 hB _ _ hS => ?_)
      obtain ⟨hT, hF1⟩ := hB
      rw [ht] at hT hF1
      have hF := hF.more hF1 (by decide)
      try dsimp only at hw31
      obtain ⟨h33, hd34⟩ := hw31
      obtain rfl : (0 : Int32) = r30 := hd34.symm
      refine lv_if_ne (tgt := 41) hx hb dX12_farm_29 (by decide) (fun c35 => absurd c35 (by decide)) (fun c35 => ?_)
      refine lv_aload_n hx hb dX12_farm_32 rfl (lv_at hl 0 rfl) ?_
      refine tw_get hx hb hts bF_X12 hown hK hT hr_o0 shm_0 rfl 47 (by decide) (ht_at hts 12 rfl) (fun _ h9 => h9) dX12_farm_33 (fun v9 m36 h9 => ?_)
      obtain ⟨x37, rfl, gx37, kx37⟩ := h9 _ rfl
      refine lv_bipush (v := 30) hx hb dX12_farm_36 (by decide) ?_
      refine lv_icmp_ne (tgt := 54) hx hb dX12_farm_38 (by decide) (fun c38 => ?_) (fun c38 => ?_)
      · have t39 : x37.toInt ≠ 30 := ti_ne c38 rfl (by decide)
        refine lv_iconst (v := 0) hx hb dX12_farm_54 (by decide) ?_
        refine lv_istore_n (lv' := [(3, .int 0), (0, .ref o0), (1, .int p0), (2, .int p1)]) hx hb dX12_farm_55 rfl hl (by decide) rfl (fun ls hl => ?_)
        have key69 : ∀ (n69 i40 : Nat), i40 + n69 = 96 → 0 ≤ i40 → ∀ (H : Heap) (locs : List Loc), gH (dC, dI) kA (SHm q (wP wZ wN wH wB wC wL wK wU wV) PI im PM PT lS lB lE lN) G H → gF (dC, dI) SKm G ([(0, 0), (0, 47), (44, 0), (45, 0), (47, 0)] : List (Nat × Nat)) s.heap H → va_S A s.heap H locs → el H o0 (dI 15 47) = some (.int x37) → ∀ ls : Array Slot, lv_has ls 4 [(3, .int (nI i40)), (0, .ref o0), (1, .int p0), (2, .int p1)] → W p l e (headSpec w_s_farm ({ frames := 3, cells := 0, slots := 0, locals := 86 })).room s m #[.ref o0, .int p0, .int p1] below meth c H locs 0 0 (MQ below (va_Qi (fun (r : Int32) (u : Unit) => (-1 ≤ r.toInt ∧ r.toInt ≤ 29)) (fun (_ : Unit) (t : State) => gH (dC, dI) kA (SHm q (wP wZ wN wH wB wC wL wK wU wV) PI im PM PT lS lB lE lN) G t.heap ∧ gF (dC, dI) SKm G ([(0, 0), (0, 47), (44, 0), (45, 0), (47, 0)] : List (Nat × Nat)) s.heap t.heap) A) #[.ref o0, .int p0, .int p1] s 0 0 A) (F0 m 56 ls []) := by
          intro n69
          induction n69 with
          | zero =>
            intro i40 hn69 hlo70  H locs hT hF hS m41 ls hl
            obtain rfl : 96 = i40 := by omega
            refine lv_iload_n hx hb dX12_farm_56 rfl (lv_at hl 0 rfl) ?_
            refine lv_bipush (v := 96) hx hb dX12_farm_57 (by decide) ?_
            refine lv_icmp_ge (tgt := 95) hx hb dX12_farm_59 (by decide) (fun c71 => ?_) (fun c71 => (by exfalso; have q9 : ((96 : Nat) : Int) < 96 := ti_nle c71 (by decide) (nI_toInt (by omega)); omega))
            have t72 : 96 ≤ ((96 : Nat) : Int) := ti_le c71 (by decide) (nI_toInt (by omega))
            refine lv_aload_n hx hb dX12_farm_95 rfl (lv_at hl 1 rfl) ?_
            refine tw_get hx hb hts bF_X12 hown hK hT hr_o0 shm_0 rfl 43 (by decide) (ht_at hts 13 rfl) (fun _ h9 => h9) dX12_farm_96 (fun v9 m73 h9 => ?_)
            obtain ⟨rfl, hg74⟩ := h9 _ rfl
            refine lv_aload_n hx hb dX12_farm_99 rfl (lv_at hl 1 rfl) ?_
            refine tw_getM (v := .int x37) hx hb hts bF_X12 hown hK hT hr_o0 shm_0 rfl 47 (by decide) (ht_at hts 12 rfl) (fun _ h9 => h9) m41 dX12_farm_100 ?_
            refine lv_iload_n hx hb dX12_farm_103 rfl (lv_at hl 2 rfl) ?_
            refine tw_iast (i := x37) (x := p0) hx hb hK hT hG hS hg74 shm_44 rfl (vin_t (a := x37.toInt) rfl (by omega) (by omega)) (gi_all _) dX12_farm_104 (fun H locs hT oq m75 oi hS => ?_)
            have hF := hF.ast hg74 skm_44 oq (by decide)
            have m76 := (el_kept (oq _ (gne hr_o0 hg74 (by decide)))).trans m41
            refine lv_aload_n hx hb dX12_farm_105 rfl (lv_at hl 1 rfl) ?_
            refine tw_get hx hb hts bF_X12 hown hK hT hr_o0 shm_0 rfl 44 (by decide) (ht_at hts 14 rfl) (fun _ h9 => h9) dX12_farm_106 (fun v9 m77 h9 => ?_)
            obtain ⟨rfl, hg78⟩ := h9 _ rfl
            refine lv_aload_n hx hb dX12_farm_109 rfl (lv_at hl 1 rfl) ?_
            refine tw_getM (v := .int x37) hx hb hts bF_X12 hown hK hT hr_o0 shm_0 rfl 47 (by decide) (ht_at hts 12 rfl) (fun _ h9 => h9) m76 dX12_farm_110 ?_
            refine lv_iload_n hx hb dX12_farm_113 rfl (lv_at hl 3 rfl) ?_
            refine tw_iast (i := x37) (x := p1) hx hb hK hT hG hS hg78 shm_45 rfl (vin_t (a := x37.toInt) rfl (by omega) (by omega)) (gi_all _) dX12_farm_114 (fun H locs hT oq m79 oi hS => ?_)
            have hF := hF.ast hg78 skm_45 oq (by decide)
            have m80 := (el_kept (oq _ (gne hr_o0 hg78 (by decide)))).trans m76
            refine lv_aload_n hx hb dX12_farm_115 rfl (lv_at hl 1 rfl) ?_
            refine tw_get hx hb hts bF_X12 hown hK hT hr_o0 shm_0 rfl 46 (by decide) (ht_at hts 15 rfl) (fun _ h9 => h9) dX12_farm_116 (fun v9 m82 h9 => ?_)
            obtain ⟨rfl, hg83⟩ := h9 _ rfl
            refine lv_aload_n hx hb dX12_farm_119 rfl (lv_at hl 1 rfl) ?_
            refine tw_getM (v := .int x37) hx hb hts bF_X12 hown hK hT hr_o0 shm_0 rfl 47 (by decide) (ht_at hts 12 rfl) (fun _ h9 => h9) m80 dX12_farm_120 ?_
            refine lv_iconst (v := (-1)) hx hb dX12_farm_123 (by decide) ?_
            refine tw_iast (i := x37) (x := (-1)) hx hb hK hT hG hS hg83 shm_47 rfl (vin_t (a := x37.toInt) rfl (by omega) (by omega)) (gi_of (show (-1 : Int32).toInt = (-1) from (by decide)) (by first | decide | omega) (by first | decide | omega)) dX12_farm_124 (fun H locs hT oq m84 oi hS => ?_)
            have hF := hF.ast hg83 skm_47 oq (by decide)
            have m85 := (el_kept (oq _ (gne hr_o0 hg83 (by decide)))).trans m80
            refine lv_aload_n hx hb dX12_farm_125 rfl (lv_at hl 1 rfl) ?_
            refine lv_dup hx hb dX12_farm_126 rfl ?_
            refine tw_getM (v := .int x37) hx hb hts bF_X12 hown hK hT hr_o0 shm_0 rfl 47 (by decide) (ht_at hts 12 rfl) (fun _ h9 => h9) m85 dX12_farm_127 ?_
            refine lv_iconst (v := 1) hx hb dX12_farm_130 (by decide) ?_
            refine lv_iadd hx hb dX12_farm_131 ?_
            refine lv_topi (fun x88 ex88 => ?_)
            have t89 : x88.toInt = x37.toInt + 1 := ti_add ex88 rfl (by decide) (by omega) (by omega)
            refine tw_put (v := .int x88) (ty := .int) hx hb hts bF_X12 tyX12 tyX12_ok nmX12 hown hK hT hG hS hr_o0 shm_0 rfl 47 (by decide) (ht_at hts 12 rfl) (fun _ h9 => h9) rfl (by decide +kernel) rfl rfl (gl_at rfl (gi_of (show x88.toInt = x88.toInt from rfl) (by omega) (by omega))) dX12_farm_132 (fun H locs hT oq m90 oj hS => ?_)
            have hF := hF.put hr_o0 skm_0 oq oj (by decide)
            refine lv_aload_n hx hb dX12_farm_135 rfl (lv_at hl 1 rfl) ?_
            refine tw_getM (v := .int x88) hx hb hts bF_X12 hown hK hT hr_o0 shm_0 rfl 47 (by decide) (ht_at hts 12 rfl) (fun _ h9 => h9) m90 dX12_farm_136 ?_
            refine lv_iconst (v := 1) hx hb dX12_farm_139 (by decide) ?_
            refine lv_isub hx hb dX12_farm_140 ?_
            refine lv_topi (fun x94 ex94 => ?_)
            have t95 : x94.toInt = x88.toInt - 1 := ti_sub ex94 rfl (by decide) (by omega) (by omega)
            exact W.iret (v := x94) hx hb hr (fun t ht hW => ⟨⟨x94, (), rfl, (by exact (by have q8 := ti_all x94; omega)), by (try dsimp only); rw [ht]; exact ⟨hT, hF⟩⟩, hS.F ht⟩) hS.2.2 dX12_farm_141
          | succ n69 ih69 =>
            intro i40 hn69 hlo70  H locs hT hF hS m41 ls hl
            have hlt95 : i40 < 96 := by omega
            refine lv_iload_n hx hb dX12_farm_56 rfl (lv_at hl 0 rfl) ?_
            refine lv_bipush (v := 96) hx hb dX12_farm_57 (by decide) ?_
            refine lv_icmp_ge (tgt := 95) hx hb dX12_farm_59 (by decide) (fun c96 => (by exfalso; have q9 : 96 ≤ ((i40 : Nat) : Int) := ti_le c96 (by decide) (nI_toInt (by omega)); omega)) (fun c96 => ?_)
            have t97 : ((i40 : Nat) : Int) < 96 := ti_nle c96 (by decide) (nI_toInt (by omega))
            refine lv_iload_n hx hb dX12_farm_62 rfl (lv_at hl 0 rfl) ?_
            refine lv_iload_n hx hb dX12_farm_63 rfl (lv_at hl 2 rfl) ?_
            refine lv_iload_n hx hb dX12_farm_64 rfl (lv_at hl 3 rfl) ?_
            have hFc := gA_free hG hA hS
            refine va_calli (va_runS (As := [.int (nI i40), .int p0, .int p1]) (rest := []) ⟨hx, hb, hml, hown, hts⟩ (s_isIn l dC dI kA adK adV G H q wZ wN wH wB wC wL wK wU wV PI im PM PT lS lB lE lN (nI i40) p0 p1 hT hgz hgn hgh hgb hgc hgi hgu) (va_cwS 3 hts (goodIn_app (goodIn_r _ [25, 26, 6] rfl (by decide +kernel)) (goodIn_ca (goodIn_r _ [17, 18, 19, 20, 21, 22, 23, 24, 3, 4, 5, 6] rfl (by decide +kernel)) (bs_in _ _))) rfl rfl rfl (by decide +kernel) ⟨(Nat.le_of_ble_eq_true rfl), (Nat.le_of_ble_eq_true rfl)⟩) ⟨fun a U g mk q => by obtain ⟨q0, q1, qK, qE⟩ := q; exact ⟨q0, q1, va_K.moved (u := U) (U := U.calling g mk a) (Vm.Alike.refl U.vm) qK, EVS.blind g mk a qE⟩, fun U hU hW => ⟨rfl, hU, va_K.moved hW.alike hK, hE.call hS hFc hU hW⟩⟩ rfl rfl hl.1 rfl (lv_room (Nat.le_of_ble_eq_true rfl)) dX12_farm_65 ⟨(Nat.le_of_ble_eq_true rfl), (Nat.le_of_ble_eq_true rfl)⟩) hS (fun q _ h => hFc q h) hFc (fun r98 u t H locs ht hvm hw99 hB _ _ hS => ?_)
            obtain ⟨hT, hF1⟩ := hB
            rw [ht] at hT hF1
            have m100 := (hF1.fld hr_o0 skm_0 (k := 47) (by decide) (by decide)).trans m41
            have hF := hF.more hF1 (by decide)
            try dsimp only at hw99
            have h101 := hw99
            refine lv_if_eq (tgt := 89) hx hb dX12_farm_68 (by decide) (fun c102 => ?_) (fun c102 => ?_)
            · have t103 : r98.toInt = 0 := ti_eq c102 rfl (by decide)
              refine lv_iinc (v := nI (i40 + 1)) (lv' := [(3, .int (nI (i40 + 1))), (0, .ref o0), (1, .int p0), (2, .int p1)]) hx hb dX12_farm_89 hl (k := 0) rfl (nI_add i40 1) (by decide) rfl (fun ls hl => ?_)
              refine lv_goto (tgt := 56) hx hb dX12_farm_92 (by decide) ?_
              exact ih69 (i40 + 1) (by omega) (by omega) _ _ hT hF hS m100 ls (lv_sub hl [0, 1, 2, 3] rfl)
            · have t104 : r98.toInt ≠ 0 := ti_ne c102 rfl (by decide)
              refine lv_aload_n hx hb dX12_farm_71 rfl (lv_at hl 1 rfl) ?_
              refine lv_iload_n hx hb dX12_farm_72 rfl (lv_at hl 0 rfl) ?_
              have hFc := gA_free hG hA hS
              refine va_calli (va_runV (As := [.int (nI i40)]) (rest := []) ⟨hx, hb, hml, hown, hts⟩ (s_isLand l dC dI kA adK adV G H q wZ wN wH wB wC wL wK wU wV PI im PM PT lS lB lE lN o0 (nI i40) hT hr_o0 (rg_t (a := ((i40 : Nat) : Int)) (nI_toInt (by omega)) (by omega) (by omega)) hgz hgn hgh hgb hgc hgi hgu) (cwV 1 hts (goodIn_app (goodIn_r _ [29, 30, 31, 6] rfl (by decide +kernel)) (goodIn_ca (goodIn_r _ [27, 28] rfl (by decide +kernel)) (bs_in _ _))) rfl rfl rfl (by decide +kernel) ⟨(Nat.le_of_ble_eq_true rfl), (Nat.le_of_ble_eq_true rfl)⟩) ⟨fun a U g mk q => by obtain ⟨q0, q1, qK, qE⟩ := q; exact ⟨q0, q1, va_K.moved (u := U) (U := U.calling g mk a) (Vm.Alike.refl U.vm) qK, EVS.blind g mk a qE⟩, gH_rc hK hT hr_o0 shm_0 rfl, fun U hU hW => ⟨rfl, hU, va_K.moved hW.alike hK, hE.call hS hFc hU hW⟩⟩ rfl rfl hl.1 rfl (lv_room (Nat.le_of_ble_eq_true rfl)) dX12_farm_73 ⟨(Nat.le_of_ble_eq_true rfl), (Nat.le_of_ble_eq_true rfl)⟩) hS (fun q _ h => hFc q h) hFc (fun r105 u t H locs ht hvm hw106 hB _ _ hS => ?_)
              obtain ⟨hT, hF1⟩ := hB
              rw [ht] at hT hF1
              have m107 := (hF1.fld hr_o0 skm_0 (k := 47) (by decide) (by decide)).trans m100
              have hF := hF.more hF1 (by decide)
              try dsimp only at hw106
              obtain ⟨h108, hi109, hi110⟩ := hw106
              refine lv_if_eq (tgt := 87) hx hb dX12_farm_76 (by decide) (fun c111 => ?_) (fun c111 => ?_)
              · have t112 : r105.toInt = 0 := ti_eq c111 rfl (by decide)
                have t113 : ¬ wL (nI i40).toNatClampNeg := hi110 c111
                refine lv_iconst (v := (-1)) hx hb dX12_farm_87 (by decide) ?_
                exact W.iret (v := (-1)) hx hb hr (fun t ht hW => ⟨⟨(-1), (), rfl, (by exact (rg_t (a := (-1)) (by decide) (by first | decide | omega) (by first | decide | omega))), by (try dsimp only); rw [ht]; exact ⟨hT, hF⟩⟩, hS.F ht⟩) hS.2.2 dX12_farm_88
              · have t114 : r105.toInt ≠ 0 := ti_ne c111 rfl (by decide)
                have t115 : wL (nI i40).toNatClampNeg := hi109 ((bit_of ⟨by omega, by omega⟩).resolve_left c111)
                refine lv_aload_n hx hb dX12_farm_79 rfl (lv_at hl 1 rfl) ?_
                refine lv_iload_n hx hb dX12_farm_80 rfl (lv_at hl 0 rfl) ?_
                have hFc := gA_free hG hA hS
                refine va_calli (va_runV (As := [.int (nI i40)]) (rest := []) ⟨hx, hb, hml, hown, hts⟩ (s_farmOf l dC dI kA adK adV G H q wZ wN wH wB wC wL wK wU wV PI im PM PT lS lB lE lN o0 (nI i40) hT hr_o0 hgz hgn hgh hgb hgc hgi hgu) (cwV 1 hts (goodIn_app (goodIn_r _ [33, 34, 35, 6] rfl (by decide +kernel)) (goodIn_ca (goodIn_r _ [32, 13, 14, 15, 17, 18, 19, 20, 21, 22, 23, 24, 3, 4, 5, 6, 25, 26] rfl (by decide +kernel)) (bs_in _ _))) rfl rfl rfl (by decide +kernel) ⟨(Nat.le_of_ble_eq_true rfl), (Nat.le_of_ble_eq_true rfl)⟩) ⟨fun a U g mk q => by obtain ⟨q0, q1, qK, qE⟩ := q; exact ⟨q0, q1, va_K.moved (u := U) (U := U.calling g mk a) (Vm.Alike.refl U.vm) qK, EVS.blind g mk a qE⟩, gH_rc hK hT hr_o0 shm_0 rfl, fun U hU hW => ⟨rfl, hU, va_K.moved hW.alike hK, hE.call hS hFc hU hW⟩⟩ rfl rfl hl.1 rfl (lv_room (Nat.le_of_ble_eq_true rfl)) dX12_farm_81 ⟨(Nat.le_of_ble_eq_true rfl), (Nat.le_of_ble_eq_true rfl)⟩) hS (fun q _ h => hFc q h) hFc (fun r116 u t H locs ht hvm hw117 hB _ _ hS => ?_)
                obtain ⟨hT, hF1⟩ := hB
                rw [ht] at hT hF1
                have m118 := (hF1.fld hr_o0 skm_0 (k := 47) (by decide) (by decide)).trans m107
                have hF := hF.more hF1 (by decide)
                try dsimp only at hw117
                have h119 := hw117
                refine lv_if_lt (tgt := 89) hx hb dX12_farm_84 (by decide) (fun c120 => ?_) (fun c120 => ?_)
                · have t121 : r116.toInt < 0 := ti_lt c120 rfl (by decide)
                  refine lv_iinc (v := nI (i40 + 1)) (lv' := [(3, .int (nI (i40 + 1))), (0, .ref o0), (1, .int p0), (2, .int p1)]) hx hb dX12_farm_89 hl (k := 0) rfl (nI_add i40 1) (by decide) rfl (fun ls hl => ?_)
                  refine lv_goto (tgt := 56) hx hb dX12_farm_92 (by decide) ?_
                  exact ih69 (i40 + 1) (by omega) (by omega) _ _ hT hF hS m118 ls (lv_sub hl [0, 1, 2, 3] rfl)
                · have t122 : 0 ≤ r116.toInt := ti_nlt c120 rfl (by decide)
                  refine lv_iconst (v := (-1)) hx hb dX12_farm_87 (by decide) ?_
                  exact W.iret (v := (-1)) hx hb hr (fun t ht hW => ⟨⟨(-1), (), rfl, (by exact (rg_t (a := (-1)) (by decide) (by first | decide | omega) (by first | decide | omega))), by (try dsimp only); rw [ht]; exact ⟨hT, hF⟩⟩, hS.F ht⟩) hS.2.2 dX12_farm_88
        exact key69 (96 - 0) 0 (by omega) (Nat.le_refl _) _ _ hT hF hS m36 ls (lv_sub hl [0, 1, 2, 3] rfl)
      · have t123 : x37.toInt = 30 := ti_eq c38 rfl (by decide)
        refine lv_aload_n hx hb dX12_farm_41 rfl (lv_at hl 0 rfl) ?_
        refine tw_get hx hb hts bF_X12 hown hK hT hr_o0 shm_0 rfl 0 (by decide) (ht_at hts 0 rfl) (fun _ h9 => h9) dX12_farm_42 (fun v9 m124 h9 => ?_)
        obtain ⟨x125, rfl, gx125, kx125⟩ := h9 _ rfl
        refine lv_if_eq (tgt := 52) hx hb dX12_farm_45 (by decide) (fun c126 => ?_) (fun c126 => ?_)
        · have t127 : x125.toInt = 0 := ti_eq c126 rfl (by decide)
          refine lv_iconst (v := (-1)) hx hb dX12_farm_52 (by decide) ?_
          exact W.iret (v := (-1)) hx hb hr (fun t ht hW => ⟨⟨(-1), (), rfl, (by exact (rg_t (a := (-1)) (by decide) (by first | decide | omega) (by first | decide | omega))), by (try dsimp only); rw [ht]; exact ⟨hT, hF⟩⟩, hS.F ht⟩) hS.2.2 dX12_farm_53
        · have t128 : x125.toInt ≠ 0 := ti_ne c126 rfl (by decide)
          refine lv_iconst (v := 0) hx hb dX12_farm_48 (by decide) ?_
          refine lv_goto (tgt := 53) hx hb dX12_farm_49 (by decide) ?_
          exact W.iret (v := 0) hx hb hr (fun t ht hW => ⟨⟨0, (), rfl, (by exact (rg_t (a := 0) (by decide) (by first | decide | omega) (by first | decide | omega))), by (try dsimp only); rw [ht]; exact ⟨hT, hF⟩⟩, hS.F ht⟩) hS.2.2 dX12_farm_53
    · have t129 : r22.toInt ≠ 0 := ti_ne c27 rfl (by decide)
      refine lv_iconst (v := 1) hx hb dX12_farm_20 (by decide) ?_
      refine lv_goto (tgt := 25) hx hb dX12_farm_21 (by decide) ?_
      refine lv_iconst (v := 1) hx hb dX12_farm_25 (by decide) ?_
      have hFc := gA_free hG hA hS
      refine va_calli (va_runV (As := [.int 1, .int 1]) (rest := []) ⟨hx, hb, hml, hown, hts⟩ (s_throwsIf l dC dI kA adK adV G H q wZ wN wH wB wC wL wK wU wV PI im PM PT lS lB lE lN o0 1 1 hT hr_o0 (rg_t (a := 1) (by decide) (by first | decide | omega) (by first | decide | omega)) hgz hgn hgh hgb hgc hgi hgu) (cwV 2 hts (goodIn_app (goodIn_r _ [10, 11, 12, 6] rfl (by decide +kernel)) (goodIn_ca (goodIn_r _ [9, 1] rfl (by decide +kernel)) (bs_in _ _))) rfl rfl rfl (by decide +kernel) ⟨(Nat.le_of_ble_eq_true rfl), (Nat.le_of_ble_eq_true rfl)⟩) ⟨fun a U g mk q => by obtain ⟨q0, q1, qK, qE⟩ := q; exact ⟨q0, q1, va_K.moved (u := U) (U := U.calling g mk a) (Vm.Alike.refl U.vm) qK, EVS.blind g mk a qE⟩, gH_rc hK hT hr_o0 shm_0 rfl, fun U hU hW => ⟨rfl, hU, va_K.moved hW.alike hK, hE.call hS hFc hU hW⟩⟩ rfl rfl hl.1 rfl (lv_room (Nat.le_of_ble_eq_true rfl)) dX12_farm_26 ⟨(Nat.le_of_ble_eq_true rfl), (Nat.le_of_ble_eq_true rfl)⟩) hS (fun q _ h => hFc q h) hFc (fun r130 u t H locs ht hvm hw131 hB _ _ hS => ?_)
      obtain ⟨hT, hF1⟩ := hB
      rw [ht] at hT hF1
      have hF := hF.more hF1 (by decide)
      try dsimp only at hw131
      obtain ⟨h133, hd134⟩ := hw131
      obtain rfl : (1 : Int32) = r130 := hd134.symm
      refine lv_if_ne (tgt := 41) hx hb dX12_farm_29 (by decide) (fun c135 => ?_) (fun c135 => absurd c135 (by decide))
      refine lv_aload_n hx hb dX12_farm_41 rfl (lv_at hl 0 rfl) ?_
      refine tw_get hx hb hts bF_X12 hown hK hT hr_o0 shm_0 rfl 0 (by decide) (ht_at hts 0 rfl) (fun _ h9 => h9) dX12_farm_42 (fun v9 m136 h9 => ?_)
      obtain ⟨x137, rfl, gx137, kx137⟩ := h9 _ rfl
      refine lv_if_eq (tgt := 52) hx hb dX12_farm_45 (by decide) (fun c138 => ?_) (fun c138 => ?_)
      · have t139 : x137.toInt = 0 := ti_eq c138 rfl (by decide)
        refine lv_iconst (v := (-1)) hx hb dX12_farm_52 (by decide) ?_
        exact W.iret (v := (-1)) hx hb hr (fun t ht hW => ⟨⟨(-1), (), rfl, (by exact (rg_t (a := (-1)) (by decide) (by first | decide | omega) (by first | decide | omega))), by (try dsimp only); rw [ht]; exact ⟨hT, hF⟩⟩, hS.F ht⟩) hS.2.2 dX12_farm_53
      · have t140 : x137.toInt ≠ 0 := ti_ne c138 rfl (by decide)
        refine lv_iconst (v := 0) hx hb dX12_farm_48 (by decide) ?_
        refine lv_goto (tgt := 53) hx hb dX12_farm_49 (by decide) ?_
        exact W.iret (v := 0) hx hb hr (fun t ht hW => ⟨⟨0, (), rfl, (by exact (rg_t (a := 0) (by decide) (by first | decide | omega) (by first | decide | omega))), by (try dsimp only); rw [ht]; exact ⟨hT, hF⟩⟩, hS.F ht⟩) hS.2.2 dX12_farm_53
def w_s_come : List Cond := .code yX12_come cX12_come 2 (some .boolean) :: (HAppend.hAppend (α := List Cond) (β := List Cond) (γ := List Cond) [.fieldLink RX12 194 "SeaLandModel" "thrown" "I", .code yX12_nobody cX12_nobody 2 (some .boolean), .fieldLink RX12 495 "SeaLandModel" "settlers" "I", .code yX12_in cX12_in 3 (some .boolean), .methodLink RX12 197 yX12_in, .static yX12_in, .initialized RX12, .methodLink RX12 486 yX12_nobody, .instanceMethod yX12_nobody, .selects RX12 yX12_nobody yX12_nobody, .code yX12_throwsIf cX12_throwsIf 3 (some .boolean), .methodLink RX12 224 yX12_throwsIf, .instanceMethod yX12_throwsIf, .selects RX12 yX12_throwsIf yX12_throwsIf, .fieldLink RX12 101 "SeaLandModel" "holds" "[I", .fieldLink RX12 110 "SeaLandModel" "came" "[Z"] bs)
set_option maxHeartbeats 4000000 in
set_option maxRecDepth 100000 in
theorem s_come (l : Launch) (dC : Nat → ClassId) (dI : Nat → Nat → Nat) (kA : Nat → ClassId) (adK adV : Nat → Nat) (G : gT) (H0 : Heap) (q : Nat → Nat) (wZ wN : Nat → Int) (wH wB wC : Int) (wL wK : Nat → Prop) (wU wV : Nat → Nat) (PI : Nat → Int → Prop) (im : Int) (PM PT : Nat → Int → Prop) (lS lB lE : Nat → Nat → Int → Prop) (lN : Nat → Int) (o0 : Nat) (p0 : Int32)  (hT : gH (dC, dI) kA (SHm q (wP wZ wN wH wB wC wL wK wU wV) PI im PM PT lS lB lE lN) G H0) (hr_o0 : G o0 = some 0) (hgz : ∀ i, 0 ≤ wZ i) (hgn : ∀ i, 6500000 ≤ wN i ∧ wN i ≤ 20200000) (hgh : 0 ≤ wH ∧ wH ≤ 40000) (hgb : 0 ≤ wB ∧ wB ≤ 3850000) (hgc : 0 ≤ wC ∧ wC ≤ 30) (hgi : 0 ≤ im ∧ im ≤ 1) (hgu : ∀ a t, G a = some (t + 1) → a = q t) : Met l yX12_come w_s_come ({ frames := 2, cells := 0, slots := 0, locals := 43 }) (va_Pc [.ref o0, .int p0] (fun U => U.heap = H0 ∧ va_K (dC, dI) vwCl (tyl kA) U ∧ EVS adK adV (gA G H0.size) U U.heap)) (va_Qi (fun (r : Int32) (u : Unit) => (0 ≤ r.toInt ∧ r.toInt ≤ 1)) (fun (_ : Unit) (t : State) => gH (dC, dI) kA (SHm q (wP wZ wN wH wB wC wL wK wU wV) PI im PM PT lS lB lE lN) G t.heap ∧ gF (dC, dI) SKm G ([(0, 0), (42, 0)] : List (Nat × Nat)) H0 t.heap) (gA G H0.size)) 0 0 (gA G H0.size) := by
  refine Met.ofW (cc := cX12_come) (maxL := 2) (ret := (some .boolean)) (by decide) rfl ?_
  intro p e s m args below meth c s₁ B hml hv
  obtain ⟨rfl, hH0, hK, hE⟩ := hv
  have hx := B.exec
  have hb := B.bytes
  have hr := B.returns
  have hts := atoms_spec (ws := w_s_come) B.pre
  have hown : s.vm.findClass RX12 = some m.cls := findClass_of_methodNamed B.named
  have hlocks := B.notSynchronized
  subst hH0
  generalize hAe : gA G s.heap.size = A at hE ⊢
  have hA : ∀ q : Nat, s.heap.size ≤ q → A q := fun q h => by rw [← hAe]; exact Or.inr h
  have hG := gA_of hAe
  have hS : va_S A s.heap s.heap [] := va_S.rf
  have hF : gF (dC, dI) SKm G ([(0, 0), (42, 0)] : List (Nat × Nat)) s.heap s.heap := gF.rf
  have hl := lv_entry ([.ref o0, .int p0]) (n := 2) (Nat.le_of_ble_eq_true rfl)
  rw [lg_entry_eq]
  generalize (lg_sl ([.ref o0, .int p0]) ++ List.replicate (2 - (lg_sl ([.ref o0, .int p0])).length) Slot.unset).toArray = ls at hl ⊢
  have hl : lv_has ls 2 [(0, .ref o0), (1, .int p0)] := hl
  refine lv_aload_n hx hb dX12_come_0 rfl (lv_at hl 0 rfl) ?_
  refine lv_iconst (v := 0) hx hb dX12_come_1 (by decide) ?_
  refine tw_put (v := .int 0) (ty := .int) hx hb hts bF_X12 tyX12 tyX12_ok nmX12 hown hK hT hG hS hr_o0 shm_0 rfl 0 (by decide) (ht_at hts 0 rfl) (fun _ h9 => h9) rfl (by decide +kernel) rfl rfl (gl_at rfl (gi_all _)) dX12_come_2 (fun H locs hT oq m1 oj hS => ?_)
  have hF := hF.put hr_o0 skm_0 oq oj (by decide)
  refine lv_aload_n hx hb dX12_come_5 rfl (lv_at hl 0 rfl) ?_
  refine lv_aload_n hx hb dX12_come_6 rfl (lv_at hl 0 rfl) ?_
  refine lv_iload_n hx hb dX12_come_7 rfl (lv_at hl 1 rfl) ?_
  have hFc := gA_free hG hA hS
  refine va_calli (va_runV (As := [.int p0]) (rest := [.ref o0]) ⟨hx, hb, hml, hown, hts⟩ (s_nobody l dC dI kA adK adV G H q wZ wN wH wB wC wL wK wU wV PI im PM PT lS lB lE lN o0 p0 hT hr_o0 hgz hgn hgh hgb hgc hgi hgu) (cwV 1 hts (goodIn_app (goodIn_r _ [8, 9, 10, 7] rfl (by decide +kernel)) (goodIn_ca (goodIn_r _ [2, 3, 4, 5, 6, 7] rfl (by decide +kernel)) (bs_in _ _))) rfl rfl rfl (by decide +kernel) ⟨(Nat.le_of_ble_eq_true rfl), (Nat.le_of_ble_eq_true rfl)⟩) ⟨fun a U g mk q => by obtain ⟨q0, q1, qK, qE⟩ := q; exact ⟨q0, q1, va_K.moved (u := U) (U := U.calling g mk a) (Vm.Alike.refl U.vm) qK, EVS.blind g mk a qE⟩, gH_rc hK hT hr_o0 shm_0 rfl, fun U hU hW => ⟨rfl, hU, va_K.moved hW.alike hK, hE.call hS hFc hU hW⟩⟩ rfl rfl hl.1 rfl (lv_room (Nat.le_of_ble_eq_true rfl)) dX12_come_8 ⟨(Nat.le_of_ble_eq_true rfl), (Nat.le_of_ble_eq_true rfl)⟩) hS (fun q _ h => hFc q h) hFc (fun r2 u t H locs ht hvm hw3 hB _ _ hS => ?_)
  obtain ⟨hT, hF1⟩ := hB
  rw [ht] at hT hF1
  have hF := hF.more hF1 (by decide)
  try dsimp only at hw3
  obtain ⟨h5, hi6⟩ := hw3
  refine lv_iconst (v := 1) hx hb dX12_come_11 (by decide) ?_
  have hFc := gA_free hG hA hS
  refine va_calli (va_runV (As := [.int r2, .int 1]) (rest := []) ⟨hx, hb, hml, hown, hts⟩ (s_throwsIf l dC dI kA adK adV G H q wZ wN wH wB wC wL wK wU wV PI im PM PT lS lB lE lN o0 r2 1 hT hr_o0 (by have q8 := ti_all r2; omega) hgz hgn hgh hgb hgc hgi hgu) (cwV 2 hts (goodIn_app (goodIn_r _ [12, 13, 14, 7] rfl (by decide +kernel)) (goodIn_ca (goodIn_r _ [11, 1] rfl (by decide +kernel)) (bs_in _ _))) rfl rfl rfl (by decide +kernel) ⟨(Nat.le_of_ble_eq_true rfl), (Nat.le_of_ble_eq_true rfl)⟩) ⟨fun a U g mk q => by obtain ⟨q0, q1, qK, qE⟩ := q; exact ⟨q0, q1, va_K.moved (u := U) (U := U.calling g mk a) (Vm.Alike.refl U.vm) qK, EVS.blind g mk a qE⟩, gH_rc hK hT hr_o0 shm_0 rfl, fun U hU hW => ⟨rfl, hU, va_K.moved hW.alike hK, hE.call hS hFc hU hW⟩⟩ rfl rfl hl.1 rfl (lv_room (Nat.le_of_ble_eq_true rfl)) dX12_come_12 ⟨(Nat.le_of_ble_eq_true rfl), (Nat.le_of_ble_eq_true rfl)⟩) hS (fun q _ h => hFc q h) hFc (fun r7 u t H locs ht hvm hw8 hB _ _ hS => ?_)
  obtain ⟨hT, hF1⟩ := hB
  rw [ht] at hT hF1
  have hF := hF.more hF1 (by decide)
  try dsimp only at hw8
  obtain ⟨h10, hd11⟩ := hw8
  obtain rfl : r2 = r7 := hd11.symm
  refine lv_if_ne (tgt := 36) hx hb dX12_come_15 (by decide) (fun c12 => ?_) (fun c12 => ?_)
  · have t13 : r2.toInt ≠ 0 := ti_ne c12 rfl (by decide)
    refine lv_iconst (v := 0) hx hb dX12_come_36 (by decide) ?_
    exact W.zret (v := 0) hx hb hr (by decide) (fun t ht hW => ⟨⟨0, (), rfl, (by exact (rg_t (a := 0) (by decide) (by first | decide | omega) (by first | decide | omega))), by (try dsimp only); rw [ht]; exact ⟨hT, hF⟩⟩, hS.F ht⟩) hS.2.2 dX12_come_37
  · have t14 : r2.toInt = 0 := ti_eq c12 rfl (by decide)
    have t15 : 0 ≤ p0.toInt ∧ p0.toInt ≤ 59 := hi6 c12
    refine lv_aload_n hx hb dX12_come_18 rfl (lv_at hl 0 rfl) ?_
    refine tw_get hx hb hts bF_X12 hown hK hT hr_o0 shm_0 rfl 38 (by decide) (ht_at hts 14 rfl) (fun _ h9 => h9) dX12_come_19 (fun v9 m16 h9 => ?_)
    obtain ⟨rfl, hg17⟩ := h9 _ rfl
    refine lv_iload_n hx hb dX12_come_22 rfl (lv_at hl 1 rfl) ?_
    refine tw_iald (i := p0) hx hb hK hT hg17 shm_39 rfl (vin_t (a := p0.toInt) rfl (by omega) (by omega)) dX12_come_23 (fun v9 m18 h9 => ?_)
    obtain ⟨x19, rfl, gx19, kx19⟩ := h9
    refine lv_if_lt (tgt := 36) hx hb dX12_come_24 (by decide) (fun c20 => ?_) (fun c20 => ?_)
    · have t21 : x19.toInt < 0 := ti_lt c20 rfl (by decide)
      refine lv_iconst (v := 0) hx hb dX12_come_36 (by decide) ?_
      exact W.zret (v := 0) hx hb hr (by decide) (fun t ht hW => ⟨⟨0, (), rfl, (by exact (rg_t (a := 0) (by decide) (by first | decide | omega) (by first | decide | omega))), by (try dsimp only); rw [ht]; exact ⟨hT, hF⟩⟩, hS.F ht⟩) hS.2.2 dX12_come_37
    · have t22 : 0 ≤ x19.toInt := ti_nlt c20 rfl (by decide)
      refine lv_aload_n hx hb dX12_come_27 rfl (lv_at hl 0 rfl) ?_
      refine tw_get hx hb hts bF_X12 hown hK hT hr_o0 shm_0 rfl 41 (by decide) (ht_at hts 15 rfl) (fun _ h9 => h9) dX12_come_28 (fun v9 m23 h9 => ?_)
      obtain ⟨rfl, hg24⟩ := h9 _ rfl
      refine lv_iload_n hx hb dX12_come_31 rfl (lv_at hl 1 rfl) ?_
      refine tw_zald (i := p0) hx hb hK hT hg24 shm_42 rfl (vin_t (a := p0.toInt) rfl (by omega) (by omega)) dX12_come_32 (fun v9 m25 h9 => ?_)
      obtain ⟨x26, rfl, gx26, kx26⟩ := h9
      refine lv_if_eq (tgt := 38) hx hb dX12_come_33 (by decide) (fun c27 => ?_) (fun c27 => ?_)
      · have t28 : x26.toInt = 0 := ti_eq c27 rfl (by decide)
        refine lv_aload_n hx hb dX12_come_38 rfl (lv_at hl 0 rfl) ?_
        refine tw_get hx hb hts bF_X12 hown hK hT hr_o0 shm_0 rfl 41 (by decide) (ht_at hts 15 rfl) (fun _ h9 => h9) dX12_come_39 (fun v9 m29 h9 => ?_)
        obtain ⟨rfl, hg30⟩ := h9 _ rfl
        refine lv_iload_n hx hb dX12_come_42 rfl (lv_at hl 1 rfl) ?_
        refine lv_iconst (v := 1) hx hb dX12_come_43 (by decide) ?_
        refine tw_zast (i := p0) (x := 1) hx hb hK hT hG hS hg24 shm_42 rfl (vin_t (a := p0.toInt) rfl (by omega) (by omega)) (gi_z (rg_t (a := 1) (by decide) (by first | decide | omega) (by first | decide | omega)) (by decide) (by decide)) dX12_come_44 (fun H locs hT oq m31 oi hS => ?_)
        have hF := hF.ast hg24 skm_42 oq (by decide)
        refine lv_iconst (v := 1) hx hb dX12_come_45 (by decide) ?_
        exact W.zret (v := 1) hx hb hr (by decide) (fun t ht hW => ⟨⟨1, (), rfl, (by exact (rg_t (a := 1) (by decide) (by first | decide | omega) (by first | decide | omega))), by (try dsimp only); rw [ht]; exact ⟨hT, hF⟩⟩, hS.F ht⟩) hS.2.2 dX12_come_46
      · have t33 : x26.toInt ≠ 0 := ti_ne c27 rfl (by decide)
        refine lv_iconst (v := 0) hx hb dX12_come_36 (by decide) ?_
        exact W.zret (v := 0) hx hb hr (by decide) (fun t ht hW => ⟨⟨0, (), rfl, (by exact (rg_t (a := 0) (by decide) (by first | decide | omega) (by first | decide | omega))), by (try dsimp only); rw [ht]; exact ⟨hT, hF⟩⟩, hS.F ht⟩) hS.2.2 dX12_come_37
def w_s_arrears : List Cond := .code yX12_arrears cX12_arrears 5 (some .int) :: (HAppend.hAppend (α := List Cond) (β := List Cond) (γ := List Cond) [.fieldLink RX12 194 "SeaLandModel" "thrown" "I", .fieldLink RX12 495 "SeaLandModel" "settlers" "I", .fieldLink RX12 131 "SeaLandModel" "open" "[Z", .fieldLink RX12 107 "SeaLandModel" "owes" "[I", .fieldLink RX12 101 "SeaLandModel" "holds" "[I"] bs)
set_option maxHeartbeats 4000000 in
set_option maxRecDepth 100000 in
theorem s_arrears (l : Launch) (dC : Nat → ClassId) (dI : Nat → Nat → Nat) (kA : Nat → ClassId) (adK adV : Nat → Nat) (G : gT) (H0 : Heap) (q : Nat → Nat) (wZ wN : Nat → Int) (wH wB wC : Int) (wL wK : Nat → Prop) (wU wV : Nat → Nat) (PI : Nat → Int → Prop) (im : Int) (PM PT : Nat → Int → Prop) (lS lB lE : Nat → Nat → Int → Prop) (lN : Nat → Int) (o0 : Nat) (p0 : Int32)  (hT : gH (dC, dI) kA (SHm q (wP wZ wN wH wB wC wL wK wU wV) PI im PM PT lS lB lE lN) G H0) (hr_o0 : G o0 = some 0) (hgz : ∀ i, 0 ≤ wZ i) (hgn : ∀ i, 6500000 ≤ wN i ∧ wN i ≤ 20200000) (hgh : 0 ≤ wH ∧ wH ≤ 40000) (hgb : 0 ≤ wB ∧ wB ≤ 3850000) (hgc : 0 ≤ wC ∧ wC ≤ 30) (hgi : 0 ≤ im ∧ im ≤ 1) (hgu : ∀ a t, G a = some (t + 1) → a = q t) : Met l yX12_arrears w_s_arrears ({ frames := 0, cells := 0, slots := 0, locals := 0 }) (va_Pc [.ref o0, .int p0] (fun U => U.heap = H0 ∧ va_K (dC, dI) vwCl (tyl kA) U ∧ EVS adK adV (gA G H0.size) U U.heap)) (va_Qi (fun (r : Int32) (u : Unit) => (-1 ≤ r.toInt ∧ r.toInt ≤ 59)) (fun (_ : Unit) (t : State) => gH (dC, dI) kA (SHm q (wP wZ wN wH wB wC wL wK wU wV) PI im PM PT lS lB lE lN) G t.heap ∧ gF (dC, dI) SKm G ([(0, 0), (52, 0)] : List (Nat × Nat)) H0 t.heap) (gA G H0.size)) 0 0 (gA G H0.size) := by
  refine Met.ofW (cc := cX12_arrears) (maxL := 5) (ret := (some .int)) (by decide) rfl ?_
  intro p e s m args below meth c s₁ B hml hv
  obtain ⟨rfl, hH0, hK, hE⟩ := hv
  have hx := B.exec
  have hb := B.bytes
  have hr := B.returns
  have hts := atoms_spec (ws := w_s_arrears) B.pre
  have hown : s.vm.findClass RX12 = some m.cls := findClass_of_methodNamed B.named
  have hlocks := B.notSynchronized
  subst hH0
  generalize hAe : gA G s.heap.size = A at hE ⊢
  have hA : ∀ q : Nat, s.heap.size ≤ q → A q := fun q h => by rw [← hAe]; exact Or.inr h
  have hG := gA_of hAe
  have hS : va_S A s.heap s.heap [] := va_S.rf
  have hF : gF (dC, dI) SKm G ([(0, 0), (52, 0)] : List (Nat × Nat)) s.heap s.heap := gF.rf
  have hl := lv_entry ([.ref o0, .int p0]) (n := 5) (Nat.le_of_ble_eq_true rfl)
  rw [lg_entry_eq]
  generalize (lg_sl ([.ref o0, .int p0]) ++ List.replicate (5 - (lg_sl ([.ref o0, .int p0])).length) Slot.unset).toArray = ls at hl ⊢
  have hl : lv_has ls 5 [(0, .ref o0), (1, .int p0)] := hl
  refine lv_aload_n hx hb dX12_arrears_0 rfl (lv_at hl 0 rfl) ?_
  refine lv_iconst (v := 0) hx hb dX12_arrears_1 (by decide) ?_
  refine tw_put (v := .int 0) (ty := .int) hx hb hts bF_X12 tyX12 tyX12_ok nmX12 hown hK hT hG hS hr_o0 shm_0 rfl 0 (by decide) (ht_at hts 0 rfl) (fun _ h9 => h9) rfl (by decide +kernel) rfl rfl (gl_at rfl (gi_all _)) dX12_arrears_2 (fun H locs hT oq m1 oj hS => ?_)
  have hF := hF.put hr_o0 skm_0 oq oj (by decide)
  refine lv_iload_n hx hb dX12_arrears_5 rfl (lv_at hl 1 rfl) ?_
  refine lv_if_lt (tgt := 17) hx hb dX12_arrears_6 (by decide) (fun c2 => ?_) (fun c2 => ?_)
  · have t3 : p0.toInt < 0 := ti_lt c2 rfl (by decide)
    refine lv_iconst (v := (-1)) hx hb dX12_arrears_17 (by decide) ?_
    exact W.iret (v := (-1)) hx hb hr (fun t ht hW => ⟨⟨(-1), (), rfl, (by exact (rg_t (a := (-1)) (by decide) (by first | decide | omega) (by first | decide | omega))), by (try dsimp only); rw [ht]; exact ⟨hT, hF⟩⟩, hS.F ht⟩) hS.2.2 dX12_arrears_18
  · have t4 : 0 ≤ p0.toInt := ti_nlt c2 rfl (by decide)
    refine lv_iload_n hx hb dX12_arrears_9 rfl (lv_at hl 1 rfl) ?_
    refine lv_aload_n hx hb dX12_arrears_10 rfl (lv_at hl 0 rfl) ?_
    refine tw_get hx hb hts bF_X12 hown hK hT hr_o0 shm_0 rfl 42 (by decide) (ht_at hts 1 rfl) (fun _ h9 => h9) dX12_arrears_11 (fun v9 m5 h9 => ?_)
    obtain ⟨x6, rfl, gx6, kx6⟩ := h9 _ rfl
    refine lv_icmp_lt (tgt := 19) hx hb dX12_arrears_14 (by decide) (fun c7 => ?_) (fun c7 => ?_)
    · have t8 : p0.toInt < x6.toInt := ti_lt c7 rfl rfl
      refine lv_iconst (v := 0) hx hb dX12_arrears_19 (by decide) ?_
      refine lv_istore_n (lv' := [(2, .int 0), (0, .ref o0), (1, .int p0)]) hx hb dX12_arrears_20 rfl hl (by decide) rfl (fun ls hl => ?_)
      have key314 : ∀ (n314 i9 : Nat), i9 + n314 = 60 → 0 ≤ i9 → ∀ (H : Heap) (locs : List Loc), gH (dC, dI) kA (SHm q (wP wZ wN wH wB wC wL wK wU wV) PI im PM PT lS lB lE lN) G H → gF (dC, dI) SKm G ([(0, 0), (52, 0)] : List (Nat × Nat)) s.heap H → va_S A s.heap H locs → el H o0 (dI 15 0) = some (.int 0) → el H o0 (dI 15 42) = some (.int x6) → ∀ ls : Array Slot, lv_has ls 5 [(2, .int (nI i9)), (0, .ref o0), (1, .int p0)] → W p l e (headSpec w_s_arrears ({ frames := 0, cells := 0, slots := 0, locals := 0 })).room s m #[.ref o0, .int p0] below meth c H locs 0 0 (MQ below (va_Qi (fun (r : Int32) (u : Unit) => (-1 ≤ r.toInt ∧ r.toInt ≤ 59)) (fun (_ : Unit) (t : State) => gH (dC, dI) kA (SHm q (wP wZ wN wH wB wC wL wK wU wV) PI im PM PT lS lB lE lN) G t.heap ∧ gF (dC, dI) SKm G ([(0, 0), (52, 0)] : List (Nat × Nat)) s.heap t.heap) A) #[.ref o0, .int p0] s 0 0 A) (F0 m 21 ls []) := by
        intro n314
        induction n314 with
        | zero =>
          intro i9 hn314 hlo315  H locs hT hF hS m10 m11 ls hl
          obtain rfl : 60 = i9 := by omega
          refine lv_iload_n hx hb dX12_arrears_21 rfl (lv_at hl 0 rfl) ?_
          refine lv_aload_n hx hb dX12_arrears_22 rfl (lv_at hl 1 rfl) ?_
          refine tw_getM (v := .int x6) hx hb hts bF_X12 hown hK hT hr_o0 shm_0 rfl 42 (by decide) (ht_at hts 1 rfl) (fun _ h9 => h9) m11 dX12_arrears_23 ?_
          refine lv_icmp_ge (tgt := 64) hx hb dX12_arrears_26 (by decide) (fun c316 => ?_) (fun c316 => (by exfalso; have q9 : ((60 : Nat) : Int) < x6.toInt := ti_nle c316 rfl (nI_toInt (by omega)); omega))
          have t317 : x6.toInt ≤ ((60 : Nat) : Int) := ti_le c316 rfl (nI_toInt (by omega))
          refine lv_iconst (v := (-1)) hx hb dX12_arrears_64 (by decide) ?_
          refine lv_istore_n (lv' := [(2, .int (-1)), (0, .ref o0), (1, .int p0)]) hx hb dX12_arrears_65 rfl hl (by decide) rfl (fun ls hl => ?_)
          refine lv_iconst (v := 0) hx hb dX12_arrears_66 (by decide) ?_
          refine lv_istore_n (lv' := [(3, .int 0), (2, .int (-1)), (0, .ref o0), (1, .int p0)]) hx hb dX12_arrears_67 rfl hl (by decide) rfl (fun ls hl => ?_)
          have key453 : ∀ (n453 i318 : Nat), i318 + n453 = 60 → 0 ≤ i318 → ∀ (z319 : Int32), ((-1 ≤ z319.toInt ∧ z319.toInt ≤ 59)) → ∀ (H : Heap) (locs : List Loc), gH (dC, dI) kA (SHm q (wP wZ wN wH wB wC wL wK wU wV) PI im PM PT lS lB lE lN) G H → gF (dC, dI) SKm G ([(0, 0), (52, 0)] : List (Nat × Nat)) s.heap H → va_S A s.heap H locs → el H o0 (dI 15 0) = some (.int 0) → el H o0 (dI 15 42) = some (.int x6) → ∀ ls : Array Slot, lv_has ls 5 [(3, .int (nI i318)), (2, .int z319), (0, .ref o0), (1, .int p0)] → W p l e (headSpec w_s_arrears ({ frames := 0, cells := 0, slots := 0, locals := 0 })).room s m #[.ref o0, .int p0] below meth c H locs 0 0 (MQ below (va_Qi (fun (r : Int32) (u : Unit) => (-1 ≤ r.toInt ∧ r.toInt ≤ 59)) (fun (_ : Unit) (t : State) => gH (dC, dI) kA (SHm q (wP wZ wN wH wB wC wL wK wU wV) PI im PM PT lS lB lE lN) G t.heap ∧ gF (dC, dI) SKm G ([(0, 0), (52, 0)] : List (Nat × Nat)) s.heap t.heap) A) #[.ref o0, .int p0] s 0 0 A) (F0 m 68 ls []) := by
            intro n453
            induction n453 with
            | zero =>
              intro i318 hn453 hlo454 z319 h320 H locs hT hF hS m321 m322 ls hl
              obtain rfl : 60 = i318 := by omega
              refine lv_iload_n hx hb dX12_arrears_68 rfl (lv_at hl 0 rfl) ?_
              refine lv_iload_n hx hb dX12_arrears_69 rfl (lv_at hl 3 rfl) ?_
              refine lv_icmp_gt (tgt := 145) hx hb dX12_arrears_70 (by decide) (fun c455 => ?_) (fun c455 => (by exfalso; have q9 : ((60 : Nat) : Int) ≤ p0.toInt := ti_nlt c455 rfl (nI_toInt (by omega)); omega))
              have t456 : p0.toInt < ((60 : Nat) : Int) := ti_lt c455 rfl (nI_toInt (by omega))
              refine lv_iload_n hx hb dX12_arrears_145 rfl (lv_at hl 1 rfl) ?_
              exact W.iret (v := z319) hx hb hr (fun t ht hW => ⟨⟨z319, (), rfl, (by exact (by have q8 := ti_all z319; omega)), by (try dsimp only); rw [ht]; exact ⟨hT, hF⟩⟩, hS.F ht⟩) hS.2.2 dX12_arrears_146
            | succ n453 ih453 =>
              intro i318 hn453 hlo454 z319 h320 H locs hT hF hS m321 m322 ls hl
              have hlt456 : i318 < 60 := by omega
              refine lv_iload_n hx hb dX12_arrears_68 rfl (lv_at hl 0 rfl) ?_
              refine lv_iload_n hx hb dX12_arrears_69 rfl (lv_at hl 3 rfl) ?_
              refine lv_icmp_gt (tgt := 145) hx hb dX12_arrears_70 (by decide) (fun c457 => ?_) (fun c457 => ?_)
              · have t458 : p0.toInt < ((i318 : Nat) : Int) := ti_lt c457 rfl (nI_toInt (by omega))
                refine lv_iload_n hx hb dX12_arrears_145 rfl (lv_at hl 1 rfl) ?_
                exact W.iret (v := z319) hx hb hr (fun t ht hW => ⟨⟨z319, (), rfl, (by exact (by have q8 := ti_all z319; omega)), by (try dsimp only); rw [ht]; exact ⟨hT, hF⟩⟩, hS.F ht⟩) hS.2.2 dX12_arrears_146
              · have t459 : ((i318 : Nat) : Int) ≤ p0.toInt := ti_nlt c457 rfl (nI_toInt (by omega))
                refine lv_iconst (v := (-1)) hx hb dX12_arrears_73 (by decide) ?_
                refine lv_istore_n (lv' := [(2, .int (-1)), (3, .int (nI i318)), (0, .ref o0), (1, .int p0)]) hx hb dX12_arrears_74 rfl hl (by decide) rfl (fun ls hl => ?_)
                refine lv_iconst (v := 0) hx hb dX12_arrears_75 (by decide) ?_
                refine lv_istore (lv' := [(4, .int 0), (2, .int (-1)), (3, .int (nI i318)), (0, .ref o0), (1, .int p0)]) hx hb dX12_arrears_76 hl (by decide) rfl (fun ls hl => ?_)
                have jn550 : ∀ (z544 : Int32), ∀ (z546 : Int32), ((1 ≤ z544.toInt ∧ z544.toInt ≤ 60) ∧ (-1 ≤ z546.toInt ∧ z546.toInt ≤ 59)) → ∀ (H : Heap) (locs : List Loc), gH (dC, dI) kA (SHm q (wP wZ wN wH wB wC wL wK wU wV) PI im PM PT lS lB lE lN) G H → gF (dC, dI) SKm G ([(0, 0), (52, 0)] : List (Nat × Nat)) s.heap H → va_S A s.heap H locs → el H o0 (dI 15 0) = some (.int 0) → el H o0 (dI 15 42) = some (.int x6) → ∀ ls : Array Slot, lv_has ls 5 [(4, .int z544), (2, .int z546), (3, .int (nI i318)), (0, .ref o0), (1, .int p0)] → W p l e (headSpec w_s_arrears ({ frames := 0, cells := 0, slots := 0, locals := 0 })).room s m #[.ref o0, .int p0] below meth c H locs 0 0 (MQ below (va_Qi (fun (r : Int32) (u : Unit) => (-1 ≤ r.toInt ∧ r.toInt ≤ 59)) (fun (_ : Unit) (t : State) => gH (dC, dI) kA (SHm q (wP wZ wN wH wB wC wL wK wU wV) PI im PM PT lS lB lE lN) G t.heap ∧ gF (dC, dI) SKm G ([(0, 0), (52, 0)] : List (Nat × Nat)) s.heap t.heap) A) #[.ref o0, .int p0] s 0 0 A) (F0 m 126 ls []) := by
                  intro z544 z546 ⟨h545, h547⟩ H locs hT hF hS m548 m549 ls hl
                  refine lv_iload_n hx hb dX12_arrears_126 rfl (lv_at hl 1 rfl) ?_
                  refine lv_if_ge (tgt := 132) hx hb dX12_arrears_127 (by decide) (fun c551 => ?_) (fun c551 => ?_)
                  · have t552 : 0 ≤ z546.toInt := ti_le c551 (by decide) rfl
                    refine lv_aload_n hx hb dX12_arrears_132 rfl (lv_at hl 3 rfl) ?_
                    refine tw_get hx hb hts bF_X12 hown hK hT hr_o0 shm_0 rfl 51 (by decide) (ht_at hts 2 rfl) (fun _ h9 => h9) dX12_arrears_133 (fun v9 m553 h9 => ?_)
                    obtain ⟨rfl, hg554⟩ := h9 _ rfl
                    refine lv_iload_n hx hb dX12_arrears_136 rfl (lv_at hl 1 rfl) ?_
                    refine lv_iconst (v := 0) hx hb dX12_arrears_137 (by decide) ?_
                    refine tw_zast (i := z546) (x := 0) hx hb hK hT hG hS hg554 shm_52 rfl (vin_t (a := z546.toInt) rfl (by omega) (by omega)) (gi_z (rg_t (a := 0) (by decide) (by first | decide | omega) (by first | decide | omega)) (by decide) (by decide)) dX12_arrears_138 (fun H locs hT oq m555 oi hS => ?_)
                    have hF := hF.ast hg554 skm_52 oq (by decide)
                    have m556 := (el_kept (oq _ (gne hr_o0 hg554 (by decide)))).trans m548
                    have m557 := (el_kept (oq _ (gne hr_o0 hg554 (by decide)))).trans m549
                    refine lv_iinc (v := nI (i318 + 1)) (lv' := [(3, .int (nI (i318 + 1))), (4, .int z544), (2, .int z546), (0, .ref o0), (1, .int p0)]) hx hb dX12_arrears_139 hl (k := 2) rfl (nI_add i318 1) (by decide) rfl (fun ls hl => ?_)
                    refine lv_goto (tgt := 68) hx hb dX12_arrears_142 (by decide) ?_
                    exact ih453 (i318 + 1) (by omega) (by omega) z546 (by have q8 := ti_all z546; omega) _ _ hT hF hS m556 m557 ls (lv_sub hl [0, 2, 3, 4] rfl)
                  · have t558 : z546.toInt < 0 := ti_nle c551 (by decide) rfl
                    refine lv_iconst (v := (-1)) hx hb dX12_arrears_130 (by decide) ?_
                    exact W.iret (v := (-1)) hx hb hr (fun t ht hW => ⟨⟨(-1), (), rfl, (by exact (rg_t (a := (-1)) (by decide) (by first | decide | omega) (by first | decide | omega))), by (try dsimp only); rw [ht]; exact ⟨hT, hF⟩⟩, hS.F ht⟩) hS.2.2 dX12_arrears_131
                have key559 : ∀ (n559 i460 : Nat), i460 + n559 = 60 → 0 ≤ i460 → ∀ (z461 : Int32), ((-1 ≤ z461.toInt ∧ z461.toInt ≤ 59)) → ∀ (H : Heap) (locs : List Loc), gH (dC, dI) kA (SHm q (wP wZ wN wH wB wC wL wK wU wV) PI im PM PT lS lB lE lN) G H → gF (dC, dI) SKm G ([(0, 0), (52, 0)] : List (Nat × Nat)) s.heap H → va_S A s.heap H locs → el H o0 (dI 15 0) = some (.int 0) → el H o0 (dI 15 42) = some (.int x6) → ∀ ls : Array Slot, lv_has ls 5 [(4, .int (nI i460)), (2, .int z461), (3, .int (nI i318)), (0, .ref o0), (1, .int p0)] → W p l e (headSpec w_s_arrears ({ frames := 0, cells := 0, slots := 0, locals := 0 })).room s m #[.ref o0, .int p0] below meth c H locs 0 0 (MQ below (va_Qi (fun (r : Int32) (u : Unit) => (-1 ≤ r.toInt ∧ r.toInt ≤ 59)) (fun (_ : Unit) (t : State) => gH (dC, dI) kA (SHm q (wP wZ wN wH wB wC wL wK wU wV) PI im PM PT lS lB lE lN) G t.heap ∧ gF (dC, dI) SKm G ([(0, 0), (52, 0)] : List (Nat × Nat)) s.heap t.heap) A) #[.ref o0, .int p0] s 0 0 A) (F0 m 78 ls []) := by
                  intro n559
                  induction n559 with
                  | zero =>
                    intro i460 hn559 hlo560 z461 h462 H locs hT hF hS m463 m464 ls hl
                    obtain rfl : 60 = i460 := by omega
                    refine lv_iload hx hb dX12_arrears_78 (lv_at hl 0 rfl) ?_
                    refine lv_aload_n hx hb dX12_arrears_80 rfl (lv_at hl 3 rfl) ?_
                    refine tw_getM (v := .int x6) hx hb hts bF_X12 hown hK hT hr_o0 shm_0 rfl 42 (by decide) (ht_at hts 1 rfl) (fun _ h9 => h9) m464 dX12_arrears_81 ?_
                    refine lv_icmp_ge (tgt := 126) hx hb dX12_arrears_84 (by decide) (fun c561 => ?_) (fun c561 => (by exfalso; have q9 : ((60 : Nat) : Int) < x6.toInt := ti_nle c561 rfl (nI_toInt (by omega)); omega))
                    have t562 : x6.toInt ≤ ((60 : Nat) : Int) := ti_le c561 rfl (nI_toInt (by omega))
                    exact jn550 (nI 60) z461 ⟨(rg_t (a := ((60 : Nat) : Int)) (nI_toInt (by omega)) (by omega) (by omega)), (by have q8 := ti_all z461; omega)⟩ _ _ hT hF hS m463 m464 ls (lv_sub hl [0, 1, 2, 3, 4] rfl)
                  | succ n559 ih559 =>
                    intro i460 hn559 hlo560 z461 h462 H locs hT hF hS m463 m464 ls hl
                    have hlt562 : i460 < 60 := by omega
                    refine lv_iload hx hb dX12_arrears_78 (lv_at hl 0 rfl) ?_
                    refine lv_aload_n hx hb dX12_arrears_80 rfl (lv_at hl 3 rfl) ?_
                    refine tw_getM (v := .int x6) hx hb hts bF_X12 hown hK hT hr_o0 shm_0 rfl 42 (by decide) (ht_at hts 1 rfl) (fun _ h9 => h9) m464 dX12_arrears_81 ?_
                    refine lv_icmp_ge (tgt := 126) hx hb dX12_arrears_84 (by decide) (fun c563 => ?_) (fun c563 => ?_)
                    · have t564 : x6.toInt ≤ ((i460 : Nat) : Int) := ti_le c563 rfl (nI_toInt (by omega))
                      exact jn550 (nI i460) z461 ⟨(rg_t (a := ((i460 : Nat) : Int)) (nI_toInt (by omega)) (by omega) (by omega)), (by have q8 := ti_all z461; omega)⟩ _ _ hT hF hS m463 m464 ls (lv_sub hl [0, 1, 2, 3, 4] rfl)
                    · have t565 : ((i460 : Nat) : Int) < x6.toInt := ti_nle c563 rfl (nI_toInt (by omega))
                      refine lv_aload_n hx hb dX12_arrears_87 rfl (lv_at hl 3 rfl) ?_
                      refine tw_get hx hb hts bF_X12 hown hK hT hr_o0 shm_0 rfl 51 (by decide) (ht_at hts 2 rfl) (fun _ h9 => h9) dX12_arrears_88 (fun v9 m566 h9 => ?_)
                      obtain ⟨rfl, hg567⟩ := h9 _ rfl
                      refine lv_iload hx hb dX12_arrears_91 (lv_at hl 0 rfl) ?_
                      refine tw_zald (i := (nI i460)) hx hb hK hT hg567 shm_52 rfl (vp_in_nI (by omega) (by decide)) dX12_arrears_93 (fun v9 m568 h9 => ?_)
                      obtain ⟨x569, rfl, gx569, kx569⟩ := h9
                      refine lv_if_eq (tgt := 120) hx hb dX12_arrears_94 (by decide) (fun c570 => ?_) (fun c570 => ?_)
                      · have t571 : x569.toInt = 0 := ti_eq c570 rfl (by decide)
                        refine lv_iinc (v := nI (i460 + 1)) (lv' := [(4, .int (nI (i460 + 1))), (2, .int z461), (3, .int (nI i318)), (0, .ref o0), (1, .int p0)]) hx hb dX12_arrears_120 hl (k := 0) rfl (nI_add i460 1) (by decide) rfl (fun ls hl => ?_)
                        refine lv_goto (tgt := 78) hx hb dX12_arrears_123 (by decide) ?_
                        exact ih559 (i460 + 1) (by omega) (by omega) z461 (by have q8 := ti_all z461; omega) _ _ hT hF hS m463 m464 ls (lv_sub hl [0, 1, 2, 3, 4] rfl)
                      · have t572 : x569.toInt ≠ 0 := ti_ne c570 rfl (by decide)
                        refine lv_iload_n hx hb dX12_arrears_97 rfl (lv_at hl 1 rfl) ?_
                        refine lv_if_lt (tgt := 117) hx hb dX12_arrears_98 (by decide) (fun c573 => ?_) (fun c573 => ?_)
                        · have t574 : z461.toInt < 0 := ti_lt c573 rfl (by decide)
                          refine lv_iload hx hb dX12_arrears_117 (lv_at hl 0 rfl) ?_
                          refine lv_istore_n (lv' := [(2, .int (nI i460)), (4, .int (nI i460)), (3, .int (nI i318)), (0, .ref o0), (1, .int p0)]) hx hb dX12_arrears_119 rfl hl (by decide) rfl (fun ls hl => ?_)
                          refine lv_iinc (v := nI (i460 + 1)) (lv' := [(4, .int (nI (i460 + 1))), (2, .int (nI i460)), (3, .int (nI i318)), (0, .ref o0), (1, .int p0)]) hx hb dX12_arrears_120 hl (k := 1) rfl (nI_add i460 1) (by decide) rfl (fun ls hl => ?_)
                          refine lv_goto (tgt := 78) hx hb dX12_arrears_123 (by decide) ?_
                          exact ih559 (i460 + 1) (by omega) (by omega) (nI i460) (rg_t (a := ((i460 : Nat) : Int)) (nI_toInt (by omega)) (by omega) (by omega)) _ _ hT hF hS m463 m464 ls (lv_sub hl [0, 1, 2, 3, 4] rfl)
                        · have t575 : 0 ≤ z461.toInt := ti_nlt c573 rfl (by decide)
                          refine lv_aload_n hx hb dX12_arrears_101 rfl (lv_at hl 3 rfl) ?_
                          refine tw_get hx hb hts bF_X12 hown hK hT hr_o0 shm_0 rfl 40 (by decide) (ht_at hts 3 rfl) (fun _ h9 => h9) dX12_arrears_102 (fun v9 m576 h9 => ?_)
                          obtain ⟨rfl, hg577⟩ := h9 _ rfl
                          refine lv_iload hx hb dX12_arrears_105 (lv_at hl 0 rfl) ?_
                          refine tw_iald (i := (nI i460)) hx hb hK hT hg577 shm_41 rfl (vp_in_nI (by omega) (by decide)) dX12_arrears_107 (fun v9 m578 h9 => ?_)
                          obtain ⟨x579, rfl, gx579, kx579⟩ := h9
                          refine lv_aload_n hx hb dX12_arrears_108 rfl (lv_at hl 3 rfl) ?_
                          refine tw_get hx hb hts bF_X12 hown hK hT hr_o0 shm_0 rfl 40 (by decide) (ht_at hts 3 rfl) (fun _ h9 => h9) dX12_arrears_109 (fun v9 m580 h9 => ?_)
                          obtain ⟨rfl, hg581⟩ := h9 _ rfl
                          refine lv_iload_n hx hb dX12_arrears_112 rfl (lv_at hl 1 rfl) ?_
                          refine tw_iald (i := z461) hx hb hK hT hg577 shm_41 rfl (vin_t (a := z461.toInt) rfl (by omega) (by omega)) dX12_arrears_113 (fun v9 m582 h9 => ?_)
                          obtain ⟨x583, rfl, gx583, kx583⟩ := h9
                          refine lv_icmp_le (tgt := 120) hx hb dX12_arrears_114 (by decide) (fun c584 => ?_) (fun c584 => ?_)
                          · have t585 : x579.toInt ≤ x583.toInt := ti_le c584 rfl rfl
                            refine lv_iinc (v := nI (i460 + 1)) (lv' := [(4, .int (nI (i460 + 1))), (2, .int z461), (3, .int (nI i318)), (0, .ref o0), (1, .int p0)]) hx hb dX12_arrears_120 hl (k := 0) rfl (nI_add i460 1) (by decide) rfl (fun ls hl => ?_)
                            refine lv_goto (tgt := 78) hx hb dX12_arrears_123 (by decide) ?_
                            exact ih559 (i460 + 1) (by omega) (by omega) z461 (by have q8 := ti_all z461; omega) _ _ hT hF hS m463 m464 ls (lv_sub hl [0, 1, 2, 3, 4] rfl)
                          · have t586 : x583.toInt < x579.toInt := ti_nle c584 rfl rfl
                            refine lv_iload hx hb dX12_arrears_117 (lv_at hl 0 rfl) ?_
                            refine lv_istore_n (lv' := [(2, .int (nI i460)), (4, .int (nI i460)), (3, .int (nI i318)), (0, .ref o0), (1, .int p0)]) hx hb dX12_arrears_119 rfl hl (by decide) rfl (fun ls hl => ?_)
                            refine lv_iinc (v := nI (i460 + 1)) (lv' := [(4, .int (nI (i460 + 1))), (2, .int (nI i460)), (3, .int (nI i318)), (0, .ref o0), (1, .int p0)]) hx hb dX12_arrears_120 hl (k := 1) rfl (nI_add i460 1) (by decide) rfl (fun ls hl => ?_)
                            refine lv_goto (tgt := 78) hx hb dX12_arrears_123 (by decide) ?_
                            exact ih559 (i460 + 1) (by omega) (by omega) (nI i460) (rg_t (a := ((i460 : Nat) : Int)) (nI_toInt (by omega)) (by omega) (by omega)) _ _ hT hF hS m463 m464 ls (lv_sub hl [0, 1, 2, 3, 4] rfl)
                exact key559 (60 - 0) 0 (by omega) (Nat.le_refl _) (-1) (rg_t (a := (-1)) (by decide) (by first | decide | omega) (by first | decide | omega)) _ _ hT hF hS m321 m322 ls (lv_sub hl [0, 1, 2, 3, 4] rfl)
          exact key453 (60 - 0) 0 (by omega) (Nat.le_refl _) (-1) (rg_t (a := (-1)) (by decide) (by first | decide | omega) (by first | decide | omega)) _ _ hT hF hS m10 m11 ls (lv_sub hl [0, 1, 2, 3] rfl)
        | succ n314 ih314 =>
          intro i9 hn314 hlo315  H locs hT hF hS m10 m11 ls hl
          have hlt586 : i9 < 60 := by omega
          refine lv_iload_n hx hb dX12_arrears_21 rfl (lv_at hl 0 rfl) ?_
          refine lv_aload_n hx hb dX12_arrears_22 rfl (lv_at hl 1 rfl) ?_
          refine tw_getM (v := .int x6) hx hb hts bF_X12 hown hK hT hr_o0 shm_0 rfl 42 (by decide) (ht_at hts 1 rfl) (fun _ h9 => h9) m11 dX12_arrears_23 ?_
          refine lv_icmp_ge (tgt := 64) hx hb dX12_arrears_26 (by decide) (fun c587 => ?_) (fun c587 => ?_)
          · have t588 : x6.toInt ≤ ((i9 : Nat) : Int) := ti_le c587 rfl (nI_toInt (by omega))
            refine lv_iconst (v := (-1)) hx hb dX12_arrears_64 (by decide) ?_
            refine lv_istore_n (lv' := [(2, .int (-1)), (0, .ref o0), (1, .int p0)]) hx hb dX12_arrears_65 rfl hl (by decide) rfl (fun ls hl => ?_)
            refine lv_iconst (v := 0) hx hb dX12_arrears_66 (by decide) ?_
            refine lv_istore_n (lv' := [(3, .int 0), (2, .int (-1)), (0, .ref o0), (1, .int p0)]) hx hb dX12_arrears_67 rfl hl (by decide) rfl (fun ls hl => ?_)
            have key724 : ∀ (n724 i589 : Nat), i589 + n724 = 60 → 0 ≤ i589 → ∀ (z590 : Int32), ((-1 ≤ z590.toInt ∧ z590.toInt ≤ 59)) → ∀ (H : Heap) (locs : List Loc), gH (dC, dI) kA (SHm q (wP wZ wN wH wB wC wL wK wU wV) PI im PM PT lS lB lE lN) G H → gF (dC, dI) SKm G ([(0, 0), (52, 0)] : List (Nat × Nat)) s.heap H → va_S A s.heap H locs → el H o0 (dI 15 0) = some (.int 0) → el H o0 (dI 15 42) = some (.int x6) → ∀ ls : Array Slot, lv_has ls 5 [(3, .int (nI i589)), (2, .int z590), (0, .ref o0), (1, .int p0)] → W p l e (headSpec w_s_arrears ({ frames := 0, cells := 0, slots := 0, locals := 0 })).room s m #[.ref o0, .int p0] below meth c H locs 0 0 (MQ below (va_Qi (fun (r : Int32) (u : Unit) => (-1 ≤ r.toInt ∧ r.toInt ≤ 59)) (fun (_ : Unit) (t : State) => gH (dC, dI) kA (SHm q (wP wZ wN wH wB wC wL wK wU wV) PI im PM PT lS lB lE lN) G t.heap ∧ gF (dC, dI) SKm G ([(0, 0), (52, 0)] : List (Nat × Nat)) s.heap t.heap) A) #[.ref o0, .int p0] s 0 0 A) (F0 m 68 ls []) := by
              intro n724
              induction n724 with
              | zero =>
                intro i589 hn724 hlo725 z590 h591 H locs hT hF hS m592 m593 ls hl
                obtain rfl : 60 = i589 := by omega
                refine lv_iload_n hx hb dX12_arrears_68 rfl (lv_at hl 0 rfl) ?_
                refine lv_iload_n hx hb dX12_arrears_69 rfl (lv_at hl 3 rfl) ?_
                refine lv_icmp_gt (tgt := 145) hx hb dX12_arrears_70 (by decide) (fun c726 => ?_) (fun c726 => (by exfalso; have q9 : ((60 : Nat) : Int) ≤ p0.toInt := ti_nlt c726 rfl (nI_toInt (by omega)); omega))
                have t727 : p0.toInt < ((60 : Nat) : Int) := ti_lt c726 rfl (nI_toInt (by omega))
                refine lv_iload_n hx hb dX12_arrears_145 rfl (lv_at hl 1 rfl) ?_
                exact W.iret (v := z590) hx hb hr (fun t ht hW => ⟨⟨z590, (), rfl, (by exact (by have q8 := ti_all z590; omega)), by (try dsimp only); rw [ht]; exact ⟨hT, hF⟩⟩, hS.F ht⟩) hS.2.2 dX12_arrears_146
              | succ n724 ih724 =>
                intro i589 hn724 hlo725 z590 h591 H locs hT hF hS m592 m593 ls hl
                have hlt727 : i589 < 60 := by omega
                refine lv_iload_n hx hb dX12_arrears_68 rfl (lv_at hl 0 rfl) ?_
                refine lv_iload_n hx hb dX12_arrears_69 rfl (lv_at hl 3 rfl) ?_
                refine lv_icmp_gt (tgt := 145) hx hb dX12_arrears_70 (by decide) (fun c728 => ?_) (fun c728 => ?_)
                · have t729 : p0.toInt < ((i589 : Nat) : Int) := ti_lt c728 rfl (nI_toInt (by omega))
                  refine lv_iload_n hx hb dX12_arrears_145 rfl (lv_at hl 1 rfl) ?_
                  exact W.iret (v := z590) hx hb hr (fun t ht hW => ⟨⟨z590, (), rfl, (by exact (by have q8 := ti_all z590; omega)), by (try dsimp only); rw [ht]; exact ⟨hT, hF⟩⟩, hS.F ht⟩) hS.2.2 dX12_arrears_146
                · have t730 : ((i589 : Nat) : Int) ≤ p0.toInt := ti_nlt c728 rfl (nI_toInt (by omega))
                  refine lv_iconst (v := (-1)) hx hb dX12_arrears_73 (by decide) ?_
                  refine lv_istore_n (lv' := [(2, .int (-1)), (3, .int (nI i589)), (0, .ref o0), (1, .int p0)]) hx hb dX12_arrears_74 rfl hl (by decide) rfl (fun ls hl => ?_)
                  refine lv_iconst (v := 0) hx hb dX12_arrears_75 (by decide) ?_
                  refine lv_istore (lv' := [(4, .int 0), (2, .int (-1)), (3, .int (nI i589)), (0, .ref o0), (1, .int p0)]) hx hb dX12_arrears_76 hl (by decide) rfl (fun ls hl => ?_)
                  have jn821 : ∀ (z815 : Int32), ∀ (z817 : Int32), ((1 ≤ z815.toInt ∧ z815.toInt ≤ 60) ∧ (-1 ≤ z817.toInt ∧ z817.toInt ≤ 59)) → ∀ (H : Heap) (locs : List Loc), gH (dC, dI) kA (SHm q (wP wZ wN wH wB wC wL wK wU wV) PI im PM PT lS lB lE lN) G H → gF (dC, dI) SKm G ([(0, 0), (52, 0)] : List (Nat × Nat)) s.heap H → va_S A s.heap H locs → el H o0 (dI 15 0) = some (.int 0) → el H o0 (dI 15 42) = some (.int x6) → ∀ ls : Array Slot, lv_has ls 5 [(4, .int z815), (2, .int z817), (3, .int (nI i589)), (0, .ref o0), (1, .int p0)] → W p l e (headSpec w_s_arrears ({ frames := 0, cells := 0, slots := 0, locals := 0 })).room s m #[.ref o0, .int p0] below meth c H locs 0 0 (MQ below (va_Qi (fun (r : Int32) (u : Unit) => (-1 ≤ r.toInt ∧ r.toInt ≤ 59)) (fun (_ : Unit) (t : State) => gH (dC, dI) kA (SHm q (wP wZ wN wH wB wC wL wK wU wV) PI im PM PT lS lB lE lN) G t.heap ∧ gF (dC, dI) SKm G ([(0, 0), (52, 0)] : List (Nat × Nat)) s.heap t.heap) A) #[.ref o0, .int p0] s 0 0 A) (F0 m 126 ls []) := by
                    intro z815 z817 ⟨h816, h818⟩ H locs hT hF hS m819 m820 ls hl
                    refine lv_iload_n hx hb dX12_arrears_126 rfl (lv_at hl 1 rfl) ?_
                    refine lv_if_ge (tgt := 132) hx hb dX12_arrears_127 (by decide) (fun c822 => ?_) (fun c822 => ?_)
                    · have t823 : 0 ≤ z817.toInt := ti_le c822 (by decide) rfl
                      refine lv_aload_n hx hb dX12_arrears_132 rfl (lv_at hl 3 rfl) ?_
                      refine tw_get hx hb hts bF_X12 hown hK hT hr_o0 shm_0 rfl 51 (by decide) (ht_at hts 2 rfl) (fun _ h9 => h9) dX12_arrears_133 (fun v9 m824 h9 => ?_)
                      obtain ⟨rfl, hg825⟩ := h9 _ rfl
                      refine lv_iload_n hx hb dX12_arrears_136 rfl (lv_at hl 1 rfl) ?_
                      refine lv_iconst (v := 0) hx hb dX12_arrears_137 (by decide) ?_
                      refine tw_zast (i := z817) (x := 0) hx hb hK hT hG hS hg825 shm_52 rfl (vin_t (a := z817.toInt) rfl (by omega) (by omega)) (gi_z (rg_t (a := 0) (by decide) (by first | decide | omega) (by first | decide | omega)) (by decide) (by decide)) dX12_arrears_138 (fun H locs hT oq m826 oi hS => ?_)
                      have hF := hF.ast hg825 skm_52 oq (by decide)
                      have m827 := (el_kept (oq _ (gne hr_o0 hg825 (by decide)))).trans m819
                      have m828 := (el_kept (oq _ (gne hr_o0 hg825 (by decide)))).trans m820
                      refine lv_iinc (v := nI (i589 + 1)) (lv' := [(3, .int (nI (i589 + 1))), (4, .int z815), (2, .int z817), (0, .ref o0), (1, .int p0)]) hx hb dX12_arrears_139 hl (k := 2) rfl (nI_add i589 1) (by decide) rfl (fun ls hl => ?_)
                      refine lv_goto (tgt := 68) hx hb dX12_arrears_142 (by decide) ?_
                      exact ih724 (i589 + 1) (by omega) (by omega) z817 (by have q8 := ti_all z817; omega) _ _ hT hF hS m827 m828 ls (lv_sub hl [0, 2, 3, 4] rfl)
                    · have t829 : z817.toInt < 0 := ti_nle c822 (by decide) rfl
                      refine lv_iconst (v := (-1)) hx hb dX12_arrears_130 (by decide) ?_
                      exact W.iret (v := (-1)) hx hb hr (fun t ht hW => ⟨⟨(-1), (), rfl, (by exact (rg_t (a := (-1)) (by decide) (by first | decide | omega) (by first | decide | omega))), by (try dsimp only); rw [ht]; exact ⟨hT, hF⟩⟩, hS.F ht⟩) hS.2.2 dX12_arrears_131
                  have key830 : ∀ (n830 i731 : Nat), i731 + n830 = 60 → 0 ≤ i731 → ∀ (z732 : Int32), ((-1 ≤ z732.toInt ∧ z732.toInt ≤ 59)) → ∀ (H : Heap) (locs : List Loc), gH (dC, dI) kA (SHm q (wP wZ wN wH wB wC wL wK wU wV) PI im PM PT lS lB lE lN) G H → gF (dC, dI) SKm G ([(0, 0), (52, 0)] : List (Nat × Nat)) s.heap H → va_S A s.heap H locs → el H o0 (dI 15 0) = some (.int 0) → el H o0 (dI 15 42) = some (.int x6) → ∀ ls : Array Slot, lv_has ls 5 [(4, .int (nI i731)), (2, .int z732), (3, .int (nI i589)), (0, .ref o0), (1, .int p0)] → W p l e (headSpec w_s_arrears ({ frames := 0, cells := 0, slots := 0, locals := 0 })).room s m #[.ref o0, .int p0] below meth c H locs 0 0 (MQ below (va_Qi (fun (r : Int32) (u : Unit) => (-1 ≤ r.toInt ∧ r.toInt ≤ 59)) (fun (_ : Unit) (t : State) => gH (dC, dI) kA (SHm q (wP wZ wN wH wB wC wL wK wU wV) PI im PM PT lS lB lE lN) G t.heap ∧ gF (dC, dI) SKm G ([(0, 0), (52, 0)] : List (Nat × Nat)) s.heap t.heap) A) #[.ref o0, .int p0] s 0 0 A) (F0 m 78 ls []) := by
                    intro n830
                    induction n830 with
                    | zero =>
                      intro i731 hn830 hlo831 z732 h733 H locs hT hF hS m734 m735 ls hl
                      obtain rfl : 60 = i731 := by omega
                      refine lv_iload hx hb dX12_arrears_78 (lv_at hl 0 rfl) ?_
                      refine lv_aload_n hx hb dX12_arrears_80 rfl (lv_at hl 3 rfl) ?_
                      refine tw_getM (v := .int x6) hx hb hts bF_X12 hown hK hT hr_o0 shm_0 rfl 42 (by decide) (ht_at hts 1 rfl) (fun _ h9 => h9) m735 dX12_arrears_81 ?_
                      refine lv_icmp_ge (tgt := 126) hx hb dX12_arrears_84 (by decide) (fun c832 => ?_) (fun c832 => (by exfalso; have q9 : ((60 : Nat) : Int) < x6.toInt := ti_nle c832 rfl (nI_toInt (by omega)); omega))
                      have t833 : x6.toInt ≤ ((60 : Nat) : Int) := ti_le c832 rfl (nI_toInt (by omega))
                      exact jn821 (nI 60) z732 ⟨(rg_t (a := ((60 : Nat) : Int)) (nI_toInt (by omega)) (by omega) (by omega)), (by have q8 := ti_all z732; omega)⟩ _ _ hT hF hS m734 m735 ls (lv_sub hl [0, 1, 2, 3, 4] rfl)
                    | succ n830 ih830 =>
                      intro i731 hn830 hlo831 z732 h733 H locs hT hF hS m734 m735 ls hl
                      have hlt833 : i731 < 60 := by omega
                      refine lv_iload hx hb dX12_arrears_78 (lv_at hl 0 rfl) ?_
                      refine lv_aload_n hx hb dX12_arrears_80 rfl (lv_at hl 3 rfl) ?_
                      refine tw_getM (v := .int x6) hx hb hts bF_X12 hown hK hT hr_o0 shm_0 rfl 42 (by decide) (ht_at hts 1 rfl) (fun _ h9 => h9) m735 dX12_arrears_81 ?_
                      refine lv_icmp_ge (tgt := 126) hx hb dX12_arrears_84 (by decide) (fun c834 => ?_) (fun c834 => ?_)
                      · have t835 : x6.toInt ≤ ((i731 : Nat) : Int) := ti_le c834 rfl (nI_toInt (by omega))
                        exact jn821 (nI i731) z732 ⟨(rg_t (a := ((i731 : Nat) : Int)) (nI_toInt (by omega)) (by omega) (by omega)), (by have q8 := ti_all z732; omega)⟩ _ _ hT hF hS m734 m735 ls (lv_sub hl [0, 1, 2, 3, 4] rfl)
                      · have t836 : ((i731 : Nat) : Int) < x6.toInt := ti_nle c834 rfl (nI_toInt (by omega))
                        refine lv_aload_n hx hb dX12_arrears_87 rfl (lv_at hl 3 rfl) ?_
                        refine tw_get hx hb hts bF_X12 hown hK hT hr_o0 shm_0 rfl 51 (by decide) (ht_at hts 2 rfl) (fun _ h9 => h9) dX12_arrears_88 (fun v9 m837 h9 => ?_)
                        obtain ⟨rfl, hg838⟩ := h9 _ rfl
                        refine lv_iload hx hb dX12_arrears_91 (lv_at hl 0 rfl) ?_
                        refine tw_zald (i := (nI i731)) hx hb hK hT hg838 shm_52 rfl (vp_in_nI (by omega) (by decide)) dX12_arrears_93 (fun v9 m839 h9 => ?_)
                        obtain ⟨x840, rfl, gx840, kx840⟩ := h9
                        refine lv_if_eq (tgt := 120) hx hb dX12_arrears_94 (by decide) (fun c841 => ?_) (fun c841 => ?_)
                        · have t842 : x840.toInt = 0 := ti_eq c841 rfl (by decide)
                          refine lv_iinc (v := nI (i731 + 1)) (lv' := [(4, .int (nI (i731 + 1))), (2, .int z732), (3, .int (nI i589)), (0, .ref o0), (1, .int p0)]) hx hb dX12_arrears_120 hl (k := 0) rfl (nI_add i731 1) (by decide) rfl (fun ls hl => ?_)
                          refine lv_goto (tgt := 78) hx hb dX12_arrears_123 (by decide) ?_
                          exact ih830 (i731 + 1) (by omega) (by omega) z732 (by have q8 := ti_all z732; omega) _ _ hT hF hS m734 m735 ls (lv_sub hl [0, 1, 2, 3, 4] rfl)
                        · have t843 : x840.toInt ≠ 0 := ti_ne c841 rfl (by decide)
                          refine lv_iload_n hx hb dX12_arrears_97 rfl (lv_at hl 1 rfl) ?_
                          refine lv_if_lt (tgt := 117) hx hb dX12_arrears_98 (by decide) (fun c844 => ?_) (fun c844 => ?_)
                          · have t845 : z732.toInt < 0 := ti_lt c844 rfl (by decide)
                            refine lv_iload hx hb dX12_arrears_117 (lv_at hl 0 rfl) ?_
                            refine lv_istore_n (lv' := [(2, .int (nI i731)), (4, .int (nI i731)), (3, .int (nI i589)), (0, .ref o0), (1, .int p0)]) hx hb dX12_arrears_119 rfl hl (by decide) rfl (fun ls hl => ?_)
                            refine lv_iinc (v := nI (i731 + 1)) (lv' := [(4, .int (nI (i731 + 1))), (2, .int (nI i731)), (3, .int (nI i589)), (0, .ref o0), (1, .int p0)]) hx hb dX12_arrears_120 hl (k := 1) rfl (nI_add i731 1) (by decide) rfl (fun ls hl => ?_)
                            refine lv_goto (tgt := 78) hx hb dX12_arrears_123 (by decide) ?_
                            exact ih830 (i731 + 1) (by omega) (by omega) (nI i731) (rg_t (a := ((i731 : Nat) : Int)) (nI_toInt (by omega)) (by omega) (by omega)) _ _ hT hF hS m734 m735 ls (lv_sub hl [0, 1, 2, 3, 4] rfl)
                          · have t846 : 0 ≤ z732.toInt := ti_nlt c844 rfl (by decide)
                            refine lv_aload_n hx hb dX12_arrears_101 rfl (lv_at hl 3 rfl) ?_
                            refine tw_get hx hb hts bF_X12 hown hK hT hr_o0 shm_0 rfl 40 (by decide) (ht_at hts 3 rfl) (fun _ h9 => h9) dX12_arrears_102 (fun v9 m847 h9 => ?_)
                            obtain ⟨rfl, hg848⟩ := h9 _ rfl
                            refine lv_iload hx hb dX12_arrears_105 (lv_at hl 0 rfl) ?_
                            refine tw_iald (i := (nI i731)) hx hb hK hT hg848 shm_41 rfl (vp_in_nI (by omega) (by decide)) dX12_arrears_107 (fun v9 m849 h9 => ?_)
                            obtain ⟨x850, rfl, gx850, kx850⟩ := h9
                            refine lv_aload_n hx hb dX12_arrears_108 rfl (lv_at hl 3 rfl) ?_
                            refine tw_get hx hb hts bF_X12 hown hK hT hr_o0 shm_0 rfl 40 (by decide) (ht_at hts 3 rfl) (fun _ h9 => h9) dX12_arrears_109 (fun v9 m851 h9 => ?_)
                            obtain ⟨rfl, hg852⟩ := h9 _ rfl
                            refine lv_iload_n hx hb dX12_arrears_112 rfl (lv_at hl 1 rfl) ?_
                            refine tw_iald (i := z732) hx hb hK hT hg848 shm_41 rfl (vin_t (a := z732.toInt) rfl (by omega) (by omega)) dX12_arrears_113 (fun v9 m853 h9 => ?_)
                            obtain ⟨x854, rfl, gx854, kx854⟩ := h9
                            refine lv_icmp_le (tgt := 120) hx hb dX12_arrears_114 (by decide) (fun c855 => ?_) (fun c855 => ?_)
                            · have t856 : x850.toInt ≤ x854.toInt := ti_le c855 rfl rfl
                              refine lv_iinc (v := nI (i731 + 1)) (lv' := [(4, .int (nI (i731 + 1))), (2, .int z732), (3, .int (nI i589)), (0, .ref o0), (1, .int p0)]) hx hb dX12_arrears_120 hl (k := 0) rfl (nI_add i731 1) (by decide) rfl (fun ls hl => ?_)
                              refine lv_goto (tgt := 78) hx hb dX12_arrears_123 (by decide) ?_
                              exact ih830 (i731 + 1) (by omega) (by omega) z732 (by have q8 := ti_all z732; omega) _ _ hT hF hS m734 m735 ls (lv_sub hl [0, 1, 2, 3, 4] rfl)
                            · have t857 : x854.toInt < x850.toInt := ti_nle c855 rfl rfl
                              refine lv_iload hx hb dX12_arrears_117 (lv_at hl 0 rfl) ?_
                              refine lv_istore_n (lv' := [(2, .int (nI i731)), (4, .int (nI i731)), (3, .int (nI i589)), (0, .ref o0), (1, .int p0)]) hx hb dX12_arrears_119 rfl hl (by decide) rfl (fun ls hl => ?_)
                              refine lv_iinc (v := nI (i731 + 1)) (lv' := [(4, .int (nI (i731 + 1))), (2, .int (nI i731)), (3, .int (nI i589)), (0, .ref o0), (1, .int p0)]) hx hb dX12_arrears_120 hl (k := 1) rfl (nI_add i731 1) (by decide) rfl (fun ls hl => ?_)
                              refine lv_goto (tgt := 78) hx hb dX12_arrears_123 (by decide) ?_
                              exact ih830 (i731 + 1) (by omega) (by omega) (nI i731) (rg_t (a := ((i731 : Nat) : Int)) (nI_toInt (by omega)) (by omega) (by omega)) _ _ hT hF hS m734 m735 ls (lv_sub hl [0, 1, 2, 3, 4] rfl)
                  exact key830 (60 - 0) 0 (by omega) (Nat.le_refl _) (-1) (rg_t (a := (-1)) (by decide) (by first | decide | omega) (by first | decide | omega)) _ _ hT hF hS m592 m593 ls (lv_sub hl [0, 1, 2, 3, 4] rfl)
            exact key724 (60 - 0) 0 (by omega) (Nat.le_refl _) (-1) (rg_t (a := (-1)) (by decide) (by first | decide | omega) (by first | decide | omega)) _ _ hT hF hS m10 m11 ls (lv_sub hl [0, 1, 2, 3] rfl)
          · have t858 : ((i9 : Nat) : Int) < x6.toInt := ti_nle c587 rfl (nI_toInt (by omega))
            refine lv_aload_n hx hb dX12_arrears_29 rfl (lv_at hl 1 rfl) ?_
            refine tw_get hx hb hts bF_X12 hown hK hT hr_o0 shm_0 rfl 51 (by decide) (ht_at hts 2 rfl) (fun _ h9 => h9) dX12_arrears_30 (fun v9 m859 h9 => ?_)
            obtain ⟨rfl, hg860⟩ := h9 _ rfl
            refine lv_iload_n hx hb dX12_arrears_33 rfl (lv_at hl 0 rfl) ?_
            refine lv_aload_n hx hb dX12_arrears_34 rfl (lv_at hl 1 rfl) ?_
            refine tw_get hx hb hts bF_X12 hown hK hT hr_o0 shm_0 rfl 38 (by decide) (ht_at hts 4 rfl) (fun _ h9 => h9) dX12_arrears_35 (fun v9 m861 h9 => ?_)
            obtain ⟨rfl, hg862⟩ := h9 _ rfl
            refine lv_iload_n hx hb dX12_arrears_38 rfl (lv_at hl 0 rfl) ?_
            refine tw_iald (i := (nI i9)) hx hb hK hT hg862 shm_39 rfl (vp_in_nI (by omega) (by decide)) dX12_arrears_39 (fun v9 m863 h9 => ?_)
            obtain ⟨x864, rfl, gx864, kx864⟩ := h9
            refine lv_if_lt (tgt := 56) hx hb dX12_arrears_40 (by decide) (fun c865 => ?_) (fun c865 => ?_)
            · have t866 : x864.toInt < 0 := ti_lt c865 rfl (by decide)
              refine lv_iconst (v := 0) hx hb dX12_arrears_56 (by decide) ?_
              refine tw_zast (i := (nI i9)) (x := 0) hx hb hK hT hG hS hg860 shm_52 rfl (vp_in_nI (by omega) (by decide)) (gi_z (rg_t (a := 0) (by decide) (by first | decide | omega) (by first | decide | omega)) (by decide) (by decide)) dX12_arrears_57 (fun H locs hT oq m867 oi hS => ?_)
              have hF := hF.ast hg860 skm_52 oq (by decide)
              have m868 := (el_kept (oq _ (gne hr_o0 hg860 (by decide)))).trans m10
              have m869 := (el_kept (oq _ (gne hr_o0 hg860 (by decide)))).trans m11
              refine lv_iinc (v := nI (i9 + 1)) (lv' := [(2, .int (nI (i9 + 1))), (0, .ref o0), (1, .int p0)]) hx hb dX12_arrears_58 hl (k := 0) rfl (nI_add i9 1) (by decide) rfl (fun ls hl => ?_)
              refine lv_goto (tgt := 21) hx hb dX12_arrears_61 (by decide) ?_
              exact ih314 (i9 + 1) (by omega) (by omega) _ _ hT hF hS m868 m869 ls (lv_sub hl [0, 1, 2] rfl)
            · have t871 : 0 ≤ x864.toInt := ti_nlt c865 rfl (by decide)
              refine lv_aload_n hx hb dX12_arrears_43 rfl (lv_at hl 1 rfl) ?_
              refine tw_get hx hb hts bF_X12 hown hK hT hr_o0 shm_0 rfl 40 (by decide) (ht_at hts 3 rfl) (fun _ h9 => h9) dX12_arrears_44 (fun v9 m872 h9 => ?_)
              obtain ⟨rfl, hg873⟩ := h9 _ rfl
              refine lv_iload_n hx hb dX12_arrears_47 rfl (lv_at hl 0 rfl) ?_
              refine tw_iald (i := (nI i9)) hx hb hK hT hg873 shm_41 rfl (vp_in_nI (by omega) (by decide)) dX12_arrears_48 (fun v9 m874 h9 => ?_)
              obtain ⟨x875, rfl, gx875, kx875⟩ := h9
              refine lv_if_le (tgt := 56) hx hb dX12_arrears_49 (by decide) (fun c876 => ?_) (fun c876 => ?_)
              · have t877 : x875.toInt ≤ 0 := ti_le c876 rfl (by decide)
                refine lv_iconst (v := 0) hx hb dX12_arrears_56 (by decide) ?_
                refine tw_zast (i := (nI i9)) (x := 0) hx hb hK hT hG hS hg860 shm_52 rfl (vp_in_nI (by omega) (by decide)) (gi_z (rg_t (a := 0) (by decide) (by first | decide | omega) (by first | decide | omega)) (by decide) (by decide)) dX12_arrears_57 (fun H locs hT oq m878 oi hS => ?_)
                have hF := hF.ast hg860 skm_52 oq (by decide)
                have m879 := (el_kept (oq _ (gne hr_o0 hg860 (by decide)))).trans m10
                have m880 := (el_kept (oq _ (gne hr_o0 hg860 (by decide)))).trans m11
                refine lv_iinc (v := nI (i9 + 1)) (lv' := [(2, .int (nI (i9 + 1))), (0, .ref o0), (1, .int p0)]) hx hb dX12_arrears_58 hl (k := 0) rfl (nI_add i9 1) (by decide) rfl (fun ls hl => ?_)
                refine lv_goto (tgt := 21) hx hb dX12_arrears_61 (by decide) ?_
                exact ih314 (i9 + 1) (by omega) (by omega) _ _ hT hF hS m879 m880 ls (lv_sub hl [0, 1, 2] rfl)
              · have t883 : 0 < x875.toInt := ti_nle c876 rfl (by decide)
                refine lv_iconst (v := 1) hx hb dX12_arrears_52 (by decide) ?_
                refine lv_goto (tgt := 57) hx hb dX12_arrears_53 (by decide) ?_
                refine tw_zast (i := (nI i9)) (x := 1) hx hb hK hT hG hS hg860 shm_52 rfl (vp_in_nI (by omega) (by decide)) (gi_z (rg_t (a := 1) (by decide) (by first | decide | omega) (by first | decide | omega)) (by decide) (by decide)) dX12_arrears_57 (fun H locs hT oq m884 oi hS => ?_)
                have hF := hF.ast hg860 skm_52 oq (by decide)
                have m885 := (el_kept (oq _ (gne hr_o0 hg860 (by decide)))).trans m10
                have m886 := (el_kept (oq _ (gne hr_o0 hg860 (by decide)))).trans m11
                refine lv_iinc (v := nI (i9 + 1)) (lv' := [(2, .int (nI (i9 + 1))), (0, .ref o0), (1, .int p0)]) hx hb dX12_arrears_58 hl (k := 0) rfl (nI_add i9 1) (by decide) rfl (fun ls hl => ?_)
                refine lv_goto (tgt := 21) hx hb dX12_arrears_61 (by decide) ?_
                exact ih314 (i9 + 1) (by omega) (by omega) _ _ hT hF hS m885 m886 ls (lv_sub hl [0, 1, 2] rfl)
      exact key314 (60 - 0) 0 (by omega) (Nat.le_refl _) _ _ hT hF hS m1 m5 ls (lv_sub hl [0, 1, 2] rfl)
    · have t889 : x6.toInt ≤ p0.toInt := ti_nlt c7 rfl rfl
      refine lv_iconst (v := (-1)) hx hb dX12_arrears_17 (by decide) ?_
      exact W.iret (v := (-1)) hx hb hr (fun t ht hW => ⟨⟨(-1), (), rfl, (by exact (rg_t (a := (-1)) (by decide) (by first | decide | omega) (by first | decide | omega))), by (try dsimp only); rw [ht]; exact ⟨hT, hF⟩⟩, hS.F ht⟩) hS.2.2 dX12_arrears_18
