def w_s_fill : List Cond := .code yX12_fill cX12_fill 4 (some .boolean) :: (HAppend.hAppend (α := List Cond) (β := List Cond) (γ := List Cond) [.fieldLink RX12 194 "SeaLandModel" "thrown" "I", .code yX12_noSquare cX12_noSquare 1 (some .boolean), .code yX12_in cX12_in 3 (some .boolean), .methodLink RX12 197 yX12_in, .static yX12_in, .initialized RX12, .methodLink RX12 220 yX12_noSquare, .static yX12_noSquare, .code yX12_throwsIf cX12_throwsIf 3 (some .boolean), .methodLink RX12 224 yX12_throwsIf, .instanceMethod yX12_throwsIf, .selects RX12 yX12_throwsIf yX12_throwsIf, .constant RX12 241 100000, .code yX12_isLand cX12_isLand 2 (some .boolean), .fieldLink RX12 9 "SeaLandModel" "world" "[I", .methodLink RX12 235 yX12_isLand, .instanceMethod yX12_isLand, .selects RX12 yX12_isLand yX12_isLand, .fieldLink RX12 238 "SeaLandModel" "rows" "I"] bs)
set_option maxHeartbeats 4000000 in
set_option maxRecDepth 100000 in
theorem s_fill (l : Launch) (dC : Nat → ClassId) (dI : Nat → Nat → Nat) (kA : Nat → ClassId) (adK adV : Nat → Nat) (G : gT) (H0 : Heap) (q : Nat → Nat) (wZ wN : Nat → Int) (wH wB wC : Int) (wL wK : Nat → Prop) (wU wV : Nat → Nat) (PI : Nat → Int → Prop) (im : Int) (PM PT : Nat → Int → Prop) (lS lB lE : Nat → Nat → Int → Prop) (lN : Nat → Int) (o0 : Nat) (p0 : Int32) (p1 : Int32) (p2 : Int32)  (hT : gH (dC, dI) kA (SHm q (wP wZ0 wN wH wB wC wL wK wU wV) PI im PM PT lS lB lE lN) G H0) (hr_o0 : G o0 = some 0) (hgz : ∀ i, 0 ≤ wZ i) (hgn : ∀ i, 6500000 ≤ wN i ∧ wN i ≤ 20200000) (hgh : 0 ≤ wH ∧ wH ≤ 40000) (hgb : 0 ≤ wB ∧ wB ≤ 3850000) (hgc : 0 ≤ wC ∧ wC ≤ 30) (hgi : 0 ≤ im ∧ im ≤ 1) (hgu : ∀ a t, G a = some (t + 1) → a = q t) : Met l yX12_fill w_s_fill ({ frames := 2, cells := 0, slots := 0, locals := 42 }) (va_Pc [.ref o0, .int p0, .int p1, .int p2] (fun U => U.heap = H0 ∧ va_K (dC, dI) vwCl (tyl kA) U ∧ EVS adK adV (gA G H0.size) U U.heap)) (va_Qi (fun (r : Int32) (u : Unit) => (0 ≤ r.toInt ∧ r.toInt ≤ 1)) (fun (_ : Unit) (t : State) => gH (dC, dI) kA (SHm q (wP wZ0 wN wH wB wC wL wK wU wV) PI im PM PT lS lB lE lN) G t.heap ∧ gF (dC, dI) SKm G ([(0, 0), (0, 9), (2, 0)] : List (Nat × Nat)) H0 t.heap) (gA G H0.size)) 0 0 (gA G H0.size) := by
  refine Met.ofW (cc := cX12_fill) (maxL := 4) (ret := (some .boolean)) (by decide) rfl ?_
  intro p e s m args below meth c s₁ B hml hv
  obtain ⟨rfl, hH0, hK, hE⟩ := hv
  have hx := B.exec
  have hb := B.bytes
  have hr := B.returns
  have hts := atoms_spec (ws := w_s_fill) B.pre
  have hown : s.vm.findClass RX12 = some m.cls := findClass_of_methodNamed B.named
  have hlocks := B.notSynchronized
  subst hH0
  generalize hAe : gA G s.heap.size = A at hE ⊢
  have hA : ∀ q : Nat, s.heap.size ≤ q → A q := fun q h => by rw [← hAe]; exact Or.inr h
  have hG := gA_of hAe
  have hS : va_S A s.heap s.heap [] := va_S.rf
  have hF : gF (dC, dI) SKm G ([(0, 0), (0, 9), (2, 0)] : List (Nat × Nat)) s.heap s.heap := gF.rf
  have hl := lv_entry ([.ref o0, .int p0, .int p1, .int p2]) (n := 4) (Nat.le_of_ble_eq_true rfl)
  rw [lg_entry_eq]
  generalize (lg_sl ([.ref o0, .int p0, .int p1, .int p2]) ++ List.replicate (4 - (lg_sl ([.ref o0, .int p0, .int p1, .int p2])).length) Slot.unset).toArray = ls at hl ⊢
  have hl : lv_has ls 4 [(0, .ref o0), (1, .int p0), (2, .int p1), (3, .int p2)] := hl
  refine lv_aload_n hx hb dX12_fill_0 rfl (lv_at hl 0 rfl) ?_
  refine lv_iconst (v := 0) hx hb dX12_fill_1 (by decide) ?_
  refine tw_put (v := .int 0) (ty := .int) hx hb hts bF_X12 tyX12 tyX12_ok nmX12 hown hK hT hG hS hr_o0 shm_0 rfl 0 (by decide) (ht_at hts 0 rfl) (fun _ h9 => h9) rfl (by decide +kernel) rfl rfl (gl_at rfl (gi_all _)) dX12_fill_2 (fun H locs hT oq m1 oj hS => ?_)
  have hF := hF.put hr_o0 skm_0 oq oj (by decide)
  refine lv_aload_n hx hb dX12_fill_5 rfl (lv_at hl 0 rfl) ?_
  refine lv_iload_n hx hb dX12_fill_6 rfl (lv_at hl 1 rfl) ?_
  have hFc := gA_free hG hA hS
  refine va_calli (va_runS (As := [.int p0]) (rest := [.ref o0]) ⟨hx, hb, hml, hown, hts⟩ (s_noSquare l dC dI kA adK adV G H q wZ0 wN wH wB wC wL wK wU wV PI im PM PT lS lB lE lN p0 hT (fun _ => Int.le_refl 0) hgn hgh hgb hgc hgi hgu) (va_cwS 1 hts (goodIn_app (goodIn_r _ [7, 8, 6] rfl (by decide +kernel)) (goodIn_ca (goodIn_r _ [2, 3, 4, 5, 6] rfl (by decide +kernel)) (bs_in _ _))) rfl rfl rfl (by decide +kernel) ⟨(Nat.le_of_ble_eq_true rfl), (Nat.le_of_ble_eq_true rfl)⟩) ⟨fun a U g mk q => by obtain ⟨q0, q1, qK, qE⟩ := q; exact ⟨q0, q1, va_K.moved (u := U) (U := U.calling g mk a) (Vm.Alike.refl U.vm) qK, EVS.blind g mk a qE⟩, fun U hU hW => ⟨rfl, hU, va_K.moved hW.alike hK, hE.call hS hFc hU hW⟩⟩ rfl rfl hl.1 rfl (lv_room (Nat.le_of_ble_eq_true rfl)) dX12_fill_7 ⟨(Nat.le_of_ble_eq_true rfl), (Nat.le_of_ble_eq_true rfl)⟩) hS (fun q _ h => hFc q h) hFc (fun r2 u t H locs ht hvm hw3 hB _ _ hS => ?_)
  obtain ⟨hT, hF1⟩ := hB
  rw [ht] at hT hF1
  have hF := hF.more hF1 (by decide)
  try dsimp only at hw3
  obtain ⟨h5, hi6⟩ := hw3
  refine lv_iconst (v := 1) hx hb dX12_fill_10 (by decide) ?_
  have hFc := gA_free hG hA hS
  refine va_calli (va_runV (As := [.int r2, .int 1]) (rest := []) ⟨hx, hb, hml, hown, hts⟩ (s_throwsIf l dC dI kA adK adV G H q wZ0 wN wH wB wC wL wK wU wV PI im PM PT lS lB lE lN o0 r2 1 hT hr_o0 (by have q8 := ti_all r2; omega) (fun _ => Int.le_refl 0) hgn hgh hgb hgc hgi hgu) (cwV 2 hts (goodIn_app (goodIn_r _ [10, 11, 12, 6] rfl (by decide +kernel)) (goodIn_ca (goodIn_r _ [9, 1] rfl (by decide +kernel)) (bs_in _ _))) rfl rfl rfl (by decide +kernel) ⟨(Nat.le_of_ble_eq_true rfl), (Nat.le_of_ble_eq_true rfl)⟩) ⟨fun a U g mk q => by obtain ⟨q0, q1, qK, qE⟩ := q; exact ⟨q0, q1, va_K.moved (u := U) (U := U.calling g mk a) (Vm.Alike.refl U.vm) qK, EVS.blind g mk a qE⟩, gH_rc hK hT hr_o0 shm_0 rfl, fun U hU hW => ⟨rfl, hU, va_K.moved hW.alike hK, hE.call hS hFc hU hW⟩⟩ rfl rfl hl.1 rfl (lv_room (Nat.le_of_ble_eq_true rfl)) dX12_fill_11 ⟨(Nat.le_of_ble_eq_true rfl), (Nat.le_of_ble_eq_true rfl)⟩) hS (fun q _ h => hFc q h) hFc (fun r7 u t H locs ht hvm hw8 hB _ _ hS => ?_)
  obtain ⟨hT, hF1⟩ := hB
  rw [ht] at hT hF1
  have hF := hF.more hF1 (by decide)
  try dsimp only at hw8
  obtain ⟨h10, hd11⟩ := hw8
  obtain rfl : r2 = r7 := hd11.symm
  refine lv_if_ne (tgt := 59) hx hb dX12_fill_14 (by decide) (fun c12 => ?_) (fun c12 => ?_)
  · have t13 : r2.toInt ≠ 0 := ti_ne c12 rfl (by decide)
    refine lv_iconst (v := 0) hx hb dX12_fill_59 (by decide) ?_
    exact W.zret (v := 0) hx hb hr (by decide) (fun t ht hW => ⟨⟨0, (), rfl, (by exact (rg_t (a := 0) (by decide) (by first | decide | omega) (by first | decide | omega))), by (try dsimp only); rw [ht]; exact ⟨hT, hF⟩⟩, hS.F ht⟩) hS.2.2 dX12_fill_60
  · have t14 : r2.toInt = 0 := ti_eq c12 rfl (by decide)
    have t15 : 0 ≤ p0.toInt ∧ p0.toInt ≤ 95 := hi6 c12
    refine lv_aload_n hx hb dX12_fill_17 rfl (lv_at hl 0 rfl) ?_
    refine lv_iload_n hx hb dX12_fill_18 rfl (lv_at hl 2 rfl) ?_
    refine lv_iconst (v := 0) hx hb dX12_fill_19 (by decide) ?_
    refine lv_sipush (v := 900) hx hb dX12_fill_20 (by decide) ?_
    have hFc := gA_free hG hA hS
    refine va_calli (va_runS (As := [.int p1, .int 0, .int 900]) (rest := [.ref o0]) ⟨hx, hb, hml, hown, hts⟩ (s_in l dC dI kA adK adV G H q wZ0 wN wH wB wC wL wK wU wV PI im PM PT lS lB lE lN p1 0 900 hT (fun _ => Int.le_refl 0) hgn hgh hgb hgc hgi hgu) (va_cwS 3 hts (goodIn_app (goodIn_r _ [4, 5, 6] rfl (by decide +kernel)) (goodIn_ca (goodIn_r _ [3] rfl (by decide +kernel)) (bs_in _ _))) rfl rfl rfl (by decide +kernel) ⟨(Nat.le_of_ble_eq_true rfl), (Nat.le_of_ble_eq_true rfl)⟩) ⟨fun a U g mk q => by obtain ⟨q0, q1, qK, qE⟩ := q; exact ⟨q0, q1, va_K.moved (u := U) (U := U.calling g mk a) (Vm.Alike.refl U.vm) qK, EVS.blind g mk a qE⟩, fun U hU hW => ⟨rfl, hU, va_K.moved hW.alike hK, hE.call hS hFc hU hW⟩⟩ rfl rfl hl.1 rfl (lv_room (Nat.le_of_ble_eq_true rfl)) dX12_fill_23 ⟨(Nat.le_of_ble_eq_true rfl), (Nat.le_of_ble_eq_true rfl)⟩) hS (fun q _ h => hFc q h) hFc (fun r16 u t H locs ht hvm hw17 hB _ _ hS => ?_)
    obtain ⟨hT, hF1⟩ := hB
    rw [ht] at hT hF1
    have hF := hF.more hF1 (by decide)
    try dsimp only at hw17
    obtain ⟨h18, hi19, hi20⟩ := hw17
    refine lv_if_eq (tgt := 39) hx hb dX12_fill_26 (by decide) (fun c21 => ?_) (fun c21 => ?_)
    · have t22 : r16.toInt = 0 := ti_eq c21 rfl (by decide)
      have t23 : (0 : Int32).toInt = 0 := by decide
      have t24 : (900 : Int32).toInt = 900 := by decide
      have t25 : p1.toInt < (0 : Int32).toInt ∨ (900 : Int32).toInt < p1.toInt := hi20 c21
      refine lv_iconst (v := 1) hx hb dX12_fill_39 (by decide) ?_
      refine lv_goto (tgt := 44) hx hb dX12_fill_40 (by decide) ?_
      refine lv_iconst (v := 2) hx hb dX12_fill_44 (by decide) ?_
      have hFc := gA_free hG hA hS
      refine va_calli (va_runV (As := [.int 1, .int 2]) (rest := []) ⟨hx, hb, hml, hown, hts⟩ (s_throwsIf l dC dI kA adK adV G H q wZ0 wN wH wB wC wL wK wU wV PI im PM PT lS lB lE lN o0 1 2 hT hr_o0 (rg_t (a := 1) (by decide) (by first | decide | omega) (by first | decide | omega)) (fun _ => Int.le_refl 0) hgn hgh hgb hgc hgi hgu) (cwV 2 hts (goodIn_app (goodIn_r _ [10, 11, 12, 6] rfl (by decide +kernel)) (goodIn_ca (goodIn_r _ [9, 1] rfl (by decide +kernel)) (bs_in _ _))) rfl rfl rfl (by decide +kernel) ⟨(Nat.le_of_ble_eq_true rfl), (Nat.le_of_ble_eq_true rfl)⟩) ⟨fun a U g mk q => by obtain ⟨q0, q1, qK, qE⟩ := q; exact ⟨q0, q1, va_K.moved (u := U) (U := U.calling g mk a) (Vm.Alike.refl U.vm) qK, EVS.blind g mk a qE⟩, gH_rc hK hT hr_o0 shm_0 rfl, fun U hU hW => ⟨rfl, hU, va_K.moved hW.alike hK, hE.call hS hFc hU hW⟩⟩ rfl rfl hl.1 rfl (lv_room (Nat.le_of_ble_eq_true rfl)) dX12_fill_45 ⟨(Nat.le_of_ble_eq_true rfl), (Nat.le_of_ble_eq_true rfl)⟩) hS (fun q _ h => hFc q h) hFc (fun r26 u t H locs ht hvm hw27 hB _ _ hS => ?_)
      obtain ⟨hT, hF1⟩ := hB
      rw [ht] at hT hF1
      have hF := hF.more hF1 (by decide)
      try dsimp only at hw27
      obtain ⟨h28, hd29⟩ := hw27
      obtain rfl : (1 : Int32) = r26 := hd29.symm
      refine lv_if_ne (tgt := 59) hx hb dX12_fill_48 (by decide) (fun c30 => ?_) (fun c30 => absurd c30 (by decide))
      refine lv_iconst (v := 0) hx hb dX12_fill_59 (by decide) ?_
      exact W.zret (v := 0) hx hb hr (by decide) (fun t ht hW => ⟨⟨0, (), rfl, (by exact (rg_t (a := 0) (by decide) (by first | decide | omega) (by first | decide | omega))), by (try dsimp only); rw [ht]; exact ⟨hT, hF⟩⟩, hS.F ht⟩) hS.2.2 dX12_fill_60
    · have t31 : r16.toInt ≠ 0 := ti_ne c21 rfl (by decide)
      have t32 : (0 : Int32).toInt = 0 := by decide
      have t33 : (900 : Int32).toInt = 900 := by decide
      have t34 : (0 : Int32).toInt ≤ p1.toInt ∧ p1.toInt ≤ (900 : Int32).toInt := hi19 ((bit_of ⟨by omega, by omega⟩).resolve_left c21)
      refine lv_iload_n hx hb dX12_fill_29 rfl (lv_at hl 3 rfl) ?_
      refine lv_iconst (v := 0) hx hb dX12_fill_30 (by decide) ?_
      refine lv_ldc (v := 100000) hx hb hown (ht_at hts 12 rfl) dX12_fill_31 ?_
      have hFc := gA_free hG hA hS
      refine va_calli (va_runS (As := [.int p2, .int 0, .int 100000]) (rest := [.ref o0]) ⟨hx, hb, hml, hown, hts⟩ (s_in l dC dI kA adK adV G H q wZ0 wN wH wB wC wL wK wU wV PI im PM PT lS lB lE lN p2 0 100000 hT (fun _ => Int.le_refl 0) hgn hgh hgb hgc hgi hgu) (va_cwS 3 hts (goodIn_app (goodIn_r _ [4, 5, 6] rfl (by decide +kernel)) (goodIn_ca (goodIn_r _ [3] rfl (by decide +kernel)) (bs_in _ _))) rfl rfl rfl (by decide +kernel) ⟨(Nat.le_of_ble_eq_true rfl), (Nat.le_of_ble_eq_true rfl)⟩) ⟨fun a U g mk q => by obtain ⟨q0, q1, qK, qE⟩ := q; exact ⟨q0, q1, va_K.moved (u := U) (U := U.calling g mk a) (Vm.Alike.refl U.vm) qK, EVS.blind g mk a qE⟩, fun U hU hW => ⟨rfl, hU, va_K.moved hW.alike hK, hE.call hS hFc hU hW⟩⟩ rfl rfl hl.1 rfl (lv_room (Nat.le_of_ble_eq_true rfl)) dX12_fill_33 ⟨(Nat.le_of_ble_eq_true rfl), (Nat.le_of_ble_eq_true rfl)⟩) hS (fun q _ h => hFc q h) hFc (fun r35 u t H locs ht hvm hw36 hB _ _ hS => ?_)
      obtain ⟨hT, hF1⟩ := hB
      rw [ht] at hT hF1
      have hF := hF.more hF1 (by decide)
      try dsimp only at hw36
      obtain ⟨h37, hi38, hi39⟩ := hw36
      refine lv_if_ne (tgt := 43) hx hb dX12_fill_36 (by decide) (fun c40 => ?_) (fun c40 => ?_)
      · have t41 : r35.toInt ≠ 0 := ti_ne c40 rfl (by decide)
        have t42 : (0 : Int32).toInt = 0 := by decide
        have t43 : (100000 : Int32).toInt = 100000 := by decide
        have t44 : (0 : Int32).toInt ≤ p2.toInt ∧ p2.toInt ≤ (100000 : Int32).toInt := hi38 ((bit_of ⟨by omega, by omega⟩).resolve_left c40)
        refine lv_iconst (v := 0) hx hb dX12_fill_43 (by decide) ?_
        refine lv_iconst (v := 2) hx hb dX12_fill_44 (by decide) ?_
        have hFc := gA_free hG hA hS
        refine va_calli (va_runV (As := [.int 0, .int 2]) (rest := []) ⟨hx, hb, hml, hown, hts⟩ (s_throwsIf l dC dI kA adK adV G H q wZ0 wN wH wB wC wL wK wU wV PI im PM PT lS lB lE lN o0 0 2 hT hr_o0 (rg_t (a := 0) (by decide) (by first | decide | omega) (by first | decide | omega)) (fun _ => Int.le_refl 0) hgn hgh hgb hgc hgi hgu) (cwV 2 hts (goodIn_app (goodIn_r _ [10, 11, 12, 6] rfl (by decide +kernel)) (goodIn_ca (goodIn_r _ [9, 1] rfl (by decide +kernel)) (bs_in _ _))) rfl rfl rfl (by decide +kernel) ⟨(Nat.le_of_ble_eq_true rfl), (Nat.le_of_ble_eq_true rfl)⟩) ⟨fun a U g mk q => by obtain ⟨q0, q1, qK, qE⟩ := q; exact ⟨q0, q1, va_K.moved (u := U) (U := U.calling g mk a) (Vm.Alike.refl U.vm) qK, EVS.blind g mk a qE⟩, gH_rc hK hT hr_o0 shm_0 rfl, fun U hU hW => ⟨rfl, hU, va_K.moved hW.alike hK, hE.call hS hFc hU hW⟩⟩ rfl rfl hl.1 rfl (lv_room (Nat.le_of_ble_eq_true rfl)) dX12_fill_45 ⟨(Nat.le_of_ble_eq_true rfl), (Nat.le_of_ble_eq_true rfl)⟩) hS (fun q _ h => hFc q h) hFc (fun r45 u t H locs ht hvm hw46 hB _ _ hS => ?_)
        obtain ⟨hT, hF1⟩ := hB
        rw [ht] at hT hF1
        have hF := hF.more hF1 (by decide)
        try dsimp only at hw46
        obtain ⟨h47, hd48⟩ := hw46
        obtain rfl : (0 : Int32) = r45 := hd48.symm
        refine lv_if_ne (tgt := 59) hx hb dX12_fill_48 (by decide) (fun c49 => absurd c49 (by decide)) (fun c49 => ?_)
        refine lv_aload_n hx hb dX12_fill_51 rfl (lv_at hl 0 rfl) ?_
        refine lv_iload_n hx hb dX12_fill_52 rfl (lv_at hl 1 rfl) ?_
        have hFc := gA_free hG hA hS
        refine va_calli (va_runV (As := [.int p0]) (rest := []) ⟨hx, hb, hml, hown, hts⟩ (s_isLand l dC dI kA adK adV G H q wZ0 wN wH wB wC wL wK wU wV PI im PM PT lS lB lE lN o0 p0 hT hr_o0 (by have q8 := ti_all p0; omega) (fun _ => Int.le_refl 0) hgn hgh hgb hgc hgi hgu) (cwV 1 hts (goodIn_app (goodIn_r _ [16, 17, 18, 6] rfl (by decide +kernel)) (goodIn_ca (goodIn_r _ [14, 15] rfl (by decide +kernel)) (bs_in _ _))) rfl rfl rfl (by decide +kernel) ⟨(Nat.le_of_ble_eq_true rfl), (Nat.le_of_ble_eq_true rfl)⟩) ⟨fun a U g mk q => by obtain ⟨q0, q1, qK, qE⟩ := q; exact ⟨q0, q1, va_K.moved (u := U) (U := U.calling g mk a) (Vm.Alike.refl U.vm) qK, EVS.blind g mk a qE⟩, gH_rc hK hT hr_o0 shm_0 rfl, fun U hU hW => ⟨rfl, hU, va_K.moved hW.alike hK, hE.call hS hFc hU hW⟩⟩ rfl rfl hl.1 rfl (lv_room (Nat.le_of_ble_eq_true rfl)) dX12_fill_53 ⟨(Nat.le_of_ble_eq_true rfl), (Nat.le_of_ble_eq_true rfl)⟩) hS (fun q _ h => hFc q h) hFc (fun r50 u t H locs ht hvm hw51 hB _ _ hS => ?_)
        obtain ⟨hT, hF1⟩ := hB
        rw [ht] at hT hF1
        have hF := hF.more hF1 (by decide)
        try dsimp only at hw51
        obtain ⟨h52, hi53, hi54⟩ := hw51
        refine lv_if_ne (tgt := 61) hx hb dX12_fill_56 (by decide) (fun c55 => ?_) (fun c55 => ?_)
        · have t56 : r50.toInt ≠ 0 := ti_ne c55 rfl (by decide)
          have t57 : wL p0.toNatClampNeg := hi53 ((bit_of ⟨by omega, by omega⟩).resolve_left c55)
          refine lv_aload_n hx hb dX12_fill_61 rfl (lv_at hl 0 rfl) ?_
          refine tw_get hx hb hts bF_X12 hown hK hT hr_o0 shm_0 rfl 1 (by decide) (ht_at hts 14 rfl) (fun _ h9 => h9) dX12_fill_62 (fun v9 m58 h9 => ?_)
          obtain ⟨rfl, hg59⟩ := h9 _ rfl
          refine lv_sipush (v := 1748) hx hb dX12_fill_65 (by decide) ?_
          refine lv_dup2_11 hx hb dX12_fill_68 rfl rfl ?_
          refine tw_iald (i := 1748) hx hb hK hT hg59 shm_2 rfl (by unfold vp_in; decide) dX12_fill_69 (fun v9 m60 h9 => ?_)
          obtain ⟨x61, rfl, gx61, kx61⟩ := (gp_at h9 (w_fre (by have q9 := tn_of (show (1748 : Int32).toInt = 1748 from (by decide)) (show (0 : Int) ≤ 1748 from by omega); omega)))
          refine lv_iload_n hx hb dX12_fill_70 rfl (lv_at hl 2 rfl) ?_
          refine lv_aload_n hx hb dX12_fill_71 rfl (lv_at hl 0 rfl) ?_
          refine tw_get hx hb hts bF_X12 hown hK hT hr_o0 shm_0 rfl 1 (by decide) (ht_at hts 14 rfl) (fun _ h9 => h9) dX12_fill_72 (fun v9 m62 h9 => ?_)
          obtain ⟨rfl, hg63⟩ := h9 _ rfl
          refine lv_sipush (v := 384) hx hb dX12_fill_75 (by decide) ?_
          refine lv_iload_n hx hb dX12_fill_78 rfl (lv_at hl 1 rfl) ?_
          refine lv_iadd hx hb dX12_fill_79 ?_
          refine lv_topi (fun x64 ex64 => ?_)
          have t65 : x64.toInt = 384 + p0.toInt := ti_add ex64 (by decide) rfl (by omega) (by omega)
          refine tw_iald (i := x64) hx hb hK hT hg59 shm_2 rfl (vin_t (a := x64.toInt) rfl (by omega) (by omega)) dX12_fill_80 (fun v9 m66 h9 => ?_)
          obtain ⟨x67, rfl, gx67, kx67⟩ := (gw_at h9 (w_wat (by have q9 := tn_of (show x64.toInt = x64.toInt from rfl) (show (0 : Int) ≤ x64.toInt from by omega); omega)) hgn (fun _ => Int.le_refl 0))
          refine lv_isub hx hb dX12_fill_81 ?_
          refine lv_topi (fun x68 ex68 => ?_)
          have t69 : x68.toInt = p1.toInt - x67.toInt := ti_sub ex68 rfl rfl (by omega) (by omega)
          refine lv_iadd hx hb dX12_fill_82 ?_
          refine lv_topi (fun x70 ex70 => ?_)
          refine tw_iast (i := 1748) (x := x70) hx hb hK hT hG hS hg59 shm_2 rfl (by unfold vp_in; decide) (gp_of (gi_all _) (w_fre (by have q9 := tn_of (show (1748 : Int32).toInt = 1748 from (by decide)) (show (0 : Int) ≤ 1748 from by omega); omega)) (wX_o (by have q9 := tn_of (show (1748 : Int32).toInt = 1748 from (by decide)) (show (0 : Int) ≤ 1748 from by omega); omega) (by omega))) dX12_fill_83 (fun H locs hT oq m71 oi hS => ?_)
          have hF := hF.ast hg59 skm_2 oq (by decide)
          refine lv_aload_n hx hb dX12_fill_84 rfl (lv_at hl 0 rfl) ?_
          refine tw_get hx hb hts bF_X12 hown hK hT hr_o0 shm_0 rfl 1 (by decide) (ht_at hts 14 rfl) (fun _ h9 => h9) dX12_fill_85 (fun v9 m73 h9 => ?_)
          obtain ⟨rfl, hg74⟩ := h9 _ rfl
          refine lv_sipush (v := 384) hx hb dX12_fill_88 (by decide) ?_
          refine lv_iload_n hx hb dX12_fill_91 rfl (lv_at hl 1 rfl) ?_
          refine lv_iadd hx hb dX12_fill_92 ?_
          refine lv_topi (fun x75 ex75 => ?_)
          have t76 : x75.toInt = 384 + p0.toInt := ti_add ex75 (by decide) rfl (by omega) (by omega)
          refine lv_iload_n hx hb dX12_fill_93 rfl (lv_at hl 2 rfl) ?_
          have t77 : 6500000 ≤ wN x75.toNatClampNeg ∧ wN x75.toNatClampNeg ≤ 20200000 := hgn _
          have t78 : wN x64.toNatClampNeg = wN x75.toNatClampNeg := congrArg _ (tn_same (show x64.toInt = x64.toInt from rfl) (show x75.toInt = x75.toInt from rfl) (by omega))
          refine tw_iast (i := x75) (x := p1) hx hb hK hT hG hS hg59 shm_2 rfl (vin_t (a := x75.toInt) rfl (by omega) (by omega)) (gp_of (gi_of (show p1.toInt = p1.toInt from rfl) (by omega) (by omega)) (w_wat0 (by have q9 := tn_of (show x75.toInt = x75.toInt from rfl) (show (0 : Int) ≤ x75.toInt from by omega); omega)) (wX_o (by have q9 := tn_of (show x75.toInt = x75.toInt from rfl) (show (0 : Int) ≤ x75.toInt from by omega); omega) (by omega))) dX12_fill_94 (fun H locs hT oq m79 oi hS => ?_)
          have hF := hF.ast hg59 skm_2 oq (by decide)
          refine lv_aload_n hx hb dX12_fill_95 rfl (lv_at hl 0 rfl) ?_
          refine tw_get hx hb hts bF_X12 hown hK hT hr_o0 shm_0 rfl 1 (by decide) (ht_at hts 14 rfl) (fun _ h9 => h9) dX12_fill_96 (fun v9 m81 h9 => ?_)
          obtain ⟨rfl, hg82⟩ := h9 _ rfl
          refine lv_sipush (v := 480) hx hb dX12_fill_99 (by decide) ?_
          refine lv_iload_n hx hb dX12_fill_102 rfl (lv_at hl 1 rfl) ?_
          refine lv_iadd hx hb dX12_fill_103 ?_
          refine lv_topi (fun x83 ex83 => ?_)
          have t84 : x83.toInt = 480 + p0.toInt := ti_add ex83 (by decide) rfl (by omega) (by omega)
          refine lv_iload_n hx hb dX12_fill_104 rfl (lv_at hl 3 rfl) ?_
          refine tw_iast (i := x83) (x := p2) hx hb hK hT hG hS hg59 shm_2 rfl (vin_t (a := x83.toInt) rfl (by omega) (by omega)) (gp_of (gi_all _) (w_fre (by have q9 := tn_of (show x83.toInt = x83.toInt from rfl) (show (0 : Int) ≤ x83.toInt from by omega); omega)) (wX_o (by have q9 := tn_of (show x83.toInt = x83.toInt from rfl) (show (0 : Int) ≤ x83.toInt from by omega); omega) (by omega))) dX12_fill_105 (fun H locs hT oq m85 oi hS => ?_)
          have hF := hF.ast hg59 skm_2 oq (by decide)
          refine lv_aload_n hx hb dX12_fill_106 rfl (lv_at hl 0 rfl) ?_
          refine lv_iconst (v := 0) hx hb dX12_fill_107 (by decide) ?_
          refine tw_put (v := .int 0) (ty := .int) hx hb hts bF_X12 tyX12 tyX12_ok nmX12 hown hK hT hG hS hr_o0 shm_0 rfl 9 (by decide) (ht_at hts 18 rfl) (fun _ h9 => h9) rfl (by decide +kernel) rfl rfl (gl_at rfl (gi_of (show (0 : Int32).toInt = 0 from (by decide)) (by first | decide | omega) (by first | decide | omega))) dX12_fill_108 (fun H locs hT oq m88 oj hS => ?_)
          have hF := hF.put hr_o0 skm_0 oq oj (by decide)
          refine lv_iconst (v := 1) hx hb dX12_fill_111 (by decide) ?_
          exact W.zret (v := 1) hx hb hr (by decide) (fun t ht hW => ⟨⟨1, (), rfl, (by exact (rg_t (a := 1) (by decide) (by first | decide | omega) (by first | decide | omega))), by (try dsimp only); rw [ht]; exact ⟨hT, hF⟩⟩, hS.F ht⟩) hS.2.2 dX12_fill_112
        · have t92 : r50.toInt = 0 := ti_eq c55 rfl (by decide)
          have t93 : ¬ wL p0.toNatClampNeg := hi54 c55
          refine lv_iconst (v := 0) hx hb dX12_fill_59 (by decide) ?_
          exact W.zret (v := 0) hx hb hr (by decide) (fun t ht hW => ⟨⟨0, (), rfl, (by exact (rg_t (a := 0) (by decide) (by first | decide | omega) (by first | decide | omega))), by (try dsimp only); rw [ht]; exact ⟨hT, hF⟩⟩, hS.F ht⟩) hS.2.2 dX12_fill_60
      · have t94 : r35.toInt = 0 := ti_eq c40 rfl (by decide)
        have t95 : (0 : Int32).toInt = 0 := by decide
        have t96 : (100000 : Int32).toInt = 100000 := by decide
        have t97 : p2.toInt < (0 : Int32).toInt ∨ (100000 : Int32).toInt < p2.toInt := hi39 c40
        refine lv_iconst (v := 1) hx hb dX12_fill_39 (by decide) ?_
        refine lv_goto (tgt := 44) hx hb dX12_fill_40 (by decide) ?_
        refine lv_iconst (v := 2) hx hb dX12_fill_44 (by decide) ?_
        have hFc := gA_free hG hA hS
        refine va_calli (va_runV (As := [.int 1, .int 2]) (rest := []) ⟨hx, hb, hml, hown, hts⟩ (s_throwsIf l dC dI kA adK adV G H q wZ0 wN wH wB wC wL wK wU wV PI im PM PT lS lB lE lN o0 1 2 hT hr_o0 (rg_t (a := 1) (by decide) (by first | decide | omega) (by first | decide | omega)) (fun _ => Int.le_refl 0) hgn hgh hgb hgc hgi hgu) (cwV 2 hts (goodIn_app (goodIn_r _ [10, 11, 12, 6] rfl (by decide +kernel)) (goodIn_ca (goodIn_r _ [9, 1] rfl (by decide +kernel)) (bs_in _ _))) rfl rfl rfl (by decide +kernel) ⟨(Nat.le_of_ble_eq_true rfl), (Nat.le_of_ble_eq_true rfl)⟩) ⟨fun a U g mk q => by obtain ⟨q0, q1, qK, qE⟩ := q; exact ⟨q0, q1, va_K.moved (u := U) (U := U.calling g mk a) (Vm.Alike.refl U.vm) qK, EVS.blind g mk a qE⟩, gH_rc hK hT hr_o0 shm_0 rfl, fun U hU hW => ⟨rfl, hU, va_K.moved hW.alike hK, hE.call hS hFc hU hW⟩⟩ rfl rfl hl.1 rfl (lv_room (Nat.le_of_ble_eq_true rfl)) dX12_fill_45 ⟨(Nat.le_of_ble_eq_true rfl), (Nat.le_of_ble_eq_true rfl)⟩) hS (fun q _ h => hFc q h) hFc (fun r98 u t H locs ht hvm hw99 hB _ _ hS => ?_)
        obtain ⟨hT, hF1⟩ := hB
        rw [ht] at hT hF1
        have hF := hF.more hF1 (by decide)
        try dsimp only at hw99
        obtain ⟨h100, hd101⟩ := hw99
        obtain rfl : (1 : Int32) = r98 := hd101.symm
        refine lv_if_ne (tgt := 59) hx hb dX12_fill_48 (by decide) (fun c102 => ?_) (fun c102 => absurd c102 (by decide))
        refine lv_iconst (v := 0) hx hb dX12_fill_59 (by decide) ?_
        exact W.zret (v := 0) hx hb hr (by decide) (fun t ht hW => ⟨⟨0, (), rfl, (by exact (rg_t (a := 0) (by decide) (by first | decide | omega) (by first | decide | omega))), by (try dsimp only); rw [ht]; exact ⟨hT, hF⟩⟩, hS.F ht⟩) hS.2.2 dX12_fill_60
def w_s_weather : List Cond := .code yX12_weather cX12_weather 6 (some .int) :: (HAppend.hAppend (α := List Cond) (β := List Cond) (γ := List Cond) [.fieldLink RX12 194 "SeaLandModel" "thrown" "I", .constant RX12 242 40000, .code yX12_in cX12_in 3 (some .boolean), .methodLink RX12 197 yX12_in, .static yX12_in, .initialized RX12, .code yX12_throwsIf cX12_throwsIf 3 (some .boolean), .methodLink RX12 224 yX12_throwsIf, .instanceMethod yX12_throwsIf, .selects RX12 yX12_throwsIf yX12_throwsIf, .fieldLink RX12 9 "SeaLandModel" "world" "[I", .fieldLink RX12 238 "SeaLandModel" "rows" "I"] bs)
set_option maxHeartbeats 4000000 in
set_option maxRecDepth 100000 in
theorem s_weather (l : Launch) (dC : Nat → ClassId) (dI : Nat → Nat → Nat) (kA : Nat → ClassId) (adK adV : Nat → Nat) (G : gT) (H0 : Heap) (q : Nat → Nat) (wZ wN : Nat → Int) (wH wB wC : Int) (wL wK : Nat → Prop) (wU wV : Nat → Nat) (PI : Nat → Int → Prop) (im : Int) (PM PT : Nat → Int → Prop) (lS lB lE : Nat → Nat → Int → Prop) (lN : Nat → Int) (o0 : Nat) (p0 : Int32) (p1 : Int32) (p2 : Int32)  (hT : gH (dC, dI) kA (SHm q (wP wZ wN wH wB wC wL wK wU wV) PI im PM PT lS lB lE lN) G H0) (hr_o0 : G o0 = some 0) (hq0 : 0 ≤ p0.toInt ∧ p0.toInt ≤ 1) (hgz : ∀ i, 0 ≤ wZ i) (hgn : ∀ i, 6500000 ≤ wN i ∧ wN i ≤ 20200000) (hgh : 0 ≤ wH ∧ wH ≤ 40000) (hgb : 0 ≤ wB ∧ wB ≤ 3850000) (hgc : 0 ≤ wC ∧ wC ≤ 30) (hgi : 0 ≤ im ∧ im ≤ 1) (hgu : ∀ a t, G a = some (t + 1) → a = q t) : Met l yX12_weather w_s_weather ({ frames := 1, cells := 0, slots := 0, locals := 22 }) (va_Pc [.ref o0, .int p0, .int p1, .int p2] (fun U => U.heap = H0 ∧ va_K (dC, dI) vwCl (tyl kA) U ∧ EVS adK adV (gA G H0.size) U U.heap)) (va_Qi (fun (r : Int32) (u : (Nat → Nat)) => (-1 ≤ r.toInt ∧ r.toInt ≤ 60) ∧ (∀ w, w < 30 → u w = wU w)) (fun (wU1 : (Nat → Nat)) (t : State) => gH (dC, dI) kA (SHm q (wP wZ wN wH wB wC wL wK wU1 wV) PI im PM PT lS lB lE lN) G t.heap ∧ gF (dC, dI) SKm G ([(0, 0), (0, 9), (2, 0)] : List (Nat × Nat)) H0 t.heap) (gA G H0.size)) 0 0 (gA G H0.size) := by
  refine Met.ofW (cc := cX12_weather) (maxL := 6) (ret := (some .int)) (by decide) rfl ?_
  intro p e s m args below meth c s₁ B hml hv
  obtain ⟨rfl, hH0, hK, hE⟩ := hv
  have hx := B.exec
  have hb := B.bytes
  have hr := B.returns
  have hts := atoms_spec (ws := w_s_weather) B.pre
  have hown : s.vm.findClass RX12 = some m.cls := findClass_of_methodNamed B.named
  have hlocks := B.notSynchronized
  subst hH0
  generalize hAe : gA G s.heap.size = A at hE ⊢
  have hA : ∀ q : Nat, s.heap.size ≤ q → A q := fun q h => by rw [← hAe]; exact Or.inr h
  have hG := gA_of hAe
  have hS : va_S A s.heap s.heap [] := va_S.rf
  have hF : gF (dC, dI) SKm G ([(0, 0), (0, 9), (2, 0)] : List (Nat × Nat)) s.heap s.heap := gF.rf
  have hl := lv_entry ([.ref o0, .int p0, .int p1, .int p2]) (n := 6) (Nat.le_of_ble_eq_true rfl)
  rw [lg_entry_eq]
  generalize (lg_sl ([.ref o0, .int p0, .int p1, .int p2]) ++ List.replicate (6 - (lg_sl ([.ref o0, .int p0, .int p1, .int p2])).length) Slot.unset).toArray = ls at hl ⊢
  have hl : lv_has ls 6 [(0, .ref o0), (1, .int p0), (2, .int p1), (3, .int p2)] := hl
  refine lv_aload_n hx hb dX12_weather_0 rfl (lv_at hl 0 rfl) ?_
  refine lv_iconst (v := 0) hx hb dX12_weather_1 (by decide) ?_
  refine tw_put (v := .int 0) (ty := .int) hx hb hts bF_X12 tyX12 tyX12_ok nmX12 hown hK hT hG hS hr_o0 shm_0 rfl 0 (by decide) (ht_at hts 0 rfl) (fun _ h9 => h9) rfl (by decide +kernel) rfl rfl (gl_at rfl (gi_all _)) dX12_weather_2 (fun H locs hT oq m1 oj hS => ?_)
  have hF := hF.put hr_o0 skm_0 oq oj (by decide)
  refine lv_aload_n hx hb dX12_weather_5 rfl (lv_at hl 0 rfl) ?_
  refine lv_iload_n hx hb dX12_weather_6 rfl (lv_at hl 2 rfl) ?_
  refine lv_iconst (v := 0) hx hb dX12_weather_7 (by decide) ?_
  refine lv_ldc (v := 40000) hx hb hown (ht_at hts 1 rfl) dX12_weather_8 ?_
  have hFc := gA_free hG hA hS
  refine va_calli (va_runS (As := [.int p1, .int 0, .int 40000]) (rest := [.ref o0]) ⟨hx, hb, hml, hown, hts⟩ (s_in l dC dI kA adK adV G H q wZ wN wH wB wC wL wK wU wV PI im PM PT lS lB lE lN p1 0 40000 hT hgz hgn hgh hgb hgc hgi hgu) (va_cwS 3 hts (goodIn_app (goodIn_r _ [4, 5, 6] rfl (by decide +kernel)) (goodIn_ca (goodIn_r _ [3] rfl (by decide +kernel)) (bs_in _ _))) rfl rfl rfl (by decide +kernel) ⟨(Nat.le_of_ble_eq_true rfl), (Nat.le_of_ble_eq_true rfl)⟩) ⟨fun a U g mk q => by obtain ⟨q0, q1, qK, qE⟩ := q; exact ⟨q0, q1, va_K.moved (u := U) (U := U.calling g mk a) (Vm.Alike.refl U.vm) qK, EVS.blind g mk a qE⟩, fun U hU hW => ⟨rfl, hU, va_K.moved hW.alike hK, hE.call hS hFc hU hW⟩⟩ rfl rfl hl.1 rfl (lv_room (Nat.le_of_ble_eq_true rfl)) dX12_weather_10 ⟨(Nat.le_of_ble_eq_true rfl), (Nat.le_of_ble_eq_true rfl)⟩) hS (fun q _ h => hFc q h) hFc (fun r2 u t H locs ht hvm hw3 hB _ _ hS => ?_)
  obtain ⟨hT, hF1⟩ := hB
  rw [ht] at hT hF1
  have hF := hF.more hF1 (by decide)
  try dsimp only at hw3
  obtain ⟨h5, hi6, hi7⟩ := hw3
  refine lv_if_eq (tgt := 43) hx hb dX12_weather_13 (by decide) (fun c8 => ?_) (fun c8 => ?_)
  · have t9 : r2.toInt = 0 := ti_eq c8 rfl (by decide)
    have t10 : (0 : Int32).toInt = 0 := by decide
    have t11 : (40000 : Int32).toInt = 40000 := by decide
    have t12 : p1.toInt < (0 : Int32).toInt ∨ (40000 : Int32).toInt < p1.toInt := hi7 c8
    refine lv_iconst (v := 1) hx hb dX12_weather_43 (by decide) ?_
    refine lv_goto (tgt := 48) hx hb dX12_weather_44 (by decide) ?_
    refine lv_iconst (v := 1) hx hb dX12_weather_48 (by decide) ?_
    have hFc := gA_free hG hA hS
    refine va_calli (va_runV (As := [.int 1, .int 1]) (rest := []) ⟨hx, hb, hml, hown, hts⟩ (s_throwsIf l dC dI kA adK adV G H q wZ wN wH wB wC wL wK wU wV PI im PM PT lS lB lE lN o0 1 1 hT hr_o0 (rg_t (a := 1) (by decide) (by first | decide | omega) (by first | decide | omega)) hgz hgn hgh hgb hgc hgi hgu) (cwV 2 hts (goodIn_app (goodIn_r _ [8, 9, 10, 6] rfl (by decide +kernel)) (goodIn_ca (goodIn_r _ [7, 1] rfl (by decide +kernel)) (bs_in _ _))) rfl rfl rfl (by decide +kernel) ⟨(Nat.le_of_ble_eq_true rfl), (Nat.le_of_ble_eq_true rfl)⟩) ⟨fun a U g mk q => by obtain ⟨q0, q1, qK, qE⟩ := q; exact ⟨q0, q1, va_K.moved (u := U) (U := U.calling g mk a) (Vm.Alike.refl U.vm) qK, EVS.blind g mk a qE⟩, gH_rc hK hT hr_o0 shm_0 rfl, fun U hU hW => ⟨rfl, hU, va_K.moved hW.alike hK, hE.call hS hFc hU hW⟩⟩ rfl rfl hl.1 rfl (lv_room (Nat.le_of_ble_eq_true rfl)) dX12_weather_49 ⟨(Nat.le_of_ble_eq_true rfl), (Nat.le_of_ble_eq_true rfl)⟩) hS (fun q _ h => hFc q h) hFc (fun r13 u t H locs ht hvm hw14 hB _ _ hS => ?_)
    obtain ⟨hT, hF1⟩ := hB
    rw [ht] at hT hF1
    have hF := hF.more hF1 (by decide)
    try dsimp only at hw14
    obtain ⟨h16, hd17⟩ := hw14
    obtain rfl : (1 : Int32) = r13 := hd17.symm
    refine lv_if_eq (tgt := 57) hx hb dX12_weather_52 (by decide) (fun c18 => absurd c18 (by decide)) (fun c18 => ?_)
    refine lv_iconst (v := 0) hx hb dX12_weather_55 (by decide) ?_
    exact W.iret (v := 0) hx hb hr (fun t ht hW => ⟨⟨0, wU, rfl, (by exact ⟨(rg_t (a := 0) (by decide) (by first | decide | omega) (by first | decide | omega)), (fun _ _ => rfl)⟩), by (try dsimp only); rw [ht]; exact ⟨hT, hF⟩⟩, hS.F ht⟩) hS.2.2 dX12_weather_56
  · have t19 : r2.toInt ≠ 0 := ti_ne c8 rfl (by decide)
    have t20 : (0 : Int32).toInt = 0 := by decide
    have t21 : (40000 : Int32).toInt = 40000 := by decide
    have t22 : (0 : Int32).toInt ≤ p1.toInt ∧ p1.toInt ≤ (40000 : Int32).toInt := hi6 ((bit_of ⟨by omega, by omega⟩).resolve_left c8)
    refine lv_iload_n hx hb dX12_weather_16 rfl (lv_at hl 1 rfl) ?_
    refine lv_if_eq (tgt := 33) hx hb dX12_weather_17 (by decide) (fun c23 => ?_) (fun c23 => ?_)
    · have t24 : p0.toInt = 0 := ti_eq c23 rfl (by decide)
      refine lv_iload_n hx hb dX12_weather_33 rfl (lv_at hl 3 rfl) ?_
      refine lv_iconst (v := (-1)) hx hb dX12_weather_34 (by decide) ?_
      refine lv_bipush (v := 9) hx hb dX12_weather_35 (by decide) ?_
      have hFc := gA_free hG hA hS
      refine va_calli (va_runS (As := [.int p2, .int (-1), .int 9]) (rest := [.ref o0]) ⟨hx, hb, hml, hown, hts⟩ (s_in l dC dI kA adK adV G H q wZ wN wH wB wC wL wK wU wV PI im PM PT lS lB lE lN p2 (-1) 9 hT hgz hgn hgh hgb hgc hgi hgu) (va_cwS 3 hts (goodIn_app (goodIn_r _ [4, 5, 6] rfl (by decide +kernel)) (goodIn_ca (goodIn_r _ [3] rfl (by decide +kernel)) (bs_in _ _))) rfl rfl rfl (by decide +kernel) ⟨(Nat.le_of_ble_eq_true rfl), (Nat.le_of_ble_eq_true rfl)⟩) ⟨fun a U g mk q => by obtain ⟨q0, q1, qK, qE⟩ := q; exact ⟨q0, q1, va_K.moved (u := U) (U := U.calling g mk a) (Vm.Alike.refl U.vm) qK, EVS.blind g mk a qE⟩, fun U hU hW => ⟨rfl, hU, va_K.moved hW.alike hK, hE.call hS hFc hU hW⟩⟩ rfl rfl hl.1 rfl (lv_room (Nat.le_of_ble_eq_true rfl)) dX12_weather_37 ⟨(Nat.le_of_ble_eq_true rfl), (Nat.le_of_ble_eq_true rfl)⟩) hS (fun q _ h => hFc q h) hFc (fun r25 u t H locs ht hvm hw26 hB _ _ hS => ?_)
      obtain ⟨hT, hF1⟩ := hB
      rw [ht] at hT hF1
      have hF := hF.more hF1 (by decide)
      try dsimp only at hw26
      obtain ⟨h28, hi29, hi30⟩ := hw26
      refine lv_if_ne (tgt := 47) hx hb dX12_weather_40 (by decide) (fun c31 => ?_) (fun c31 => ?_)
      · have t32 : r25.toInt ≠ 0 := ti_ne c31 rfl (by decide)
        have t33 : (-1 : Int32).toInt = (-1) := by decide
        have t34 : (9 : Int32).toInt = 9 := by decide
        have t35 : (-1 : Int32).toInt ≤ p2.toInt ∧ p2.toInt ≤ (9 : Int32).toInt := hi29 ((bit_of ⟨by omega, by omega⟩).resolve_left c31)
        refine lv_iconst (v := 0) hx hb dX12_weather_47 (by decide) ?_
        refine lv_iconst (v := 1) hx hb dX12_weather_48 (by decide) ?_
        have hFc := gA_free hG hA hS
        refine va_calli (va_runV (As := [.int 0, .int 1]) (rest := []) ⟨hx, hb, hml, hown, hts⟩ (s_throwsIf l dC dI kA adK adV G H q wZ wN wH wB wC wL wK wU wV PI im PM PT lS lB lE lN o0 0 1 hT hr_o0 (rg_t (a := 0) (by decide) (by first | decide | omega) (by first | decide | omega)) hgz hgn hgh hgb hgc hgi hgu) (cwV 2 hts (goodIn_app (goodIn_r _ [8, 9, 10, 6] rfl (by decide +kernel)) (goodIn_ca (goodIn_r _ [7, 1] rfl (by decide +kernel)) (bs_in _ _))) rfl rfl rfl (by decide +kernel) ⟨(Nat.le_of_ble_eq_true rfl), (Nat.le_of_ble_eq_true rfl)⟩) ⟨fun a U g mk q => by obtain ⟨q0, q1, qK, qE⟩ := q; exact ⟨q0, q1, va_K.moved (u := U) (U := U.calling g mk a) (Vm.Alike.refl U.vm) qK, EVS.blind g mk a qE⟩, gH_rc hK hT hr_o0 shm_0 rfl, fun U hU hW => ⟨rfl, hU, va_K.moved hW.alike hK, hE.call hS hFc hU hW⟩⟩ rfl rfl hl.1 rfl (lv_room (Nat.le_of_ble_eq_true rfl)) dX12_weather_49 ⟨(Nat.le_of_ble_eq_true rfl), (Nat.le_of_ble_eq_true rfl)⟩) hS (fun q _ h => hFc q h) hFc (fun r36 u t H locs ht hvm hw37 hB _ _ hS => ?_)
        obtain ⟨hT, hF1⟩ := hB
        rw [ht] at hT hF1
        have hF := hF.more hF1 (by decide)
        try dsimp only at hw37
        obtain ⟨h39, hd40⟩ := hw37
        obtain rfl : (0 : Int32) = r36 := hd40.symm
        refine lv_if_eq (tgt := 57) hx hb dX12_weather_52 (by decide) (fun c41 => ?_) (fun c41 => absurd c41 (by decide))
        refine lv_iload_n hx hb dX12_weather_57 rfl (lv_at hl 1 rfl) ?_
        refine lv_if_eq (tgt := 67) hx hb dX12_weather_58 (by decide) (fun c42 => ?_) (fun c42 => (by exfalso; have q9 : p0.toInt ≠ 0 := ti_ne c42 rfl (by decide); omega))
        have t43 : p0.toInt = 0 := ti_eq c42 rfl (by decide)
        refine lv_sipush (v := 1503) hx hb dX12_weather_67 (by decide) ?_
        refine lv_istore (lv' := [(4, .int 1503), (0, .ref o0), (1, .int p0), (2, .int p1), (3, .int p2)]) hx hb dX12_weather_70 hl (by decide) rfl (fun ls hl => ?_)
        refine lv_iload_n hx hb dX12_weather_72 rfl (lv_at hl 2 rfl) ?_
        refine lv_if_eq (tgt := 82) hx hb dX12_weather_73 (by decide) (fun c44 => ?_) (fun c44 => (by exfalso; have q9 : p0.toInt ≠ 0 := ti_ne c44 rfl (by decide); omega))
        have t45 : p0.toInt = 0 := ti_eq c44 rfl (by decide)
        refine lv_sipush (v := 1504) hx hb dX12_weather_82 (by decide) ?_
        refine lv_iconst (v := 2) hx hb dX12_weather_85 (by decide) ?_
        refine lv_aload_n hx hb dX12_weather_86 rfl (lv_at hl 1 rfl) ?_
        refine tw_get hx hb hts bF_X12 hown hK hT hr_o0 shm_0 rfl 1 (by decide) (ht_at hts 10 rfl) (fun _ h9 => h9) dX12_weather_87 (fun v9 m46 h9 => ?_)
        obtain ⟨rfl, hg47⟩ := h9 _ rfl
        refine lv_iload hx hb dX12_weather_90 (lv_at hl 0 rfl) ?_
        refine tw_iald (i := 1503) hx hb hK hT hg47 shm_2 rfl (by unfold vp_in; decide) dX12_weather_92 (fun v9 m48 h9 => ?_)
        obtain ⟨x49, rfl, gx49, kx49⟩ := (gp_at h9 (w_wic (by have q9 := tn_of (show (1503 : Int32).toInt = 1503 from (by decide)) (show (0 : Int) ≤ 1503 from by omega); omega)))
        refine lv_imul hx hb dX12_weather_93 ?_
        refine lv_topi (fun x50 ex50 => ?_)
        have t51 : x50.toInt = 2 * x49.toInt := ti_mul ex50 (by decide) rfl (by omega) (by omega)
        refine lv_iadd hx hb dX12_weather_94 ?_
        refine lv_topi (fun x52 ex52 => ?_)
        have t53 : x52.toInt = 1504 + x50.toInt := ti_add ex52 (by decide) rfl (by omega) (by omega)
        refine lv_istore (lv' := [(5, .int x52), (4, .int 1503), (0, .ref o0), (1, .int p0), (2, .int p1), (3, .int p2)]) hx hb dX12_weather_95 hl (by decide) rfl (fun ls hl => ?_)
        refine lv_aload_n hx hb dX12_weather_97 rfl (lv_at hl 2 rfl) ?_
        refine tw_get hx hb hts bF_X12 hown hK hT hr_o0 shm_0 rfl 1 (by decide) (ht_at hts 10 rfl) (fun _ h9 => h9) dX12_weather_98 (fun v9 m54 h9 => ?_)
        obtain ⟨rfl, hg55⟩ := h9 _ rfl
        refine lv_iload hx hb dX12_weather_101 (lv_at hl 1 rfl) ?_
        refine tw_iald (i := 1503) hx hb hK hT hg47 shm_2 rfl (by unfold vp_in; decide) dX12_weather_103 (fun v9 m56 h9 => ?_)
        obtain ⟨x57, rfl, gx57, kx57⟩ := (gp_at h9 (w_wic (by have q9 := tn_of (show (1503 : Int32).toInt = 1503 from (by decide)) (show (0 : Int) ≤ 1503 from by omega); omega)))
        obtain rfl : x49 = x57 := (el_same m56 m48 rfl).symm
        refine lv_bipush (v := 60) hx hb dX12_weather_104 (by decide) ?_
        refine lv_icmp_ne (tgt := 111) hx hb dX12_weather_106 (by decide) (fun c58 => ?_) (fun c58 => ?_)
        · have t59 : x49.toInt ≠ 60 := ti_ne c58 rfl (by decide)
          refine lv_aload_n hx hb dX12_weather_111 rfl (lv_at hl 2 rfl) ?_
          refine tw_get hx hb hts bF_X12 hown hK hT hr_o0 shm_0 rfl 1 (by decide) (ht_at hts 10 rfl) (fun _ h9 => h9) dX12_weather_112 (fun v9 m60 h9 => ?_)
          obtain ⟨rfl, hg61⟩ := h9 _ rfl
          refine lv_iload hx hb dX12_weather_115 (lv_at hl 0 rfl) ?_
          refine lv_iload_n hx hb dX12_weather_117 rfl (lv_at hl 4 rfl) ?_
          refine tw_iast2 (Sg1 := (SHm q (wP wZ wN wH wB wC wL wK (sU wU (x52.toNatClampNeg - 1400) (p1.toInt + 1000).toNat) wV) PI im PM PT lS lB lE lN)) (i := x52) (x := p1) hx hb hK hT hG hS hg47 shm_2 rfl shm_2 shm_o2 (fun b9 h9 => hgu b9 1 h9) (vin_t (a := x52.toInt) rfl (by omega) (by omega)) (gp_of (gi_all _) (w_fre (by have q9 := tn_of (show x52.toInt = x52.toInt from rfl) (show (0 : Int) ≤ x52.toInt from by omega); omega)) (wX_s (k := x52.toNatClampNeg - 1400) (v := (p1.toInt + 1000).toNat) ⟨by have q9 := tn_of (show x52.toInt = x52.toInt from rfl) (show (0 : Int) ≤ x52.toInt from by omega); omega, by have q9 := tn_of (show x52.toInt = x52.toInt from rfl) (show (0 : Int) ≤ x52.toInt from by omega); omega⟩ (by omega) (by have := (show p1.toInt = p1.toInt from rfl); omega))) (fun k9 hk9 hne9 v9 hv9 he9 => by obtain ⟨x9, rfl, p9⟩ := he9; exact ⟨x9, rfl, wP_U (by omega) (pl := x52.toNatClampNeg) ⟨by have q9 := tn_of (show x52.toInt = x52.toInt from rfl) (show (0 : Int) ≤ x52.toInt from by omega); omega, by have q9 := tn_of (show x52.toInt = x52.toInt from rfl) (show (0 : Int) ≤ x52.toInt from by omega); omega⟩ hne9 p9⟩) dX12_weather_118 (fun H locs hT oq m62 oi hS => ?_)
          have hF := hF.ast hg47 skm_2 oq (by decide)
          have m63 := (oi _ (tn_ne (show (1503 : Int32).toInt = 1503 from (by decide)) (show x52.toInt = x52.toInt from rfl) (by omega) (by omega) (by omega))).trans m48
          refine lv_aload_n hx hb dX12_weather_119 rfl (lv_at hl 2 rfl) ?_
          refine tw_get hx hb hts bF_X12 hown hK hT hr_o0 shm_0 rfl 1 (by decide) (ht_at hts 10 rfl) (fun _ h9 => h9) dX12_weather_120 (fun v9 m64 h9 => ?_)
          obtain ⟨rfl, hg65⟩ := h9 _ rfl
          refine lv_iload hx hb dX12_weather_123 (lv_at hl 0 rfl) ?_
          refine lv_iconst (v := 1) hx hb dX12_weather_125 (by decide) ?_
          refine lv_iadd hx hb dX12_weather_126 ?_
          refine lv_topi (fun x66 ex66 => ?_)
          have t67 : x66.toInt = x52.toInt + 1 := ti_add ex66 rfl (by decide) (by omega) (by omega)
          refine lv_iload_n hx hb dX12_weather_127 rfl (lv_at hl 5 rfl) ?_
          refine tw_iast2 (Sg1 := (SHm q (wP wZ wN wH wB wC wL wK (sU (sU wU (x52.toNatClampNeg - 1400) (p1.toInt + 1000).toNat) (x66.toNatClampNeg - 1400) (p2.toInt + 1000).toNat) wV) PI im PM PT lS lB lE lN)) (i := x66) (x := p2) hx hb hK hT hG hS hg47 shm_2 rfl shm_2 shm_o2 (fun b9 h9 => hgu b9 1 h9) (vin_t (a := x66.toInt) rfl (by omega) (by omega)) (gp_of (gi_of (show p2.toInt = p2.toInt from rfl) (by omega) (by omega)) (w_wid (by have q9 := tn_of (show x66.toInt = x66.toInt from rfl) (show (0 : Int) ≤ x66.toInt from by omega); omega)) (wX_s (k := x66.toNatClampNeg - 1400) (v := (p2.toInt + 1000).toNat) ⟨by have q9 := tn_of (show x66.toInt = x66.toInt from rfl) (show (0 : Int) ≤ x66.toInt from by omega); omega, by have q9 := tn_of (show x66.toInt = x66.toInt from rfl) (show (0 : Int) ≤ x66.toInt from by omega); omega⟩ (by omega) (by have := (show p2.toInt = p2.toInt from rfl); omega))) (fun k9 hk9 hne9 v9 hv9 he9 => by obtain ⟨x9, rfl, p9⟩ := he9; exact ⟨x9, rfl, wP_U (by omega) (pl := x66.toNatClampNeg) ⟨by have q9 := tn_of (show x66.toInt = x66.toInt from rfl) (show (0 : Int) ≤ x66.toInt from by omega); omega, by have q9 := tn_of (show x66.toInt = x66.toInt from rfl) (show (0 : Int) ≤ x66.toInt from by omega); omega⟩ hne9 p9⟩) dX12_weather_128 (fun H locs hT oq m68 oi hS => ?_)
          have hF := hF.ast hg47 skm_2 oq (by decide)
          have m69 := (oi _ (tn_ne (show (1503 : Int32).toInt = 1503 from (by decide)) (show x66.toInt = x66.toInt from rfl) (by omega) (by omega) (by omega))).trans m63
          refine lv_aload_n hx hb dX12_weather_129 rfl (lv_at hl 2 rfl) ?_
          refine tw_get hx hb hts bF_X12 hown hK hT hr_o0 shm_0 rfl 1 (by decide) (ht_at hts 10 rfl) (fun _ h9 => h9) dX12_weather_130 (fun v9 m71 h9 => ?_)
          obtain ⟨rfl, hg72⟩ := h9 _ rfl
          refine lv_iload hx hb dX12_weather_133 (lv_at hl 1 rfl) ?_
          refine lv_dup2_11 hx hb dX12_weather_135 rfl rfl ?_
          refine tw_iald (i := 1503) hx hb hK hT hg47 shm_2 rfl (by unfold vp_in; decide) dX12_weather_136 (fun v9 m73 h9 => ?_)
          obtain ⟨x74, rfl, gx74, kx74⟩ := (gp_at h9 (w_wic (by have q9 := tn_of (show (1503 : Int32).toInt = 1503 from (by decide)) (show (0 : Int) ≤ 1503 from by omega); omega)))
          obtain rfl : x49 = x74 := (el_same m73 m69 rfl).symm
          refine lv_iconst (v := 1) hx hb dX12_weather_137 (by decide) ?_
          refine lv_iadd hx hb dX12_weather_138 ?_
          refine lv_topi (fun x75 ex75 => ?_)
          have t76 : x75.toInt = x49.toInt + 1 := ti_add ex75 rfl (by decide) (by omega) (by omega)
          refine tw_iast2 (Sg1 := (SHm q (wP wZ wN wH wB wC wL wK (sU (sU (sU wU (x52.toNatClampNeg - 1400) (p1.toInt + 1000).toNat) (x66.toNatClampNeg - 1400) (p2.toInt + 1000).toNat) ((1503 : Int32).toNatClampNeg - 1400) (x75.toInt + 1000).toNat) wV) PI im PM PT lS lB lE lN)) (i := 1503) (x := x75) hx hb hK hT hG hS hg47 shm_2 rfl shm_2 shm_o2 (fun b9 h9 => hgu b9 1 h9) (by unfold vp_in; decide) (gp_of (gi_of (show x75.toInt = x75.toInt from rfl) (by omega) (by omega)) (w_wic (by have q9 := tn_of (show (1503 : Int32).toInt = 1503 from (by decide)) (show (0 : Int) ≤ 1503 from by omega); omega)) (wX_s (k := (1503 : Int32).toNatClampNeg - 1400) (v := (x75.toInt + 1000).toNat) ⟨by have q9 := tn_of (show (1503 : Int32).toInt = 1503 from (by decide)) (show (0 : Int) ≤ 1503 from by omega); omega, by have q9 := tn_of (show (1503 : Int32).toInt = 1503 from (by decide)) (show (0 : Int) ≤ 1503 from by omega); omega⟩ (by omega) (by have := (show x75.toInt = x75.toInt from rfl); omega))) (fun k9 hk9 hne9 v9 hv9 he9 => by obtain ⟨x9, rfl, p9⟩ := he9; exact ⟨x9, rfl, wP_U (by omega) (pl := (1503 : Int32).toNatClampNeg) ⟨by have q9 := tn_of (show (1503 : Int32).toInt = 1503 from (by decide)) (show (0 : Int) ≤ 1503 from by omega); omega, by have q9 := tn_of (show (1503 : Int32).toInt = 1503 from (by decide)) (show (0 : Int) ≤ 1503 from by omega); omega⟩ hne9 p9⟩) dX12_weather_139 (fun H locs hT oq m77 oi hS => ?_)
          have hF := hF.ast hg47 skm_2 oq (by decide)
          refine lv_aload_n hx hb dX12_weather_140 rfl (lv_at hl 2 rfl) ?_
          refine lv_iconst (v := 0) hx hb dX12_weather_141 (by decide) ?_
          refine tw_put (v := .int 0) (ty := .int) hx hb hts bF_X12 tyX12 tyX12_ok nmX12 hown hK hT hG hS hr_o0 shm_0 rfl 9 (by decide) (ht_at hts 11 rfl) (fun _ h9 => h9) rfl (by decide +kernel) rfl rfl (gl_at rfl (gi_of (show (0 : Int32).toInt = 0 from (by decide)) (by first | decide | omega) (by first | decide | omega))) dX12_weather_142 (fun H locs hT oq m80 oj hS => ?_)
          have hF := hF.put hr_o0 skm_0 oq oj (by decide)
          have m83 := (el_kept (oq _ (gne hg47 hr_o0 (by decide)))).trans m77
          refine lv_aload_n hx hb dX12_weather_145 rfl (lv_at hl 2 rfl) ?_
          refine tw_get hx hb hts bF_X12 hown hK hT hr_o0 shm_0 rfl 1 (by decide) (ht_at hts 10 rfl) (fun _ h9 => h9) dX12_weather_146 (fun v9 m84 h9 => ?_)
          obtain ⟨rfl, hg85⟩ := h9 _ rfl
          refine lv_iload hx hb dX12_weather_149 (lv_at hl 1 rfl) ?_
          refine tw_iald (i := 1503) hx hb hK hT hg47 shm_2 rfl (by unfold vp_in; decide) dX12_weather_151 (fun v9 m86 h9 => ?_)
          obtain ⟨x87, rfl, gx87, kx87⟩ := (gp_at h9 (w_wic (by have q9 := tn_of (show (1503 : Int32).toInt = 1503 from (by decide)) (show (0 : Int) ≤ 1503 from by omega); omega)))
          obtain rfl : x75 = x87 := (el_same m86 m83 rfl).symm
          exact W.iret (v := x75) hx hb hr (fun t ht hW => ⟨⟨x75, (sU (sU (sU wU (x52.toNatClampNeg - 1400) (p1.toInt + 1000).toNat) (x66.toNatClampNeg - 1400) (p2.toInt + 1000).toNat) ((1503 : Int32).toNatClampNeg - 1400) (x75.toInt + 1000).toNat), rfl, (by exact ⟨(by have q8 := ti_all x75; omega), (fun w9 h9 => by have := tn_of (show x52.toInt = x52.toInt from rfl) (by omega); have := tn_of (show x66.toInt = x66.toInt from rfl) (by omega); have : (1503 : Int32).toNatClampNeg = 1503 := (by decide); rw [sU_o (by omega)]; rw [sU_o (by omega)]; rw [sU_o (by omega)])⟩), by (try dsimp only); rw [ht]; exact ⟨hT, hF⟩⟩, hS.F ht⟩) hS.2.2 dX12_weather_152
        · have t88 : x49.toInt = 60 := ti_eq c58 rfl (by decide)
          refine lv_iconst (v := (-1)) hx hb dX12_weather_109 (by decide) ?_
          exact W.iret (v := (-1)) hx hb hr (fun t ht hW => ⟨⟨(-1), wU, rfl, (by exact ⟨(rg_t (a := (-1)) (by decide) (by first | decide | omega) (by first | decide | omega)), (fun _ _ => rfl)⟩), by (try dsimp only); rw [ht]; exact ⟨hT, hF⟩⟩, hS.F ht⟩) hS.2.2 dX12_weather_110
      · have t89 : r25.toInt = 0 := ti_eq c31 rfl (by decide)
        have t90 : (-1 : Int32).toInt = (-1) := by decide
        have t91 : (9 : Int32).toInt = 9 := by decide
        have t92 : p2.toInt < (-1 : Int32).toInt ∨ (9 : Int32).toInt < p2.toInt := hi30 c31
        refine lv_iconst (v := 1) hx hb dX12_weather_43 (by decide) ?_
        refine lv_goto (tgt := 48) hx hb dX12_weather_44 (by decide) ?_
        refine lv_iconst (v := 1) hx hb dX12_weather_48 (by decide) ?_
        have hFc := gA_free hG hA hS
        refine va_calli (va_runV (As := [.int 1, .int 1]) (rest := []) ⟨hx, hb, hml, hown, hts⟩ (s_throwsIf l dC dI kA adK adV G H q wZ wN wH wB wC wL wK wU wV PI im PM PT lS lB lE lN o0 1 1 hT hr_o0 (rg_t (a := 1) (by decide) (by first | decide | omega) (by first | decide | omega)) hgz hgn hgh hgb hgc hgi hgu) (cwV 2 hts (goodIn_app (goodIn_r _ [8, 9, 10, 6] rfl (by decide +kernel)) (goodIn_ca (goodIn_r _ [7, 1] rfl (by decide +kernel)) (bs_in _ _))) rfl rfl rfl (by decide +kernel) ⟨(Nat.le_of_ble_eq_true rfl), (Nat.le_of_ble_eq_true rfl)⟩) ⟨fun a U g mk q => by obtain ⟨q0, q1, qK, qE⟩ := q; exact ⟨q0, q1, va_K.moved (u := U) (U := U.calling g mk a) (Vm.Alike.refl U.vm) qK, EVS.blind g mk a qE⟩, gH_rc hK hT hr_o0 shm_0 rfl, fun U hU hW => ⟨rfl, hU, va_K.moved hW.alike hK, hE.call hS hFc hU hW⟩⟩ rfl rfl hl.1 rfl (lv_room (Nat.le_of_ble_eq_true rfl)) dX12_weather_49 ⟨(Nat.le_of_ble_eq_true rfl), (Nat.le_of_ble_eq_true rfl)⟩) hS (fun q _ h => hFc q h) hFc (fun r93 u t H locs ht hvm hw94 hB _ _ hS => ?_)
        obtain ⟨hT, hF1⟩ := hB
        rw [ht] at hT hF1
        have hF := hF.more hF1 (by decide)
        try dsimp only at hw94
        obtain ⟨h96, hd97⟩ := hw94
        obtain rfl : (1 : Int32) = r93 := hd97.symm
        refine lv_if_eq (tgt := 57) hx hb dX12_weather_52 (by decide) (fun c98 => absurd c98 (by decide)) (fun c98 => ?_)
        refine lv_iconst (v := 0) hx hb dX12_weather_55 (by decide) ?_
        exact W.iret (v := 0) hx hb hr (fun t ht hW => ⟨⟨0, wU, rfl, (by exact ⟨(rg_t (a := 0) (by decide) (by first | decide | omega) (by first | decide | omega)), (fun _ _ => rfl)⟩), by (try dsimp only); rw [ht]; exact ⟨hT, hF⟩⟩, hS.F ht⟩) hS.2.2 dX12_weather_56
    · have t99 : p0.toInt ≠ 0 := ti_ne c23 rfl (by decide)
      refine lv_iload_n hx hb dX12_weather_20 rfl (lv_at hl 3 rfl) ?_
      refine lv_iconst (v := 0) hx hb dX12_weather_21 (by decide) ?_
      refine lv_bipush (v := 20) hx hb dX12_weather_22 (by decide) ?_
      have hFc := gA_free hG hA hS
      refine va_calli (va_runS (As := [.int p2, .int 0, .int 20]) (rest := [.ref o0]) ⟨hx, hb, hml, hown, hts⟩ (s_in l dC dI kA adK adV G H q wZ wN wH wB wC wL wK wU wV PI im PM PT lS lB lE lN p2 0 20 hT hgz hgn hgh hgb hgc hgi hgu) (va_cwS 3 hts (goodIn_app (goodIn_r _ [4, 5, 6] rfl (by decide +kernel)) (goodIn_ca (goodIn_r _ [3] rfl (by decide +kernel)) (bs_in _ _))) rfl rfl rfl (by decide +kernel) ⟨(Nat.le_of_ble_eq_true rfl), (Nat.le_of_ble_eq_true rfl)⟩) ⟨fun a U g mk q => by obtain ⟨q0, q1, qK, qE⟩ := q; exact ⟨q0, q1, va_K.moved (u := U) (U := U.calling g mk a) (Vm.Alike.refl U.vm) qK, EVS.blind g mk a qE⟩, fun U hU hW => ⟨rfl, hU, va_K.moved hW.alike hK, hE.call hS hFc hU hW⟩⟩ rfl rfl hl.1 rfl (lv_room (Nat.le_of_ble_eq_true rfl)) dX12_weather_24 ⟨(Nat.le_of_ble_eq_true rfl), (Nat.le_of_ble_eq_true rfl)⟩) hS (fun q _ h => hFc q h) hFc (fun r100 u t H locs ht hvm hw101 hB _ _ hS => ?_)
      obtain ⟨hT, hF1⟩ := hB
      rw [ht] at hT hF1
      have hF := hF.more hF1 (by decide)
      try dsimp only at hw101
      obtain ⟨h103, hi104, hi105⟩ := hw101
      refine lv_if_ne (tgt := 47) hx hb dX12_weather_27 (by decide) (fun c106 => ?_) (fun c106 => ?_)
      · have t107 : r100.toInt ≠ 0 := ti_ne c106 rfl (by decide)
        have t108 : (0 : Int32).toInt = 0 := by decide
        have t109 : (20 : Int32).toInt = 20 := by decide
        have t110 : (0 : Int32).toInt ≤ p2.toInt ∧ p2.toInt ≤ (20 : Int32).toInt := hi104 ((bit_of ⟨by omega, by omega⟩).resolve_left c106)
        refine lv_iconst (v := 0) hx hb dX12_weather_47 (by decide) ?_
        refine lv_iconst (v := 1) hx hb dX12_weather_48 (by decide) ?_
        have hFc := gA_free hG hA hS
        refine va_calli (va_runV (As := [.int 0, .int 1]) (rest := []) ⟨hx, hb, hml, hown, hts⟩ (s_throwsIf l dC dI kA adK adV G H q wZ wN wH wB wC wL wK wU wV PI im PM PT lS lB lE lN o0 0 1 hT hr_o0 (rg_t (a := 0) (by decide) (by first | decide | omega) (by first | decide | omega)) hgz hgn hgh hgb hgc hgi hgu) (cwV 2 hts (goodIn_app (goodIn_r _ [8, 9, 10, 6] rfl (by decide +kernel)) (goodIn_ca (goodIn_r _ [7, 1] rfl (by decide +kernel)) (bs_in _ _))) rfl rfl rfl (by decide +kernel) ⟨(Nat.le_of_ble_eq_true rfl), (Nat.le_of_ble_eq_true rfl)⟩) ⟨fun a U g mk q => by obtain ⟨q0, q1, qK, qE⟩ := q; exact ⟨q0, q1, va_K.moved (u := U) (U := U.calling g mk a) (Vm.Alike.refl U.vm) qK, EVS.blind g mk a qE⟩, gH_rc hK hT hr_o0 shm_0 rfl, fun U hU hW => ⟨rfl, hU, va_K.moved hW.alike hK, hE.call hS hFc hU hW⟩⟩ rfl rfl hl.1 rfl (lv_room (Nat.le_of_ble_eq_true rfl)) dX12_weather_49 ⟨(Nat.le_of_ble_eq_true rfl), (Nat.le_of_ble_eq_true rfl)⟩) hS (fun q _ h => hFc q h) hFc (fun r111 u t H locs ht hvm hw112 hB _ _ hS => ?_)
        obtain ⟨hT, hF1⟩ := hB
        rw [ht] at hT hF1
        have hF := hF.more hF1 (by decide)
        try dsimp only at hw112
        obtain ⟨h114, hd115⟩ := hw112
        obtain rfl : (0 : Int32) = r111 := hd115.symm
        refine lv_if_eq (tgt := 57) hx hb dX12_weather_52 (by decide) (fun c116 => ?_) (fun c116 => absurd c116 (by decide))
        refine lv_iload_n hx hb dX12_weather_57 rfl (lv_at hl 1 rfl) ?_
        refine lv_if_eq (tgt := 67) hx hb dX12_weather_58 (by decide) (fun c117 => (by exfalso; have q9 : p0.toInt = 0 := ti_eq c117 rfl (by decide); omega)) (fun c117 => ?_)
        have t118 : p0.toInt ≠ 0 := ti_ne c117 rfl (by decide)
        refine lv_sipush (v := 1624) hx hb dX12_weather_61 (by decide) ?_
        refine lv_goto (tgt := 70) hx hb dX12_weather_64 (by decide) ?_
        refine lv_istore (lv' := [(4, .int 1624), (0, .ref o0), (1, .int p0), (2, .int p1), (3, .int p2)]) hx hb dX12_weather_70 hl (by decide) rfl (fun ls hl => ?_)
        refine lv_iload_n hx hb dX12_weather_72 rfl (lv_at hl 2 rfl) ?_
        refine lv_if_eq (tgt := 82) hx hb dX12_weather_73 (by decide) (fun c119 => (by exfalso; have q9 : p0.toInt = 0 := ti_eq c119 rfl (by decide); omega)) (fun c119 => ?_)
        have t120 : p0.toInt ≠ 0 := ti_ne c119 rfl (by decide)
        refine lv_sipush (v := 1625) hx hb dX12_weather_76 (by decide) ?_
        refine lv_goto (tgt := 85) hx hb dX12_weather_79 (by decide) ?_
        refine lv_iconst (v := 2) hx hb dX12_weather_85 (by decide) ?_
        refine lv_aload_n hx hb dX12_weather_86 rfl (lv_at hl 1 rfl) ?_
        refine tw_get hx hb hts bF_X12 hown hK hT hr_o0 shm_0 rfl 1 (by decide) (ht_at hts 10 rfl) (fun _ h9 => h9) dX12_weather_87 (fun v9 m121 h9 => ?_)
        obtain ⟨rfl, hg122⟩ := h9 _ rfl
        refine lv_iload hx hb dX12_weather_90 (lv_at hl 0 rfl) ?_
        refine tw_iald (i := 1624) hx hb hK hT hg122 shm_2 rfl (by unfold vp_in; decide) dX12_weather_92 (fun v9 m123 h9 => ?_)
        obtain ⟨x124, rfl, gx124, kx124⟩ := (gp_at h9 (w_rac (by have q9 := tn_of (show (1624 : Int32).toInt = 1624 from (by decide)) (show (0 : Int) ≤ 1624 from by omega); omega)))
        refine lv_imul hx hb dX12_weather_93 ?_
        refine lv_topi (fun x125 ex125 => ?_)
        have t126 : x125.toInt = 2 * x124.toInt := ti_mul ex125 (by decide) rfl (by omega) (by omega)
        refine lv_iadd hx hb dX12_weather_94 ?_
        refine lv_topi (fun x127 ex127 => ?_)
        have t128 : x127.toInt = 1625 + x125.toInt := ti_add ex127 (by decide) rfl (by omega) (by omega)
        refine lv_istore (lv' := [(5, .int x127), (4, .int 1624), (0, .ref o0), (1, .int p0), (2, .int p1), (3, .int p2)]) hx hb dX12_weather_95 hl (by decide) rfl (fun ls hl => ?_)
        refine lv_aload_n hx hb dX12_weather_97 rfl (lv_at hl 2 rfl) ?_
        refine tw_get hx hb hts bF_X12 hown hK hT hr_o0 shm_0 rfl 1 (by decide) (ht_at hts 10 rfl) (fun _ h9 => h9) dX12_weather_98 (fun v9 m129 h9 => ?_)
        obtain ⟨rfl, hg130⟩ := h9 _ rfl
        refine lv_iload hx hb dX12_weather_101 (lv_at hl 1 rfl) ?_
        refine tw_iald (i := 1624) hx hb hK hT hg122 shm_2 rfl (by unfold vp_in; decide) dX12_weather_103 (fun v9 m131 h9 => ?_)
        obtain ⟨x132, rfl, gx132, kx132⟩ := (gp_at h9 (w_rac (by have q9 := tn_of (show (1624 : Int32).toInt = 1624 from (by decide)) (show (0 : Int) ≤ 1624 from by omega); omega)))
        obtain rfl : x124 = x132 := (el_same m131 m123 rfl).symm
        refine lv_bipush (v := 60) hx hb dX12_weather_104 (by decide) ?_
        refine lv_icmp_ne (tgt := 111) hx hb dX12_weather_106 (by decide) (fun c133 => ?_) (fun c133 => ?_)
        · have t134 : x124.toInt ≠ 60 := ti_ne c133 rfl (by decide)
          refine lv_aload_n hx hb dX12_weather_111 rfl (lv_at hl 2 rfl) ?_
          refine tw_get hx hb hts bF_X12 hown hK hT hr_o0 shm_0 rfl 1 (by decide) (ht_at hts 10 rfl) (fun _ h9 => h9) dX12_weather_112 (fun v9 m135 h9 => ?_)
          obtain ⟨rfl, hg136⟩ := h9 _ rfl
          refine lv_iload hx hb dX12_weather_115 (lv_at hl 0 rfl) ?_
          refine lv_iload_n hx hb dX12_weather_117 rfl (lv_at hl 4 rfl) ?_
          refine tw_iast2 (Sg1 := (SHm q (wP wZ wN wH wB wC wL wK (sU wU (x127.toNatClampNeg - 1400) (p1.toInt + 1000).toNat) wV) PI im PM PT lS lB lE lN)) (i := x127) (x := p1) hx hb hK hT hG hS hg122 shm_2 rfl shm_2 shm_o2 (fun b9 h9 => hgu b9 1 h9) (vin_t (a := x127.toInt) rfl (by omega) (by omega)) (gp_of (gi_all _) (w_fre (by have q9 := tn_of (show x127.toInt = x127.toInt from rfl) (show (0 : Int) ≤ x127.toInt from by omega); omega)) (wX_s (k := x127.toNatClampNeg - 1400) (v := (p1.toInt + 1000).toNat) ⟨by have q9 := tn_of (show x127.toInt = x127.toInt from rfl) (show (0 : Int) ≤ x127.toInt from by omega); omega, by have q9 := tn_of (show x127.toInt = x127.toInt from rfl) (show (0 : Int) ≤ x127.toInt from by omega); omega⟩ (by omega) (by have := (show p1.toInt = p1.toInt from rfl); omega))) (fun k9 hk9 hne9 v9 hv9 he9 => by obtain ⟨x9, rfl, p9⟩ := he9; exact ⟨x9, rfl, wP_U (by omega) (pl := x127.toNatClampNeg) ⟨by have q9 := tn_of (show x127.toInt = x127.toInt from rfl) (show (0 : Int) ≤ x127.toInt from by omega); omega, by have q9 := tn_of (show x127.toInt = x127.toInt from rfl) (show (0 : Int) ≤ x127.toInt from by omega); omega⟩ hne9 p9⟩) dX12_weather_118 (fun H locs hT oq m137 oi hS => ?_)
          have hF := hF.ast hg122 skm_2 oq (by decide)
          have m138 := (oi _ (tn_ne (show (1624 : Int32).toInt = 1624 from (by decide)) (show x127.toInt = x127.toInt from rfl) (by omega) (by omega) (by omega))).trans m123
          refine lv_aload_n hx hb dX12_weather_119 rfl (lv_at hl 2 rfl) ?_
          refine tw_get hx hb hts bF_X12 hown hK hT hr_o0 shm_0 rfl 1 (by decide) (ht_at hts 10 rfl) (fun _ h9 => h9) dX12_weather_120 (fun v9 m139 h9 => ?_)
          obtain ⟨rfl, hg140⟩ := h9 _ rfl
          refine lv_iload hx hb dX12_weather_123 (lv_at hl 0 rfl) ?_
          refine lv_iconst (v := 1) hx hb dX12_weather_125 (by decide) ?_
          refine lv_iadd hx hb dX12_weather_126 ?_
          refine lv_topi (fun x141 ex141 => ?_)
          have t142 : x141.toInt = x127.toInt + 1 := ti_add ex141 rfl (by decide) (by omega) (by omega)
          refine lv_iload_n hx hb dX12_weather_127 rfl (lv_at hl 5 rfl) ?_
          refine tw_iast2 (Sg1 := (SHm q (wP wZ wN wH wB wC wL wK (sU (sU wU (x127.toNatClampNeg - 1400) (p1.toInt + 1000).toNat) (x141.toNatClampNeg - 1400) (p2.toInt + 1000).toNat) wV) PI im PM PT lS lB lE lN)) (i := x141) (x := p2) hx hb hK hT hG hS hg122 shm_2 rfl shm_2 shm_o2 (fun b9 h9 => hgu b9 1 h9) (vin_t (a := x141.toInt) rfl (by omega) (by omega)) (gp_of (gi_of (show p2.toInt = p2.toInt from rfl) (by omega) (by omega)) (w_rai (by have q9 := tn_of (show x141.toInt = x141.toInt from rfl) (show (0 : Int) ≤ x141.toInt from by omega); omega)) (wX_s (k := x141.toNatClampNeg - 1400) (v := (p2.toInt + 1000).toNat) ⟨by have q9 := tn_of (show x141.toInt = x141.toInt from rfl) (show (0 : Int) ≤ x141.toInt from by omega); omega, by have q9 := tn_of (show x141.toInt = x141.toInt from rfl) (show (0 : Int) ≤ x141.toInt from by omega); omega⟩ (by omega) (by have := (show p2.toInt = p2.toInt from rfl); omega))) (fun k9 hk9 hne9 v9 hv9 he9 => by obtain ⟨x9, rfl, p9⟩ := he9; exact ⟨x9, rfl, wP_U (by omega) (pl := x141.toNatClampNeg) ⟨by have q9 := tn_of (show x141.toInt = x141.toInt from rfl) (show (0 : Int) ≤ x141.toInt from by omega); omega, by have q9 := tn_of (show x141.toInt = x141.toInt from rfl) (show (0 : Int) ≤ x141.toInt from by omega); omega⟩ hne9 p9⟩) dX12_weather_128 (fun H locs hT oq m143 oi hS => ?_)
          have hF := hF.ast hg122 skm_2 oq (by decide)
          have m144 := (oi _ (tn_ne (show (1624 : Int32).toInt = 1624 from (by decide)) (show x141.toInt = x141.toInt from rfl) (by omega) (by omega) (by omega))).trans m138
          refine lv_aload_n hx hb dX12_weather_129 rfl (lv_at hl 2 rfl) ?_
          refine tw_get hx hb hts bF_X12 hown hK hT hr_o0 shm_0 rfl 1 (by decide) (ht_at hts 10 rfl) (fun _ h9 => h9) dX12_weather_130 (fun v9 m146 h9 => ?_)
          obtain ⟨rfl, hg147⟩ := h9 _ rfl
          refine lv_iload hx hb dX12_weather_133 (lv_at hl 1 rfl) ?_
          refine lv_dup2_11 hx hb dX12_weather_135 rfl rfl ?_
          refine tw_iald (i := 1624) hx hb hK hT hg122 shm_2 rfl (by unfold vp_in; decide) dX12_weather_136 (fun v9 m148 h9 => ?_)
          obtain ⟨x149, rfl, gx149, kx149⟩ := (gp_at h9 (w_rac (by have q9 := tn_of (show (1624 : Int32).toInt = 1624 from (by decide)) (show (0 : Int) ≤ 1624 from by omega); omega)))
          obtain rfl : x124 = x149 := (el_same m148 m144 rfl).symm
          refine lv_iconst (v := 1) hx hb dX12_weather_137 (by decide) ?_
          refine lv_iadd hx hb dX12_weather_138 ?_
          refine lv_topi (fun x150 ex150 => ?_)
          have t151 : x150.toInt = x124.toInt + 1 := ti_add ex150 rfl (by decide) (by omega) (by omega)
          refine tw_iast2 (Sg1 := (SHm q (wP wZ wN wH wB wC wL wK (sU (sU (sU wU (x127.toNatClampNeg - 1400) (p1.toInt + 1000).toNat) (x141.toNatClampNeg - 1400) (p2.toInt + 1000).toNat) ((1624 : Int32).toNatClampNeg - 1400) (x150.toInt + 1000).toNat) wV) PI im PM PT lS lB lE lN)) (i := 1624) (x := x150) hx hb hK hT hG hS hg122 shm_2 rfl shm_2 shm_o2 (fun b9 h9 => hgu b9 1 h9) (by unfold vp_in; decide) (gp_of (gi_of (show x150.toInt = x150.toInt from rfl) (by omega) (by omega)) (w_rac (by have q9 := tn_of (show (1624 : Int32).toInt = 1624 from (by decide)) (show (0 : Int) ≤ 1624 from by omega); omega)) (wX_s (k := (1624 : Int32).toNatClampNeg - 1400) (v := (x150.toInt + 1000).toNat) ⟨by have q9 := tn_of (show (1624 : Int32).toInt = 1624 from (by decide)) (show (0 : Int) ≤ 1624 from by omega); omega, by have q9 := tn_of (show (1624 : Int32).toInt = 1624 from (by decide)) (show (0 : Int) ≤ 1624 from by omega); omega⟩ (by omega) (by have := (show x150.toInt = x150.toInt from rfl); omega))) (fun k9 hk9 hne9 v9 hv9 he9 => by obtain ⟨x9, rfl, p9⟩ := he9; exact ⟨x9, rfl, wP_U (by omega) (pl := (1624 : Int32).toNatClampNeg) ⟨by have q9 := tn_of (show (1624 : Int32).toInt = 1624 from (by decide)) (show (0 : Int) ≤ 1624 from by omega); omega, by have q9 := tn_of (show (1624 : Int32).toInt = 1624 from (by decide)) (show (0 : Int) ≤ 1624 from by omega); omega⟩ hne9 p9⟩) dX12_weather_139 (fun H locs hT oq m152 oi hS => ?_)
          have hF := hF.ast hg122 skm_2 oq (by decide)
          refine lv_aload_n hx hb dX12_weather_140 rfl (lv_at hl 2 rfl) ?_
          refine lv_iconst (v := 0) hx hb dX12_weather_141 (by decide) ?_
          refine tw_put (v := .int 0) (ty := .int) hx hb hts bF_X12 tyX12 tyX12_ok nmX12 hown hK hT hG hS hr_o0 shm_0 rfl 9 (by decide) (ht_at hts 11 rfl) (fun _ h9 => h9) rfl (by decide +kernel) rfl rfl (gl_at rfl (gi_of (show (0 : Int32).toInt = 0 from (by decide)) (by first | decide | omega) (by first | decide | omega))) dX12_weather_142 (fun H locs hT oq m155 oj hS => ?_)
          have hF := hF.put hr_o0 skm_0 oq oj (by decide)
          have m158 := (el_kept (oq _ (gne hg122 hr_o0 (by decide)))).trans m152
          refine lv_aload_n hx hb dX12_weather_145 rfl (lv_at hl 2 rfl) ?_
          refine tw_get hx hb hts bF_X12 hown hK hT hr_o0 shm_0 rfl 1 (by decide) (ht_at hts 10 rfl) (fun _ h9 => h9) dX12_weather_146 (fun v9 m159 h9 => ?_)
          obtain ⟨rfl, hg160⟩ := h9 _ rfl
          refine lv_iload hx hb dX12_weather_149 (lv_at hl 1 rfl) ?_
          refine tw_iald (i := 1624) hx hb hK hT hg122 shm_2 rfl (by unfold vp_in; decide) dX12_weather_151 (fun v9 m161 h9 => ?_)
          obtain ⟨x162, rfl, gx162, kx162⟩ := (gp_at h9 (w_rac (by have q9 := tn_of (show (1624 : Int32).toInt = 1624 from (by decide)) (show (0 : Int) ≤ 1624 from by omega); omega)))
          obtain rfl : x150 = x162 := (el_same m161 m158 rfl).symm
          exact W.iret (v := x150) hx hb hr (fun t ht hW => ⟨⟨x150, (sU (sU (sU wU (x127.toNatClampNeg - 1400) (p1.toInt + 1000).toNat) (x141.toNatClampNeg - 1400) (p2.toInt + 1000).toNat) ((1624 : Int32).toNatClampNeg - 1400) (x150.toInt + 1000).toNat), rfl, (by exact ⟨(by have q8 := ti_all x150; omega), (fun w9 h9 => by have := tn_of (show x127.toInt = x127.toInt from rfl) (by omega); have := tn_of (show x141.toInt = x141.toInt from rfl) (by omega); have : (1624 : Int32).toNatClampNeg = 1624 := (by decide); rw [sU_o (by omega)]; rw [sU_o (by omega)]; rw [sU_o (by omega)])⟩), by (try dsimp only); rw [ht]; exact ⟨hT, hF⟩⟩, hS.F ht⟩) hS.2.2 dX12_weather_152
        · have t163 : x124.toInt = 60 := ti_eq c133 rfl (by decide)
          refine lv_iconst (v := (-1)) hx hb dX12_weather_109 (by decide) ?_
          exact W.iret (v := (-1)) hx hb hr (fun t ht hW => ⟨⟨(-1), wU, rfl, (by exact ⟨(rg_t (a := (-1)) (by decide) (by first | decide | omega) (by first | decide | omega)), (fun _ _ => rfl)⟩), by (try dsimp only); rw [ht]; exact ⟨hT, hF⟩⟩, hS.F ht⟩) hS.2.2 dX12_weather_110
      · have t164 : r100.toInt = 0 := ti_eq c106 rfl (by decide)
        have t165 : (0 : Int32).toInt = 0 := by decide
        have t166 : (20 : Int32).toInt = 20 := by decide
        have t167 : p2.toInt < (0 : Int32).toInt ∨ (20 : Int32).toInt < p2.toInt := hi105 c106
        refine lv_goto (tgt := 43) hx hb dX12_weather_30 (by decide) ?_
        refine lv_iconst (v := 1) hx hb dX12_weather_43 (by decide) ?_
        refine lv_goto (tgt := 48) hx hb dX12_weather_44 (by decide) ?_
        refine lv_iconst (v := 1) hx hb dX12_weather_48 (by decide) ?_
        have hFc := gA_free hG hA hS
        refine va_calli (va_runV (As := [.int 1, .int 1]) (rest := []) ⟨hx, hb, hml, hown, hts⟩ (s_throwsIf l dC dI kA adK adV G H q wZ wN wH wB wC wL wK wU wV PI im PM PT lS lB lE lN o0 1 1 hT hr_o0 (rg_t (a := 1) (by decide) (by first | decide | omega) (by first | decide | omega)) hgz hgn hgh hgb hgc hgi hgu) (cwV 2 hts (goodIn_app (goodIn_r _ [8, 9, 10, 6] rfl (by decide +kernel)) (goodIn_ca (goodIn_r _ [7, 1] rfl (by decide +kernel)) (bs_in _ _))) rfl rfl rfl (by decide +kernel) ⟨(Nat.le_of_ble_eq_true rfl), (Nat.le_of_ble_eq_true rfl)⟩) ⟨fun a U g mk q => by obtain ⟨q0, q1, qK, qE⟩ := q; exact ⟨q0, q1, va_K.moved (u := U) (U := U.calling g mk a) (Vm.Alike.refl U.vm) qK, EVS.blind g mk a qE⟩, gH_rc hK hT hr_o0 shm_0 rfl, fun U hU hW => ⟨rfl, hU, va_K.moved hW.alike hK, hE.call hS hFc hU hW⟩⟩ rfl rfl hl.1 rfl (lv_room (Nat.le_of_ble_eq_true rfl)) dX12_weather_49 ⟨(Nat.le_of_ble_eq_true rfl), (Nat.le_of_ble_eq_true rfl)⟩) hS (fun q _ h => hFc q h) hFc (fun r168 u t H locs ht hvm hw169 hB _ _ hS => ?_)
        obtain ⟨hT, hF1⟩ := hB
        rw [ht] at hT hF1
        have hF := hF.more hF1 (by decide)
        try dsimp only at hw169
        obtain ⟨h171, hd172⟩ := hw169
        obtain rfl : (1 : Int32) = r168 := hd172.symm
        refine lv_if_eq (tgt := 57) hx hb dX12_weather_52 (by decide) (fun c173 => absurd c173 (by decide)) (fun c173 => ?_)
        refine lv_iconst (v := 0) hx hb dX12_weather_55 (by decide) ?_
        exact W.iret (v := 0) hx hb hr (fun t ht hW => ⟨⟨0, wU, rfl, (by exact ⟨(rg_t (a := 0) (by decide) (by first | decide | omega) (by first | decide | omega)), (fun _ _ => rfl)⟩), by (try dsimp only); rw [ht]; exact ⟨hT, hF⟩⟩, hS.F ht⟩) hS.2.2 dX12_weather_56
def w_s_lawLevel : List Cond := .code yX12_lawLevel cX12_lawLevel 4 (some .int) :: (HAppend.hAppend (α := List Cond) (β := List Cond) (γ := List Cond) [.fieldLink RX12 194 "SeaLandModel" "thrown" "I", .code yX12_noSquare cX12_noSquare 1 (some .boolean), .code yX12_in cX12_in 3 (some .boolean), .methodLink RX12 197 yX12_in, .static yX12_in, .initialized RX12, .methodLink RX12 220 yX12_noSquare, .static yX12_noSquare, .code yX12_throwsIf cX12_throwsIf 3 (some .boolean), .methodLink RX12 224 yX12_throwsIf, .instanceMethod yX12_throwsIf, .selects RX12 yX12_throwsIf yX12_throwsIf, .fieldLink RX12 42 "SeaLandModel" "lines" "[I", .fieldLink RX12 45 "SeaLandModel" "sort" "[I", .fieldLink RX12 54 "SeaLandModel" "from" "[I", .fieldLink RX12 57 "SeaLandModel" "to" "[I", .code yX12_isIn cX12_isIn 5 (some .boolean), .methodLink RX12 207 Lib.Math.min.name, .static Lib.Math.min.name, .initialized "java/lang/Math", .code Lib.Math.min.name Lib.Math.min.code 2 (some .int), .methodLink RX12 211 Lib.Math.max.name, .static Lib.Math.max.name, .code Lib.Math.max.name Lib.Math.max.code 2 (some .int), .methodLink RX12 232 yX12_isIn, .static yX12_isIn, .code yX12_hour cX12_hour 1 (some .int), .fieldLink RX12 9 "SeaLandModel" "world" "[I", .methodLink RX12 228 yX12_hour, .instanceMethod yX12_hour, .selects RX12 yX12_hour yX12_hour, .fieldLink RX12 51 "SeaLandModel" "winter" "[I", .fieldLink RX12 48 "SeaLandModel" "told" "[I"] bs)
set_option maxHeartbeats 4000000 in
set_option maxRecDepth 100000 in
theorem s_lawLevel (l : Launch) (dC : Nat → ClassId) (dI : Nat → Nat → Nat) (kA : Nat → ClassId) (adK adV : Nat → Nat) (G : gT) (H0 : Heap) (q : Nat → Nat) (wZ wN : Nat → Int) (wH wB wC : Int) (wL wK : Nat → Prop) (wU wV : Nat → Nat) (PI : Nat → Int → Prop) (im : Int) (PM PT : Nat → Int → Prop) (lS lB lE : Nat → Nat → Int → Prop) (lN : Nat → Int) (o0 : Nat) (p0 : Int32)  (hT : gH (dC, dI) kA (SHm q (wP wZ wN wH wB wC wL wK wU wV) PI im PM PT lS lB lE lN) G H0) (hr_o0 : G o0 = some 0) (hgz : ∀ i, 0 ≤ wZ i) (hgn : ∀ i, 6500000 ≤ wN i ∧ wN i ≤ 20200000) (hgh : 0 ≤ wH ∧ wH ≤ 40000) (hgb : 0 ≤ wB ∧ wB ≤ 3850000) (hgc : 0 ≤ wC ∧ wC ≤ 30) (hgi : 0 ≤ im ∧ im ≤ 1) (hgu : ∀ a t, G a = some (t + 1) → a = q t) : Met l yX12_lawLevel w_s_lawLevel ({ frames := 2, cells := 0, slots := 0, locals := 64 }) (va_Pc [.ref o0, .int p0] (fun U => U.heap = H0 ∧ va_K (dC, dI) vwCl (tyl kA) U ∧ EVS adK adV (gA G H0.size) U U.heap)) (va_Qi (fun (r : Int32) (u : Unit) => True) (fun (_ : Unit) (t : State) => gH (dC, dI) kA (SHm q (wP wZ wN wH wB wC wL wK wU wV) PI im PM PT lS lB lE lN) G t.heap ∧ gF (dC, dI) SKm G ([(0, 0)] : List (Nat × Nat)) H0 t.heap) (gA G H0.size)) 0 0 (gA G H0.size) := by
  refine Met.ofW (cc := cX12_lawLevel) (maxL := 4) (ret := (some .int)) (by decide) rfl ?_
  intro p e s m args below meth c s₁ B hml hv
  obtain ⟨rfl, hH0, hK, hE⟩ := hv
  have hx := B.exec
  have hb := B.bytes
  have hr := B.returns
  have hts := atoms_spec (ws := w_s_lawLevel) B.pre
  have hown : s.vm.findClass RX12 = some m.cls := findClass_of_methodNamed B.named
  have hlocks := B.notSynchronized
  subst hH0
  generalize hAe : gA G s.heap.size = A at hE ⊢
  have hA : ∀ q : Nat, s.heap.size ≤ q → A q := fun q h => by rw [← hAe]; exact Or.inr h
  have hG := gA_of hAe
  have hS : va_S A s.heap s.heap [] := va_S.rf
  have hF : gF (dC, dI) SKm G ([(0, 0)] : List (Nat × Nat)) s.heap s.heap := gF.rf
  have hl := lv_entry ([.ref o0, .int p0]) (n := 4) (Nat.le_of_ble_eq_true rfl)
  rw [lg_entry_eq]
  generalize (lg_sl ([.ref o0, .int p0]) ++ List.replicate (4 - (lg_sl ([.ref o0, .int p0])).length) Slot.unset).toArray = ls at hl ⊢
  have hl : lv_has ls 4 [(0, .ref o0), (1, .int p0)] := hl
  refine lv_aload_n hx hb dX12_lawLevel_0 rfl (lv_at hl 0 rfl) ?_
  refine lv_iconst (v := 0) hx hb dX12_lawLevel_1 (by decide) ?_
  refine tw_put (v := .int 0) (ty := .int) hx hb hts bF_X12 tyX12 tyX12_ok nmX12 hown hK hT hG hS hr_o0 shm_0 rfl 0 (by decide) (ht_at hts 0 rfl) (fun _ h9 => h9) rfl (by decide +kernel) rfl rfl (gl_at rfl (gi_all _)) dX12_lawLevel_2 (fun H locs hT oq m1 oj hS => ?_)
  have hF := hF.put hr_o0 skm_0 oq oj (by decide)
  refine lv_aload_n hx hb dX12_lawLevel_5 rfl (lv_at hl 0 rfl) ?_
  refine lv_iload_n hx hb dX12_lawLevel_6 rfl (lv_at hl 1 rfl) ?_
  have hFc := gA_free hG hA hS
  refine va_calli (va_runS (As := [.int p0]) (rest := [.ref o0]) ⟨hx, hb, hml, hown, hts⟩ (s_noSquare l dC dI kA adK adV G H q wZ wN wH wB wC wL wK wU wV PI im PM PT lS lB lE lN p0 hT hgz hgn hgh hgb hgc hgi hgu) (va_cwS 1 hts (goodIn_app (goodIn_r _ [7, 8, 6] rfl (by decide +kernel)) (goodIn_ca (goodIn_r _ [2, 3, 4, 5, 6] rfl (by decide +kernel)) (bs_in _ _))) rfl rfl rfl (by decide +kernel) ⟨(Nat.le_of_ble_eq_true rfl), (Nat.le_of_ble_eq_true rfl)⟩) ⟨fun a U g mk q => by obtain ⟨q0, q1, qK, qE⟩ := q; exact ⟨q0, q1, va_K.moved (u := U) (U := U.calling g mk a) (Vm.Alike.refl U.vm) qK, EVS.blind g mk a qE⟩, fun U hU hW => ⟨rfl, hU, va_K.moved hW.alike hK, hE.call hS hFc hU hW⟩⟩ rfl rfl hl.1 rfl (lv_room (Nat.le_of_ble_eq_true rfl)) dX12_lawLevel_7 ⟨(Nat.le_of_ble_eq_true rfl), (Nat.le_of_ble_eq_true rfl)⟩) hS (fun q _ h => hFc q h) hFc (fun r2 u t H locs ht hvm hw3 hB _ _ hS => ?_)
  obtain ⟨hT, hF1⟩ := hB
  rw [ht] at hT hF1
  have hF := hF.more hF1 (by decide)
  try dsimp only at hw3
  obtain ⟨h5, hi6⟩ := hw3
  refine lv_iconst (v := 1) hx hb dX12_lawLevel_10 (by decide) ?_
  have hFc := gA_free hG hA hS
  refine va_calli (va_runV (As := [.int r2, .int 1]) (rest := []) ⟨hx, hb, hml, hown, hts⟩ (s_throwsIf l dC dI kA adK adV G H q wZ wN wH wB wC wL wK wU wV PI im PM PT lS lB lE lN o0 r2 1 hT hr_o0 (by have q8 := ti_all r2; omega) hgz hgn hgh hgb hgc hgi hgu) (cwV 2 hts (goodIn_app (goodIn_r _ [10, 11, 12, 6] rfl (by decide +kernel)) (goodIn_ca (goodIn_r _ [9, 1] rfl (by decide +kernel)) (bs_in _ _))) rfl rfl rfl (by decide +kernel) ⟨(Nat.le_of_ble_eq_true rfl), (Nat.le_of_ble_eq_true rfl)⟩) ⟨fun a U g mk q => by obtain ⟨q0, q1, qK, qE⟩ := q; exact ⟨q0, q1, va_K.moved (u := U) (U := U.calling g mk a) (Vm.Alike.refl U.vm) qK, EVS.blind g mk a qE⟩, gH_rc hK hT hr_o0 shm_0 rfl, fun U hU hW => ⟨rfl, hU, va_K.moved hW.alike hK, hE.call hS hFc hU hW⟩⟩ rfl rfl hl.1 rfl (lv_room (Nat.le_of_ble_eq_true rfl)) dX12_lawLevel_11 ⟨(Nat.le_of_ble_eq_true rfl), (Nat.le_of_ble_eq_true rfl)⟩) hS (fun q _ h => hFc q h) hFc (fun r7 u t H locs ht hvm hw8 hB _ _ hS => ?_)
  obtain ⟨hT, hF1⟩ := hB
  rw [ht] at hT hF1
  have hF := hF.more hF1 (by decide)
  try dsimp only at hw8
  obtain ⟨h10, hd11⟩ := hw8
  obtain rfl : r2 = r7 := hd11.symm
  refine lv_if_eq (tgt := 19) hx hb dX12_lawLevel_14 (by decide) (fun c12 => ?_) (fun c12 => ?_)
  · have t13 : r2.toInt = 0 := ti_eq c12 rfl (by decide)
    have t14 : 0 ≤ p0.toInt ∧ p0.toInt ≤ 95 := hi6 c12
    refine lv_sipush (v := 1000) hx hb dX12_lawLevel_19 (by decide) ?_
    refine lv_istore_n (lv' := [(2, .int 1000), (0, .ref o0), (1, .int p0)]) hx hb dX12_lawLevel_22 rfl hl (by decide) rfl (fun ls hl => ?_)
    refine lv_iconst (v := 0) hx hb dX12_lawLevel_23 (by decide) ?_
    refine lv_istore_n (lv' := [(3, .int 0), (2, .int 1000), (0, .ref o0), (1, .int p0)]) hx hb dX12_lawLevel_24 rfl hl (by decide) rfl (fun ls hl => ?_)
    have key89 : ∀ (n89 i15 : Nat), i15 + n89 = 20 → 0 ≤ i15 → ∀ (z16 : Int32), ∀ (H : Heap) (locs : List Loc), gH (dC, dI) kA (SHm q (wP wZ wN wH wB wC wL wK wU wV) PI im PM PT lS lB lE lN) G H → gF (dC, dI) SKm G ([(0, 0)] : List (Nat × Nat)) s.heap H → va_S A s.heap H locs → ∀ ls : Array Slot, lv_has ls 4 [(3, .int (nI i15)), (2, .int z16), (0, .ref o0), (1, .int p0)] → W p l e (headSpec w_s_lawLevel ({ frames := 2, cells := 0, slots := 0, locals := 64 })).room s m #[.ref o0, .int p0] below meth c H locs 0 0 (MQ below (va_Qi (fun (r : Int32) (u : Unit) => True) (fun (_ : Unit) (t : State) => gH (dC, dI) kA (SHm q (wP wZ wN wH wB wC wL wK wU wV) PI im PM PT lS lB lE lN) G t.heap ∧ gF (dC, dI) SKm G ([(0, 0)] : List (Nat × Nat)) s.heap t.heap) A) #[.ref o0, .int p0] s 0 0 A) (F0 m 25 ls []) := by
      intro n89
      induction n89 with
      | zero =>
        intro i15 hn89 hlo90 z16 H locs hT hF hS  ls hl
        obtain rfl : 20 = i15 := by omega
        refine lv_iload_n hx hb dX12_lawLevel_25 rfl (lv_at hl 0 rfl) ?_
        refine lv_aload_n hx hb dX12_lawLevel_26 rfl (lv_at hl 2 rfl) ?_
        refine tw_get hx hb hts bF_X12 hown hK hT hr_o0 shm_0 rfl 18 (by decide) (ht_at hts 12 rfl) (fun _ h9 => h9) dX12_lawLevel_27 (fun v9 m91 h9 => ?_)
        obtain ⟨rfl, hg92⟩ := h9 _ rfl
        refine lv_iconst (v := 0) hx hb dX12_lawLevel_30 (by decide) ?_
        refine tw_iald (i := 0) hx hb hK hT hg92 shm_19 rfl (by unfold vp_in; decide) dX12_lawLevel_31 (fun v9 m93 h9 => ?_)
        obtain ⟨x94, rfl, gx94, kx94⟩ := (gn_at h9)
        refine lv_icmp_ge (tgt := 111) hx hb dX12_lawLevel_32 (by decide) (fun c95 => ?_) (fun c95 => (by exfalso; have q9 : ((20 : Nat) : Int) < x94.toInt := ti_nle c95 rfl (nI_toInt (by omega)); omega))
        have t96 : x94.toInt ≤ ((20 : Nat) : Int) := ti_le c95 rfl (nI_toInt (by omega))
        refine lv_iload_n hx hb dX12_lawLevel_111 rfl (lv_at hl 1 rfl) ?_
        exact W.iret (v := z16) hx hb hr (fun t ht hW => ⟨⟨z16, (), rfl, (by exact trivial), by (try dsimp only); rw [ht]; exact ⟨hT, hF⟩⟩, hS.F ht⟩) hS.2.2 dX12_lawLevel_112
      | succ n89 ih89 =>
        intro i15 hn89 hlo90 z16 H locs hT hF hS  ls hl
        have hlt96 : i15 < 20 := by omega
        refine lv_iload_n hx hb dX12_lawLevel_25 rfl (lv_at hl 0 rfl) ?_
        refine lv_aload_n hx hb dX12_lawLevel_26 rfl (lv_at hl 2 rfl) ?_
        refine tw_get hx hb hts bF_X12 hown hK hT hr_o0 shm_0 rfl 18 (by decide) (ht_at hts 12 rfl) (fun _ h9 => h9) dX12_lawLevel_27 (fun v9 m97 h9 => ?_)
        obtain ⟨rfl, hg98⟩ := h9 _ rfl
        refine lv_iconst (v := 0) hx hb dX12_lawLevel_30 (by decide) ?_
        refine tw_iald (i := 0) hx hb hK hT hg98 shm_19 rfl (by unfold vp_in; decide) dX12_lawLevel_31 (fun v9 m99 h9 => ?_)
        obtain ⟨x100, rfl, gx100, kx100⟩ := (gn_at h9)
        refine lv_icmp_ge (tgt := 111) hx hb dX12_lawLevel_32 (by decide) (fun c101 => ?_) (fun c101 => ?_)
        · have t102 : x100.toInt ≤ ((i15 : Nat) : Int) := ti_le c101 rfl (nI_toInt (by omega))
          refine lv_iload_n hx hb dX12_lawLevel_111 rfl (lv_at hl 1 rfl) ?_
          exact W.iret (v := z16) hx hb hr (fun t ht hW => ⟨⟨z16, (), rfl, (by exact trivial), by (try dsimp only); rw [ht]; exact ⟨hT, hF⟩⟩, hS.F ht⟩) hS.2.2 dX12_lawLevel_112
        · have t103 : ((i15 : Nat) : Int) < x100.toInt := ti_nle c101 rfl (nI_toInt (by omega))
          refine lv_aload_n hx hb dX12_lawLevel_35 rfl (lv_at hl 2 rfl) ?_
          refine tw_get hx hb hts bF_X12 hown hK hT hr_o0 shm_0 rfl 19 (by decide) (ht_at hts 13 rfl) (fun _ h9 => h9) dX12_lawLevel_36 (fun v9 m104 h9 => ?_)
          obtain ⟨rfl, hg105⟩ := h9 _ rfl
          refine lv_iload_n hx hb dX12_lawLevel_39 rfl (lv_at hl 0 rfl) ?_
          refine tw_iald (i := (nI i15)) hx hb hK hT hg105 shm_20 rfl (vp_in_nI (by omega) (by decide)) dX12_lawLevel_40 (fun v9 m106 h9 => ?_)
          obtain ⟨x107, rfl, gx107, kx107⟩ := h9
          refine lv_bipush (v := 7) hx hb dX12_lawLevel_41 (by decide) ?_
          refine lv_icmp_ne (tgt := 105) hx hb dX12_lawLevel_43 (by decide) (fun c108 => ?_) (fun c108 => ?_)
          · have t109 : x107.toInt ≠ 7 := ti_ne c108 rfl (by decide)
            refine lv_iinc (v := nI (i15 + 1)) (lv' := [(3, .int (nI (i15 + 1))), (2, .int z16), (0, .ref o0), (1, .int p0)]) hx hb dX12_lawLevel_105 hl (k := 0) rfl (nI_add i15 1) (by decide) rfl (fun ls hl => ?_)
            refine lv_goto (tgt := 25) hx hb dX12_lawLevel_108 (by decide) ?_
            exact ih89 (i15 + 1) (by omega) (by omega) z16 _ _ hT hF hS ls (lv_sub hl [0, 1, 2, 3] rfl)
          · have t110 : x107.toInt = 7 := ti_eq c108 rfl (by decide)
            refine lv_iload_n hx hb dX12_lawLevel_46 rfl (lv_at hl 3 rfl) ?_
            refine lv_aload_n hx hb dX12_lawLevel_47 rfl (lv_at hl 2 rfl) ?_
            refine tw_get hx hb hts bF_X12 hown hK hT hr_o0 shm_0 rfl 22 (by decide) (ht_at hts 14 rfl) (fun _ h9 => h9) dX12_lawLevel_48 (fun v9 m111 h9 => ?_)
            obtain ⟨rfl, hg112⟩ := h9 _ rfl
            refine lv_iload_n hx hb dX12_lawLevel_51 rfl (lv_at hl 0 rfl) ?_
            refine tw_iald (i := (nI i15)) hx hb hK hT hg112 shm_23 rfl (vp_in_nI (by omega) (by decide)) dX12_lawLevel_52 (fun v9 m113 h9 => ?_)
            obtain ⟨x114, rfl, gx114, kx114⟩ := h9
            refine lv_aload_n hx hb dX12_lawLevel_53 rfl (lv_at hl 2 rfl) ?_
            refine tw_get hx hb hts bF_X12 hown hK hT hr_o0 shm_0 rfl 23 (by decide) (ht_at hts 15 rfl) (fun _ h9 => h9) dX12_lawLevel_54 (fun v9 m115 h9 => ?_)
            obtain ⟨rfl, hg116⟩ := h9 _ rfl
            refine lv_iload_n hx hb dX12_lawLevel_57 rfl (lv_at hl 0 rfl) ?_
            refine tw_iald (i := (nI i15)) hx hb hK hT hg116 shm_24 rfl (vp_in_nI (by omega) (by decide)) dX12_lawLevel_58 (fun v9 m117 h9 => ?_)
            obtain ⟨x118, rfl, gx118, kx118⟩ := h9
            have hFc := gA_free hG hA hS
            refine va_calli (va_runS (As := [.int p0, .int x114, .int x118]) (rest := []) ⟨hx, hb, hml, hown, hts⟩ (s_isIn l dC dI kA adK adV G H q wZ wN wH wB wC wL wK wU wV PI im PM PT lS lB lE lN p0 x114 x118 hT hgz hgn hgh hgb hgc hgi hgu) (va_cwS 3 hts (goodIn_app (goodIn_r _ [25, 26, 6] rfl (by decide +kernel)) (goodIn_ca (goodIn_r _ [17, 18, 19, 20, 21, 22, 23, 24, 3, 4, 5, 6] rfl (by decide +kernel)) (bs_in _ _))) rfl rfl rfl (by decide +kernel) ⟨(Nat.le_of_ble_eq_true rfl), (Nat.le_of_ble_eq_true rfl)⟩) ⟨fun a U g mk q => by obtain ⟨q0, q1, qK, qE⟩ := q; exact ⟨q0, q1, va_K.moved (u := U) (U := U.calling g mk a) (Vm.Alike.refl U.vm) qK, EVS.blind g mk a qE⟩, fun U hU hW => ⟨rfl, hU, va_K.moved hW.alike hK, hE.call hS hFc hU hW⟩⟩ rfl rfl hl.1 rfl (lv_room (Nat.le_of_ble_eq_true rfl)) dX12_lawLevel_59 ⟨(Nat.le_of_ble_eq_true rfl), (Nat.le_of_ble_eq_true rfl)⟩) hS (fun q _ h => hFc q h) hFc (fun r119 u t H locs ht hvm hw120 hB _ _ hS => ?_)
            obtain ⟨hT, hF1⟩ := hB
            rw [ht] at hT hF1
            have hF := hF.more hF1 (by decide)
            try dsimp only at hw120
            have h125 := hw120
            refine lv_if_eq (tgt := 105) hx hb dX12_lawLevel_62 (by decide) (fun c126 => ?_) (fun c126 => ?_)
            · have t127 : r119.toInt = 0 := ti_eq c126 rfl (by decide)
              refine lv_iinc (v := nI (i15 + 1)) (lv' := [(3, .int (nI (i15 + 1))), (2, .int z16), (0, .ref o0), (1, .int p0)]) hx hb dX12_lawLevel_105 hl (k := 0) rfl (nI_add i15 1) (by decide) rfl (fun ls hl => ?_)
              refine lv_goto (tgt := 25) hx hb dX12_lawLevel_108 (by decide) ?_
              exact ih89 (i15 + 1) (by omega) (by omega) z16 _ _ hT hF hS ls (lv_sub hl [0, 1, 2, 3] rfl)
            · have t128 : r119.toInt ≠ 0 := ti_ne c126 rfl (by decide)
              refine lv_aload_n hx hb dX12_lawLevel_65 rfl (lv_at hl 2 rfl) ?_
              have hFc := gA_free hG hA hS
              refine va_calli (va_runV (As := []) (rest := []) ⟨hx, hb, hml, hown, hts⟩ (s_hour l dC dI kA adK adV G H q wZ wN wH wB wC wL wK wU wV PI im PM PT lS lB lE lN o0 hT hr_o0 hgz hgn hgh hgb hgc hgi hgu) (cwV 0 hts (goodIn_app (goodIn_r _ [29, 30, 31, 6] rfl (by decide +kernel)) (goodIn_ca (goodIn_r _ [27, 28] rfl (by decide +kernel)) (bs_in _ _))) rfl rfl rfl (by decide +kernel) ⟨(Nat.le_of_ble_eq_true rfl), (Nat.le_of_ble_eq_true rfl)⟩) ⟨fun a U g mk q => by obtain ⟨q0, q1, qK, qE⟩ := q; exact ⟨q0, q1, va_K.moved (u := U) (U := U.calling g mk a) (Vm.Alike.refl U.vm) qK, EVS.blind g mk a qE⟩, gH_rc hK hT hr_o0 shm_0 rfl, fun U hU hW => ⟨rfl, hU, va_K.moved hW.alike hK, hE.call hS hFc hU hW⟩⟩ rfl rfl hl.1 rfl (lv_room (Nat.le_of_ble_eq_true rfl)) dX12_lawLevel_66 ⟨(Nat.le_of_ble_eq_true rfl), (Nat.le_of_ble_eq_true rfl)⟩) hS (fun q _ h => hFc q h) hFc (fun r129 u t H locs ht hvm hw130 hB _ _ hS => ?_)
              obtain ⟨hT, hF1⟩ := hB
              rw [ht] at hT hF1
              have hF := hF.more hF1 (by decide)
              try dsimp only at hw130
              obtain ⟨h135, hf136⟩ := hw130
              refine lv_bipush (v := 24) hx hb dX12_lawLevel_69 (by decide) ?_
              refine lv_idiv hx hb dX12_lawLevel_71 (by decide) ?_
              refine lv_topi (fun x137 ex137 => ?_)
              have t138 : x137.toInt = r129.toInt / 24 := ti_div ex137 rfl (by decide) (by omega) (by omega)
              refine lv_sipush (v := 360) hx hb dX12_lawLevel_72 (by decide) ?_
              refine lv_irem hx hb dX12_lawLevel_75 (by decide) ?_
              refine lv_topi (fun x139 ex139 => ?_)
              have t140 : x139.toInt = x137.toInt % 360 := ti_rem ex139 rfl (by decide) (by omega) (by omega)
              refine lv_bipush (v := 90) hx hb dX12_lawLevel_76 (by decide) ?_
              refine lv_sipush (v := 269) hx hb dX12_lawLevel_78 (by decide) ?_
              have hFc := gA_free hG hA hS
              refine va_calli (va_runS (As := [.int x139, .int 90, .int 269]) (rest := []) ⟨hx, hb, hml, hown, hts⟩ (s_in l dC dI kA adK adV G H q wZ wN wH wB wC wL wK wU wV PI im PM PT lS lB lE lN x139 90 269 hT hgz hgn hgh hgb hgc hgi hgu) (va_cwS 3 hts (goodIn_app (goodIn_r _ [4, 5, 6] rfl (by decide +kernel)) (goodIn_ca (goodIn_r _ [3] rfl (by decide +kernel)) (bs_in _ _))) rfl rfl rfl (by decide +kernel) ⟨(Nat.le_of_ble_eq_true rfl), (Nat.le_of_ble_eq_true rfl)⟩) ⟨fun a U g mk q => by obtain ⟨q0, q1, qK, qE⟩ := q; exact ⟨q0, q1, va_K.moved (u := U) (U := U.calling g mk a) (Vm.Alike.refl U.vm) qK, EVS.blind g mk a qE⟩, fun U hU hW => ⟨rfl, hU, va_K.moved hW.alike hK, hE.call hS hFc hU hW⟩⟩ rfl rfl hl.1 rfl (lv_room (Nat.le_of_ble_eq_true rfl)) dX12_lawLevel_81 ⟨(Nat.le_of_ble_eq_true rfl), (Nat.le_of_ble_eq_true rfl)⟩) hS (fun q _ h => hFc q h) hFc (fun r141 u t H locs ht hvm hw142 hB _ _ hS => ?_)
              obtain ⟨hT, hF1⟩ := hB
              rw [ht] at hT hF1
              have hF := hF.more hF1 (by decide)
              try dsimp only at hw142
              obtain ⟨h147, hi148, hi149⟩ := hw142
              refine lv_if_eq (tgt := 97) hx hb dX12_lawLevel_84 (by decide) (fun c150 => ?_) (fun c150 => ?_)
              · have t151 : r141.toInt = 0 := ti_eq c150 rfl (by decide)
                have t152 : (90 : Int32).toInt = 90 := by decide
                have t153 : (269 : Int32).toInt = 269 := by decide
                have t154 : x139.toInt < (90 : Int32).toInt ∨ (269 : Int32).toInt < x139.toInt := hi149 c150
                refine lv_aload_n hx hb dX12_lawLevel_97 rfl (lv_at hl 2 rfl) ?_
                refine tw_get hx hb hts bF_X12 hown hK hT hr_o0 shm_0 rfl 21 (by decide) (ht_at hts 31 rfl) (fun _ h9 => h9) dX12_lawLevel_98 (fun v9 m155 h9 => ?_)
                obtain ⟨rfl, hg156⟩ := h9 _ rfl
                refine lv_iload_n hx hb dX12_lawLevel_101 rfl (lv_at hl 0 rfl) ?_
                refine tw_iald (i := (nI i15)) hx hb hK hT hg156 shm_22 rfl (vp_in_nI (by omega) (by decide)) dX12_lawLevel_102 (fun v9 m157 h9 => ?_)
                obtain ⟨x158, rfl, gx158, kx158⟩ := h9
                refine lv_ineg hx hb dX12_lawLevel_103 ?_
                refine lv_topi (fun x159 ex159 => ?_)
                refine lv_istore_n (lv' := [(2, .int x159), (3, .int (nI i15)), (0, .ref o0), (1, .int p0)]) hx hb dX12_lawLevel_104 rfl hl (by decide) rfl (fun ls hl => ?_)
                refine lv_iinc (v := nI (i15 + 1)) (lv' := [(3, .int (nI (i15 + 1))), (2, .int x159), (0, .ref o0), (1, .int p0)]) hx hb dX12_lawLevel_105 hl (k := 1) rfl (nI_add i15 1) (by decide) rfl (fun ls hl => ?_)
                refine lv_goto (tgt := 25) hx hb dX12_lawLevel_108 (by decide) ?_
                exact ih89 (i15 + 1) (by omega) (by omega) x159 _ _ hT hF hS ls (lv_sub hl [0, 1, 2, 3] rfl)
              · have t160 : r141.toInt ≠ 0 := ti_ne c150 rfl (by decide)
                have t161 : (90 : Int32).toInt = 90 := by decide
                have t162 : (269 : Int32).toInt = 269 := by decide
                have t163 : (90 : Int32).toInt ≤ x139.toInt ∧ x139.toInt ≤ (269 : Int32).toInt := hi148 ((bit_of ⟨by omega, by omega⟩).resolve_left c150)
                refine lv_aload_n hx hb dX12_lawLevel_87 rfl (lv_at hl 2 rfl) ?_
                refine tw_get hx hb hts bF_X12 hown hK hT hr_o0 shm_0 rfl 20 (by decide) (ht_at hts 32 rfl) (fun _ h9 => h9) dX12_lawLevel_88 (fun v9 m164 h9 => ?_)
                obtain ⟨rfl, hg165⟩ := h9 _ rfl
                refine lv_iload_n hx hb dX12_lawLevel_91 rfl (lv_at hl 0 rfl) ?_
                refine tw_iald (i := (nI i15)) hx hb hK hT hg165 shm_21 rfl (vp_in_nI (by omega) (by decide)) dX12_lawLevel_92 (fun v9 m166 h9 => ?_)
                obtain ⟨x167, rfl, gx167, kx167⟩ := h9
                refine lv_ineg hx hb dX12_lawLevel_93 ?_
                refine lv_topi (fun x168 ex168 => ?_)
                refine lv_goto (tgt := 104) hx hb dX12_lawLevel_94 (by decide) ?_
                refine lv_istore_n (lv' := [(2, .int x168), (3, .int (nI i15)), (0, .ref o0), (1, .int p0)]) hx hb dX12_lawLevel_104 rfl hl (by decide) rfl (fun ls hl => ?_)
                refine lv_iinc (v := nI (i15 + 1)) (lv' := [(3, .int (nI (i15 + 1))), (2, .int x168), (0, .ref o0), (1, .int p0)]) hx hb dX12_lawLevel_105 hl (k := 1) rfl (nI_add i15 1) (by decide) rfl (fun ls hl => ?_)
                refine lv_goto (tgt := 25) hx hb dX12_lawLevel_108 (by decide) ?_
                exact ih89 (i15 + 1) (by omega) (by omega) x168 _ _ hT hF hS ls (lv_sub hl [0, 1, 2, 3] rfl)
    exact key89 (20 - 0) 0 (by omega) (Nat.le_refl _) 1000 _ _ hT hF hS ls (lv_sub hl [0, 1, 2, 3] rfl)
  · have t169 : r2.toInt ≠ 0 := ti_ne c12 rfl (by decide)
    refine lv_iconst (v := 0) hx hb dX12_lawLevel_17 (by decide) ?_
    exact W.iret (v := 0) hx hb hr (fun t ht hW => ⟨⟨0, (), rfl, (by exact trivial), by (try dsimp only); rw [ht]; exact ⟨hT, hF⟩⟩, hS.F ht⟩) hS.2.2 dX12_lawLevel_18
def w_s_come : List Cond := .code yX12_come cX12_come 2 (some .boolean) :: (HAppend.hAppend (α := List Cond) (β := List Cond) (γ := List Cond) [.fieldLink RX12 194 "SeaLandModel" "thrown" "I", .code yX12_nobody cX12_nobody 2 (some .boolean), .fieldLink RX12 495 "SeaLandModel" "settlers" "I", .code yX12_in cX12_in 3 (some .boolean), .methodLink RX12 197 yX12_in, .static yX12_in, .initialized RX12, .methodLink RX12 486 yX12_nobody, .instanceMethod yX12_nobody, .selects RX12 yX12_nobody yX12_nobody, .code yX12_throwsIf cX12_throwsIf 3 (some .boolean), .methodLink RX12 224 yX12_throwsIf, .instanceMethod yX12_throwsIf, .selects RX12 yX12_throwsIf yX12_throwsIf, .fieldLink RX12 101 "SeaLandModel" "holds" "[I", .fieldLink RX12 110 "SeaLandModel" "came" "[Z"] bs)
set_option maxHeartbeats 4000000 in
set_option maxRecDepth 100000 in
theorem s_come (l : Launch) (dC : Nat → ClassId) (dI : Nat → Nat → Nat) (kA : Nat → ClassId) (adK adV : Nat → Nat) (G : gT) (H0 : Heap) (q : Nat → Nat) (wZ wN : Nat → Int) (wH wB wC : Int) (wL wK : Nat → Prop) (wU wV : Nat → Nat) (PI : Nat → Int → Prop) (im : Int) (PM PT : Nat → Int → Prop) (lS lB lE : Nat → Nat → Int → Prop) (lN : Nat → Int) (o0 : Nat) (p0 : Int32)  (hT : gH (dC, dI) kA (SHm q (wP wZ wN wH wB wC wL wK wU wV) PI im PM PT lS lB lE lN) G H0) (hr_o0 : G o0 = some 0) (hgz : ∀ i, 0 ≤ wZ i) (hgn : ∀ i, 6500000 ≤ wN i ∧ wN i ≤ 20200000) (hgh : 0 ≤ wH ∧ wH ≤ 40000) (hgb : 0 ≤ wB ∧ wB ≤ 3850000) (hgc : 0 ≤ wC ∧ wC ≤ 30) (hgi : 0 ≤ im ∧ im ≤ 1) (hgu : ∀ a t, G a = some (t + 1) → a = q t) : Met l yX12_come w_s_come ({ frames := 2, cells := 0, slots := 0, locals := 43 }) (va_Pc [.ref o0, .int p0] (fun U => U.heap = H0 ∧ va_K (dC, dI) vwCl (tyl kA) U ∧ EVS adK adV (gA G H0.size) U U.heap)) (va_Qi (fun (r : Int32) (u : Unit) => (0 ≤ r.toInt ∧ r.toInt ≤ 1)) (fun (_ : Unit) (t : State) => gH (dC, dI) kA (SHm q (wP wZ wN wH wB wC wL wK wU wV) PI im PM PT lS lB lE lN) G t.heap ∧ gF (dC, dI) SKm G ([(0, 0), (42, 0)] : List (Nat × Nat)) H0 t.heap) (gA G H0.size)) 0 0 (gA G H0.size) := by
  refine Met.ofW (cc := cX12_come) (maxL := 2) (ret := (some .boolean)) (by decide) rfl ?_
  intro p e s m args below meth c s₁ B hml hv
  obtain ⟨rfl, hH0, hK, hE⟩ := hv
  have hx := B.exec
  have hb := B.bytes
  have hr := B.returns
  have hts := atoms_spec (ws := w_s_come) B.pre
  have hown : s.vm.findClass RX12 = some m.cls := findClass_of_methodNamed B.named
  have hlocks := B.notSynchronized
  subst hH0
  generalize hAe : gA G s.heap.size = A at hE ⊢
  have hA : ∀ q : Nat, s.heap.size ≤ q → A q := fun q h => by rw [← hAe]; exact Or.inr h
  have hG := gA_of hAe
  have hS : va_S A s.heap s.heap [] := va_S.rf
  have hF : gF (dC, dI) SKm G ([(0, 0), (42, 0)] : List (Nat × Nat)) s.heap s.heap := gF.rf
  have hl := lv_entry ([.ref o0, .int p0]) (n := 2) (Nat.le_of_ble_eq_true rfl)
  rw [lg_entry_eq]
  generalize (lg_sl ([.ref o0, .int p0]) ++ List.replicate (2 - (lg_sl ([.ref o0, .int p0])).length) Slot.unset).toArray = ls at hl ⊢
  have hl : lv_has ls 2 [(0, .ref o0), (1, .int p0)] := hl
  refine lv_aload_n hx hb dX12_come_0 rfl (lv_at hl 0 rfl) ?_
  refine lv_iconst (v := 0) hx hb dX12_come_1 (by decide) ?_
  refine tw_put (v := .int 0) (ty := .int) hx hb hts bF_X12 tyX12 tyX12_ok nmX12 hown hK hT hG hS hr_o0 shm_0 rfl 0 (by decide) (ht_at hts 0 rfl) (fun _ h9 => h9) rfl (by decide +kernel) rfl rfl (gl_at rfl (gi_all _)) dX12_come_2 (fun H locs hT oq m1 oj hS => ?_)
  have hF := hF.put hr_o0 skm_0 oq oj (by decide)
  refine lv_aload_n hx hb dX12_come_5 rfl (lv_at hl 0 rfl) ?_
  refine lv_aload_n hx hb dX12_come_6 rfl (lv_at hl 0 rfl) ?_
  refine lv_iload_n hx hb dX12_come_7 rfl (lv_at hl 1 rfl) ?_
  have hFc := gA_free hG hA hS
  refine va_calli (va_runV (As := [.int p0]) (rest := [.ref o0]) ⟨hx, hb, hml, hown, hts⟩ (s_nobody l dC dI kA adK adV G H q wZ wN wH wB wC wL wK wU wV PI im PM PT lS lB lE lN o0 p0 hT hr_o0 hgz hgn hgh hgb hgc hgi hgu) (cwV 1 hts (goodIn_app (goodIn_r _ [8, 9, 10, 7] rfl (by decide +kernel)) (goodIn_ca (goodIn_r _ [2, 3, 4, 5, 6, 7] rfl (by decide +kernel)) (bs_in _ _))) rfl rfl rfl (by decide +kernel) ⟨(Nat.le_of_ble_eq_true rfl), (Nat.le_of_ble_eq_true rfl)⟩) ⟨fun a U g mk q => by obtain ⟨q0, q1, qK, qE⟩ := q; exact ⟨q0, q1, va_K.moved (u := U) (U := U.calling g mk a) (Vm.Alike.refl U.vm) qK, EVS.blind g mk a qE⟩, gH_rc hK hT hr_o0 shm_0 rfl, fun U hU hW => ⟨rfl, hU, va_K.moved hW.alike hK, hE.call hS hFc hU hW⟩⟩ rfl rfl hl.1 rfl (lv_room (Nat.le_of_ble_eq_true rfl)) dX12_come_8 ⟨(Nat.le_of_ble_eq_true rfl), (Nat.le_of_ble_eq_true rfl)⟩) hS (fun q _ h => hFc q h) hFc (fun r2 u t H locs ht hvm hw3 hB _ _ hS => ?_)
  obtain ⟨hT, hF1⟩ := hB
  rw [ht] at hT hF1
  have hF := hF.more hF1 (by decide)
  try dsimp only at hw3
  obtain ⟨h5, hi6⟩ := hw3
  refine lv_iconst (v := 1) hx hb dX12_come_11 (by decide) ?_
  have hFc := gA_free hG hA hS
  refine va_calli (va_runV (As := [.int r2, .int 1]) (rest := []) ⟨hx, hb, hml, hown, hts⟩ (s_throwsIf l dC dI kA adK adV G H q wZ wN wH wB wC wL wK wU wV PI im PM PT lS lB lE lN o0 r2 1 hT hr_o0 (by have q8 := ti_all r2; omega) hgz hgn hgh hgb hgc hgi hgu) (cwV 2 hts (goodIn_app (goodIn_r _ [12, 13, 14, 7] rfl (by decide +kernel)) (goodIn_ca (goodIn_r _ [11, 1] rfl (by decide +kernel)) (bs_in _ _))) rfl rfl rfl (by decide +kernel) ⟨(Nat.le_of_ble_eq_true rfl), (Nat.le_of_ble_eq_true rfl)⟩) ⟨fun a U g mk q => by obtain ⟨q0, q1, qK, qE⟩ := q; exact ⟨q0, q1, va_K.moved (u := U) (U := U.calling g mk a) (Vm.Alike.refl U.vm) qK, EVS.blind g mk a qE⟩, gH_rc hK hT hr_o0 shm_0 rfl, fun U hU hW => ⟨rfl, hU, va_K.moved hW.alike hK, hE.call hS hFc hU hW⟩⟩ rfl rfl hl.1 rfl (lv_room (Nat.le_of_ble_eq_true rfl)) dX12_come_12 ⟨(Nat.le_of_ble_eq_true rfl), (Nat.le_of_ble_eq_true rfl)⟩) hS (fun q _ h => hFc q h) hFc (fun r7 u t H locs ht hvm hw8 hB _ _ hS => ?_)
  obtain ⟨hT, hF1⟩ := hB
  rw [ht] at hT hF1
  have hF := hF.more hF1 (by decide)
  try dsimp only at hw8
  obtain ⟨h10, hd11⟩ := hw8
  obtain rfl : r2 = r7 := hd11.symm
  refine lv_if_ne (tgt := 36) hx hb dX12_come_15 (by decide) (fun c12 => ?_) (fun c12 => ?_)
  · have t13 : r2.toInt ≠ 0 := ti_ne c12 rfl (by decide)
    refine lv_iconst (v := 0) hx hb dX12_come_36 (by decide) ?_
    exact W.zret (v := 0) hx hb hr (by decide) (fun t ht hW => ⟨⟨0, (), rfl, (by exact (rg_t (a := 0) (by decide) (by first | decide | omega) (by first | decide | omega))), by (try dsimp only); rw [ht]; exact ⟨hT, hF⟩⟩, hS.F ht⟩) hS.2.2 dX12_come_37
  · have t14 : r2.toInt = 0 := ti_eq c12 rfl (by decide)
    have t15 : 0 ≤ p0.toInt ∧ p0.toInt ≤ 59 := hi6 c12
    refine lv_aload_n hx hb dX12_come_18 rfl (lv_at hl 0 rfl) ?_
    refine tw_get hx hb hts bF_X12 hown hK hT hr_o0 shm_0 rfl 38 (by decide) (ht_at hts 14 rfl) (fun _ h9 => h9) dX12_come_19 (fun v9 m16 h9 => ?_)
    obtain ⟨rfl, hg17⟩ := h9 _ rfl
    refine lv_iload_n hx hb dX12_come_22 rfl (lv_at hl 1 rfl) ?_
    refine tw_iald (i := p0) hx hb hK hT hg17 shm_39 rfl (vin_t (a := p0.toInt) rfl (by omega) (by omega)) dX12_come_23 (fun v9 m18 h9 => ?_)
    obtain ⟨x19, rfl, gx19, kx19⟩ := h9
    refine lv_if_lt (tgt := 36) hx hb dX12_come_24 (by decide) (fun c20 => ?_) (fun c20 => ?_)
    · have t21 : x19.toInt < 0 := ti_lt c20 rfl (by decide)
      refine lv_iconst (v := 0) hx hb dX12_come_36 (by decide) ?_
      exact W.zret (v := 0) hx hb hr (by decide) (fun t ht hW => ⟨⟨0, (), rfl, (by exact (rg_t (a := 0) (by decide) (by first | decide | omega) (by first | decide | omega))), by (try dsimp only); rw [ht]; exact ⟨hT, hF⟩⟩, hS.F ht⟩) hS.2.2 dX12_come_37
    · have t22 : 0 ≤ x19.toInt := ti_nlt c20 rfl (by decide)
      refine lv_aload_n hx hb dX12_come_27 rfl (lv_at hl 0 rfl) ?_
      refine tw_get hx hb hts bF_X12 hown hK hT hr_o0 shm_0 rfl 41 (by decide) (ht_at hts 15 rfl) (fun _ h9 => h9) dX12_come_28 (fun v9 m23 h9 => ?_)
      obtain ⟨rfl, hg24⟩ := h9 _ rfl
      refine lv_iload_n hx hb dX12_come_31 rfl (lv_at hl 1 rfl) ?_
      refine tw_zald (i := p0) hx hb hK hT hg24 shm_42 rfl (vin_t (a := p0.toInt) rfl (by omega) (by omega)) dX12_come_32 (fun v9 m25 h9 => ?_)
      obtain ⟨x26, rfl, gx26, kx26⟩ := h9
      refine lv_if_eq (tgt := 38) hx hb dX12_come_33 (by decide) (fun c27 => ?_) (fun c27 => ?_)
      · have t28 : x26.toInt = 0 := ti_eq c27 rfl (by decide)
        refine lv_aload_n hx hb dX12_come_38 rfl (lv_at hl 0 rfl) ?_
        refine tw_get hx hb hts bF_X12 hown hK hT hr_o0 shm_0 rfl 41 (by decide) (ht_at hts 15 rfl) (fun _ h9 => h9) dX12_come_39 (fun v9 m29 h9 => ?_)
        obtain ⟨rfl, hg30⟩ := h9 _ rfl
        refine lv_iload_n hx hb dX12_come_42 rfl (lv_at hl 1 rfl) ?_
        refine lv_iconst (v := 1) hx hb dX12_come_43 (by decide) ?_
        refine tw_zast (i := p0) (x := 1) hx hb hK hT hG hS hg24 shm_42 rfl (vin_t (a := p0.toInt) rfl (by omega) (by omega)) (gi_z (rg_t (a := 1) (by decide) (by first | decide | omega) (by first | decide | omega)) (by decide) (by decide)) dX12_come_44 (fun H locs hT oq m31 oi hS => ?_)
        have hF := hF.ast hg24 skm_42 oq (by decide)
        refine lv_iconst (v := 1) hx hb dX12_come_45 (by decide) ?_
        exact W.zret (v := 1) hx hb hr (by decide) (fun t ht hW => ⟨⟨1, (), rfl, (by exact (rg_t (a := 1) (by decide) (by first | decide | omega) (by first | decide | omega))), by (try dsimp only); rw [ht]; exact ⟨hT, hF⟩⟩, hS.F ht⟩) hS.2.2 dX12_come_46
      · have t33 : x26.toInt ≠ 0 := ti_ne c27 rfl (by decide)
        refine lv_iconst (v := 0) hx hb dX12_come_36 (by decide) ?_
        exact W.zret (v := 0) hx hb hr (by decide) (fun t ht hW => ⟨⟨0, (), rfl, (by exact (rg_t (a := 0) (by decide) (by first | decide | omega) (by first | decide | omega))), by (try dsimp only); rw [ht]; exact ⟨hT, hF⟩⟩, hS.F ht⟩) hS.2.2 dX12_come_37
def w_s_writesRow : List Cond := .code yX12_writesRow cX12_writesRow 2 none :: (HAppend.hAppend (α := List Cond) (β := List Cond) (γ := List Cond) [.fieldLink RX12 238 "SeaLandModel" "rows" "I", .fieldLink RX12 25 "SeaLandModel" "rowTold" "[I", .code yX12_level cX12_level 2 (some .int), .code yX12_isLand cX12_isLand 2 (some .boolean), .fieldLink RX12 9 "SeaLandModel" "world" "[I", .methodLink RX12 235 yX12_isLand, .instanceMethod yX12_isLand, .selects RX12 yX12_isLand yX12_isLand, .initialized RX12, .code yX12_hour cX12_hour 1 (some .int), .methodLink RX12 228 yX12_hour, .instanceMethod yX12_hour, .selects RX12 yX12_hour yX12_hour, .code yX12_outside cX12_outside 4 (some .int), .code yX12_in cX12_in 3 (some .boolean), .methodLink RX12 197 yX12_in, .static yX12_in, .methodLink RX12 247 yX12_outside, .instanceMethod yX12_outside, .selects RX12 yX12_outside yX12_outside, .methodLink RX12 285 yX12_level, .instanceMethod yX12_level, .selects RX12 yX12_level yX12_level, .fieldLink RX12 28 "SeaLandModel" "rowTrue" "[I"] bs)
set_option maxHeartbeats 4000000 in
set_option maxRecDepth 100000 in
theorem s_writesRow (l : Launch) (dC : Nat → ClassId) (dI : Nat → Nat → Nat) (kA : Nat → ClassId) (adK adV : Nat → Nat) (G : gT) (H0 : Heap) (q : Nat → Nat) (wZ wN : Nat → Int) (wH wB wC : Int) (wL wK : Nat → Prop) (wU wV : Nat → Nat) (PI : Nat → Int → Prop) (im : Int) (PM PT : Nat → Int → Prop) (lS lB lE : Nat → Nat → Int → Prop) (lN : Nat → Int) (o0 : Nat)  (hT : gH (dC, dI) kA (SHm q (wP wZ wN wH wB wC wL wK wU wV) PI im PM PT lS lB lE lN) G H0) (hr_o0 : G o0 = some 0) (hgz : ∀ i, 0 ≤ wZ i) (hgn : ∀ i, 6500000 ≤ wN i ∧ wN i ≤ 20200000) (hgh : 0 ≤ wH ∧ wH ≤ 40000) (hgb : 0 ≤ wB ∧ wB ≤ 3850000) (hgc : 0 ≤ wC ∧ wC ≤ 30) (hgi : 0 ≤ im ∧ im ≤ 1) (hgu : ∀ a t, G a = some (t + 1) → a = q t) : Met l yX12_writesRow w_s_writesRow ({ frames := 3, cells := 0, slots := 0, locals := 66 }) (va_Pc [.ref o0] (fun U => U.heap = H0 ∧ va_K (dC, dI) vwCl (tyl kA) U ∧ EVS adK adV (gA G H0.size) U U.heap)) (va_Qv (fun (u : Unit) => True) (fun (_ : Unit) (t : State) => gH (dC, dI) kA (SHm q (wP wZ wN wH wB wC wL wK wU wV) PI im PM PT lS lB lE lN) G t.heap ∧ gF (dC, dI) SKm G ([(0, 9), (8, 0), (9, 0)] : List (Nat × Nat)) H0 t.heap) (gA G H0.size)) 0 0 (gA G H0.size) := by
  refine Met.ofW (cc := cX12_writesRow) (maxL := 2) (ret := none) (by decide) rfl ?_
  intro p e s m args below meth c s₁ B hml hv
  obtain ⟨rfl, hH0, hK, hE⟩ := hv
  have hx := B.exec
  have hb := B.bytes
  have hr := B.returns
  have hts := atoms_spec (ws := w_s_writesRow) B.pre
  have hown : s.vm.findClass RX12 = some m.cls := findClass_of_methodNamed B.named
  have hlocks := B.notSynchronized
  subst hH0
  generalize hAe : gA G s.heap.size = A at hE ⊢
  have hA : ∀ q : Nat, s.heap.size ≤ q → A q := fun q h => by rw [← hAe]; exact Or.inr h
  have hG := gA_of hAe
  have hS : va_S A s.heap s.heap [] := va_S.rf
  have hF : gF (dC, dI) SKm G ([(0, 9), (8, 0), (9, 0)] : List (Nat × Nat)) s.heap s.heap := gF.rf
  have hl := lv_entry ([.ref o0]) (n := 2) (Nat.le_of_ble_eq_true rfl)
  rw [lg_entry_eq]
  generalize (lg_sl ([.ref o0]) ++ List.replicate (2 - (lg_sl ([.ref o0])).length) Slot.unset).toArray = ls at hl ⊢
  have hl : lv_has ls 2 [(0, .ref o0)] := hl
  refine lv_aload_n hx hb dX12_writesRow_0 rfl (lv_at hl 0 rfl) ?_
  refine tw_get hx hb hts bF_X12 hown hK hT hr_o0 shm_0 rfl 9 (by decide) (ht_at hts 0 rfl) (fun _ h9 => h9) dX12_writesRow_1 (fun v9 m1 h9 => ?_)
  obtain ⟨x2, rfl, gx2, kx2⟩ := h9 _ rfl
  refine lv_bipush (v := 24) hx hb dX12_writesRow_4 (by decide) ?_
  refine lv_icmp_ne (tgt := 65) hx hb dX12_writesRow_6 (by decide) (fun c3 => ?_) (fun c3 => ?_)
  · have t4 : x2.toInt ≠ 24 := ti_ne c3 rfl (by decide)
    refine lv_iconst (v := 0) hx hb dX12_writesRow_65 (by decide) ?_
    refine lv_istore_n (lv' := [(1, .int 0), (0, .ref o0)]) hx hb dX12_writesRow_66 rfl hl (by decide) rfl (fun ls hl => ?_)
    have jn66 : ∀ (H : Heap) (locs : List Loc), gH (dC, dI) kA (SHm q (wP wZ wN wH wB wC wL wK wU wV) PI im PM PT lS lB lE lN) G H → gF (dC, dI) SKm G ([(0, 9), (8, 0), (9, 0)] : List (Nat × Nat)) s.heap H → va_S A s.heap H locs → el H o0 (dI 15 9) = some (.int x2) → ∀ ls : Array Slot, lv_has ls 2 [(1, .int (nI 96)), (0, .ref o0)] → W p l e (headSpec w_s_writesRow ({ frames := 3, cells := 0, slots := 0, locals := 66 })).room s m #[.ref o0] below meth c H locs 0 0 (MQ below (va_Qv (fun (u : Unit) => True) (fun (_ : Unit) (t : State) => gH (dC, dI) kA (SHm q (wP wZ wN wH wB wC wL wK wU wV) PI im PM PT lS lB lE lN) G t.heap ∧ gF (dC, dI) SKm G ([(0, 9), (8, 0), (9, 0)] : List (Nat × Nat)) s.heap t.heap) A) #[.ref o0] s 0 0 A) (F0 m 117 ls []) := by
      intro  H locs hT hF hS m65 ls hl
      refine lv_aload_n hx hb dX12_writesRow_117 rfl (lv_at hl 1 rfl) ?_
      refine lv_dup hx hb dX12_writesRow_118 rfl ?_
      refine tw_getM (v := .int x2) hx hb hts bF_X12 hown hK hT hr_o0 shm_0 rfl 9 (by decide) (ht_at hts 0 rfl) (fun _ h9 => h9) m65 dX12_writesRow_119 ?_
      refine lv_iconst (v := 1) hx hb dX12_writesRow_122 (by decide) ?_
      refine lv_iadd hx hb dX12_writesRow_123 ?_
      refine lv_topi (fun x67 ex67 => ?_)
      have t68 : x67.toInt = x2.toInt + 1 := ti_add ex67 rfl (by decide) (by omega) (by omega)
      refine tw_put (v := .int x67) (ty := .int) hx hb hts bF_X12 tyX12 tyX12_ok nmX12 hown hK hT hG hS hr_o0 shm_0 rfl 9 (by decide) (ht_at hts 0 rfl) (fun _ h9 => h9) rfl (by decide +kernel) rfl rfl (gl_at rfl (gi_of (show x67.toInt = x67.toInt from rfl) (by omega) (by omega))) dX12_writesRow_124 (fun H locs hT oq m69 oj hS => ?_)
      have hF := hF.put hr_o0 skm_0 oq oj (by decide)
      exact W.vret hx hb hr (fun t ht hW => ⟨⟨(), rfl, (by exact trivial), by (try dsimp only); rw [ht]; exact ⟨hT, hF⟩⟩, hS.F ht⟩) hS.2.2 dX12_writesRow_127
    have key70 : ∀ (n70 i5 : Nat), i5 + n70 = 96 → 0 ≤ i5 → ∀ (H : Heap) (locs : List Loc), gH (dC, dI) kA (SHm q (wP wZ wN wH wB wC wL wK wU wV) PI im PM PT lS lB lE lN) G H → gF (dC, dI) SKm G ([(0, 9), (8, 0), (9, 0)] : List (Nat × Nat)) s.heap H → va_S A s.heap H locs → el H o0 (dI 15 9) = some (.int x2) → ∀ ls : Array Slot, lv_has ls 2 [(1, .int (nI i5)), (0, .ref o0)] → W p l e (headSpec w_s_writesRow ({ frames := 3, cells := 0, slots := 0, locals := 66 })).room s m #[.ref o0] below meth c H locs 0 0 (MQ below (va_Qv (fun (u : Unit) => True) (fun (_ : Unit) (t : State) => gH (dC, dI) kA (SHm q (wP wZ wN wH wB wC wL wK wU wV) PI im PM PT lS lB lE lN) G t.heap ∧ gF (dC, dI) SKm G ([(0, 9), (8, 0), (9, 0)] : List (Nat × Nat)) s.heap t.heap) A) #[.ref o0] s 0 0 A) (F0 m 67 ls []) := by
      intro n70
      induction n70 with
      | zero =>
        intro i5 hn70 hlo71  H locs hT hF hS m6 ls hl
        obtain rfl : 96 = i5 := by omega
        refine lv_iload_n hx hb dX12_writesRow_67 rfl (lv_at hl 0 rfl) ?_
        refine lv_bipush (v := 96) hx hb dX12_writesRow_68 (by decide) ?_
        refine lv_icmp_ge (tgt := 117) hx hb dX12_writesRow_70 (by decide) (fun c72 => ?_) (fun c72 => (by exfalso; have q9 : ((96 : Nat) : Int) < 96 := ti_nle c72 (by decide) (nI_toInt (by omega)); omega))
        have t73 : 96 ≤ ((96 : Nat) : Int) := ti_le c72 (by decide) (nI_toInt (by omega))
        exact jn66 _ _ hT hF hS m6 ls (lv_sub hl [0, 1] rfl)
      | succ n70 ih70 =>
        intro i5 hn70 hlo71  H locs hT hF hS m6 ls hl
        have hlt73 : i5 < 96 := by omega
        refine lv_iload_n hx hb dX12_writesRow_67 rfl (lv_at hl 0 rfl) ?_
        refine lv_bipush (v := 96) hx hb dX12_writesRow_68 (by decide) ?_
        refine lv_icmp_ge (tgt := 117) hx hb dX12_writesRow_70 (by decide) (fun c74 => (by exfalso; have q9 : 96 ≤ ((i5 : Nat) : Int) := ti_le c74 (by decide) (nI_toInt (by omega)); omega)) (fun c74 => ?_)
        have t75 : ((i5 : Nat) : Int) < 96 := ti_nle c74 (by decide) (nI_toInt (by omega))
        refine lv_aload_n hx hb dX12_writesRow_73 rfl (lv_at hl 1 rfl) ?_
        refine tw_get hx hb hts bF_X12 hown hK hT hr_o0 shm_0 rfl 7 (by decide) (ht_at hts 1 rfl) (fun _ h9 => h9) dX12_writesRow_74 (fun v9 m76 h9 => ?_)
        obtain ⟨rfl, hg77⟩ := h9 _ rfl
        refine lv_bipush (v := 96) hx hb dX12_writesRow_77 (by decide) ?_
        refine lv_aload_n hx hb dX12_writesRow_79 rfl (lv_at hl 1 rfl) ?_
        refine tw_getM (v := .int x2) hx hb hts bF_X12 hown hK hT hr_o0 shm_0 rfl 9 (by decide) (ht_at hts 0 rfl) (fun _ h9 => h9) m6 dX12_writesRow_80 ?_
        refine lv_imul hx hb dX12_writesRow_83 ?_
        refine lv_topi (fun x78 ex78 => ?_)
        have t79 : x78.toInt = 96 * x2.toInt := ti_mul ex78 (by decide) rfl (by omega) (by omega)
        refine lv_iload_n hx hb dX12_writesRow_84 rfl (lv_at hl 0 rfl) ?_
        refine lv_iadd hx hb dX12_writesRow_85 ?_
        refine lv_topi (fun x80 ex80 => ?_)
        have t81 : x80.toInt = x78.toInt + ((i5 : Nat) : Int) := ti_add ex80 rfl (nI_toInt (by omega)) (by omega) (by omega)
        refine lv_aload_n hx hb dX12_writesRow_86 rfl (lv_at hl 1 rfl) ?_
        refine lv_iload_n hx hb dX12_writesRow_87 rfl (lv_at hl 0 rfl) ?_
        have hFc := gA_free hG hA hS
        refine va_calli (va_runV (As := [.int (nI i5)]) (rest := [.int x80, .ref (q 7)]) ⟨hx, hb, hml, hown, hts⟩ (s_level l dC dI kA adK adV G H q wZ wN wH wB wC wL wK wU wV PI im PM PT lS lB lE lN o0 (nI i5) hT hr_o0 (rg_t (a := ((i5 : Nat) : Int)) (nI_toInt (by omega)) (by omega) (by omega)) hgz hgn hgh hgb hgc hgi hgu) (cwV 1 hts (goodIn_app (goodIn_r _ [21, 22, 23, 9] rfl (by decide +kernel)) (goodIn_ca (goodIn_r _ [3, 4, 5, 6, 7, 8, 9, 10, 11, 12, 13, 14, 15, 16, 17, 18, 19, 20] rfl (by decide +kernel)) (bs_in _ _))) rfl rfl rfl (by decide +kernel) ⟨(Nat.le_of_ble_eq_true rfl), (Nat.le_of_ble_eq_true rfl)⟩) ⟨fun a U g mk q => by obtain ⟨q0, q1, qK, qE⟩ := q; exact ⟨q0, q1, va_K.moved (u := U) (U := U.calling g mk a) (Vm.Alike.refl U.vm) qK, EVS.blind g mk a qE⟩, gH_rc hK hT hr_o0 shm_0 rfl, fun U hU hW => ⟨rfl, hU, va_K.moved hW.alike hK, hE.call hS hFc hU hW⟩⟩ rfl rfl hl.1 rfl (lv_room (Nat.le_of_ble_eq_true rfl)) dX12_writesRow_88 ⟨(Nat.le_of_ble_eq_true rfl), (Nat.le_of_ble_eq_true rfl)⟩) hS (fun q _ h => hFc q h) hFc (fun r82 u t H locs ht hvm hw83 hB _ _ hS => ?_)
        obtain ⟨hT, hF1⟩ := hB
        rw [ht] at hT hF1
        have m84 := (hF1.fld hr_o0 skm_0 (k := 9) (by decide) (by decide)).trans m6
        have hF := hF.more hF1 (by decide)
        try dsimp only at hw83
        have h85 := hw83
        refine tw_iast (i := x80) (x := r82) hx hb hK hT hG hS hg77 shm_8 rfl (vin_t (a := x80.toInt) rfl (by omega) (by omega)) (gi_all _) dX12_writesRow_91 (fun H locs hT oq m86 oi hS => ?_)
        have hF := hF.ast hg77 skm_8 oq (by decide)
        have m87 := (el_kept (oq _ (gne hr_o0 hg77 (by decide)))).trans m84
        refine lv_aload_n hx hb dX12_writesRow_92 rfl (lv_at hl 1 rfl) ?_
        refine tw_get hx hb hts bF_X12 hown hK hT hr_o0 shm_0 rfl 8 (by decide) (ht_at hts 23 rfl) (fun _ h9 => h9) dX12_writesRow_93 (fun v9 m88 h9 => ?_)
        obtain ⟨rfl, hg89⟩ := h9 _ rfl
        refine lv_bipush (v := 96) hx hb dX12_writesRow_96 (by decide) ?_
        refine lv_aload_n hx hb dX12_writesRow_98 rfl (lv_at hl 1 rfl) ?_
        refine tw_getM (v := .int x2) hx hb hts bF_X12 hown hK hT hr_o0 shm_0 rfl 9 (by decide) (ht_at hts 0 rfl) (fun _ h9 => h9) m87 dX12_writesRow_99 ?_
        refine lv_imul hx hb dX12_writesRow_102 ?_
        refine lv_topi (fun x90 ex90 => ?_)
        have t91 : x90.toInt = 96 * x2.toInt := ti_mul ex90 (by decide) rfl (by omega) (by omega)
        refine lv_iload_n hx hb dX12_writesRow_103 rfl (lv_at hl 0 rfl) ?_
        refine lv_iadd hx hb dX12_writesRow_104 ?_
        refine lv_topi (fun x92 ex92 => ?_)
        have t93 : x92.toInt = x90.toInt + ((i5 : Nat) : Int) := ti_add ex92 rfl (nI_toInt (by omega)) (by omega) (by omega)
        refine lv_aload_n hx hb dX12_writesRow_105 rfl (lv_at hl 1 rfl) ?_
        refine lv_iload_n hx hb dX12_writesRow_106 rfl (lv_at hl 0 rfl) ?_
        have hFc := gA_free hG hA hS
        refine va_calli (va_runV (As := [.int (nI i5)]) (rest := [.int x92, .ref (q 8)]) ⟨hx, hb, hml, hown, hts⟩ (s_level l dC dI kA adK adV G H q wZ wN wH wB wC wL wK wU wV PI im PM PT lS lB lE lN o0 (nI i5) hT hr_o0 (rg_t (a := ((i5 : Nat) : Int)) (nI_toInt (by omega)) (by omega) (by omega)) hgz hgn hgh hgb hgc hgi hgu) (cwV 1 hts (goodIn_app (goodIn_r _ [21, 22, 23, 9] rfl (by decide +kernel)) (goodIn_ca (goodIn_r _ [3, 4, 5, 6, 7, 8, 9, 10, 11, 12, 13, 14, 15, 16, 17, 18, 19, 20] rfl (by decide +kernel)) (bs_in _ _))) rfl rfl rfl (by decide +kernel) ⟨(Nat.le_of_ble_eq_true rfl), (Nat.le_of_ble_eq_true rfl)⟩) ⟨fun a U g mk q => by obtain ⟨q0, q1, qK, qE⟩ := q; exact ⟨q0, q1, va_K.moved (u := U) (U := U.calling g mk a) (Vm.Alike.refl U.vm) qK, EVS.blind g mk a qE⟩, gH_rc hK hT hr_o0 shm_0 rfl, fun U hU hW => ⟨rfl, hU, va_K.moved hW.alike hK, hE.call hS hFc hU hW⟩⟩ rfl rfl hl.1 rfl (lv_room (Nat.le_of_ble_eq_true rfl)) dX12_writesRow_107 ⟨(Nat.le_of_ble_eq_true rfl), (Nat.le_of_ble_eq_true rfl)⟩) hS (fun q _ h => hFc q h) hFc (fun r94 u t H locs ht hvm hw95 hB _ _ hS => ?_)
        obtain ⟨hT, hF1⟩ := hB
        rw [ht] at hT hF1
        have m96 := (hF1.fld hr_o0 skm_0 (k := 9) (by decide) (by decide)).trans m87
        have hF := hF.more hF1 (by decide)
        try dsimp only at hw95
        have h98 := hw95
        refine tw_iast (i := x92) (x := r94) hx hb hK hT hG hS hg89 shm_9 rfl (vin_t (a := x92.toInt) rfl (by omega) (by omega)) (gi_all _) dX12_writesRow_110 (fun H locs hT oq m99 oi hS => ?_)
        have hF := hF.ast hg89 skm_9 oq (by decide)
        have m100 := (el_kept (oq _ (gne hr_o0 hg89 (by decide)))).trans m96
        refine lv_iinc (v := nI (i5 + 1)) (lv' := [(1, .int (nI (i5 + 1))), (0, .ref o0)]) hx hb dX12_writesRow_111 hl (k := 0) rfl (nI_add i5 1) (by decide) rfl (fun ls hl => ?_)
        refine lv_goto (tgt := 67) hx hb dX12_writesRow_114 (by decide) ?_
        exact ih70 (i5 + 1) (by omega) (by omega) _ _ hT hF hS m100 ls (lv_sub hl [0, 1] rfl)
    exact key70 (96 - 0) 0 (by omega) (Nat.le_refl _) _ _ hT hF hS m1 ls (lv_sub hl [0, 1] rfl)
  · have t102 : x2.toInt = 24 := ti_eq c3 rfl (by decide)
    refine lv_bipush (v := 96) hx hb dX12_writesRow_9 (by decide) ?_
    refine lv_istore_n (lv' := [(1, .int 96), (0, .ref o0)]) hx hb dX12_writesRow_11 rfl hl (by decide) rfl (fun ls hl => ?_)
    have jn150 : ∀ (H : Heap) (locs : List Loc), gH (dC, dI) kA (SHm q (wP wZ wN wH wB wC wL wK wU wV) PI im PM PT lS lB lE lN) G H → gF (dC, dI) SKm G ([(0, 9), (8, 0), (9, 0)] : List (Nat × Nat)) s.heap H → va_S A s.heap H locs → el H o0 (dI 15 9) = some (.int x2) → ∀ ls : Array Slot, lv_has ls 2 [(1, .int (nI 2304)), (0, .ref o0)] → W p l e (headSpec w_s_writesRow ({ frames := 3, cells := 0, slots := 0, locals := 66 })).room s m #[.ref o0] below meth c H locs 0 0 (MQ below (va_Qv (fun (u : Unit) => True) (fun (_ : Unit) (t : State) => gH (dC, dI) kA (SHm q (wP wZ wN wH wB wC wL wK wU wV) PI im PM PT lS lB lE lN) G t.heap ∧ gF (dC, dI) SKm G ([(0, 9), (8, 0), (9, 0)] : List (Nat × Nat)) s.heap t.heap) A) #[.ref o0] s 0 0 A) (F0 m 55 ls []) := by
      intro  H locs hT hF hS m149 ls hl
      refine lv_aload_n hx hb dX12_writesRow_55 rfl (lv_at hl 1 rfl) ?_
      refine lv_dup hx hb dX12_writesRow_56 rfl ?_
      refine tw_getM (v := .int x2) hx hb hts bF_X12 hown hK hT hr_o0 shm_0 rfl 9 (by decide) (ht_at hts 0 rfl) (fun _ h9 => h9) m149 dX12_writesRow_57 ?_
      refine lv_iconst (v := 1) hx hb dX12_writesRow_60 (by decide) ?_
      refine lv_isub hx hb dX12_writesRow_61 ?_
      refine lv_topi (fun x151 ex151 => ?_)
      have t152 : x151.toInt = x2.toInt - 1 := ti_sub ex151 rfl (by decide) (by omega) (by omega)
      refine tw_put (v := .int x151) (ty := .int) hx hb hts bF_X12 tyX12 tyX12_ok nmX12 hown hK hT hG hS hr_o0 shm_0 rfl 9 (by decide) (ht_at hts 0 rfl) (fun _ h9 => h9) rfl (by decide +kernel) rfl rfl (gl_at rfl (gi_of (show x151.toInt = x151.toInt from rfl) (by omega) (by omega))) dX12_writesRow_62 (fun H locs hT oq m153 oj hS => ?_)
      have hF := hF.put hr_o0 skm_0 oq oj (by decide)
      refine lv_iconst (v := 0) hx hb dX12_writesRow_65 (by decide) ?_
      refine lv_istore_n (lv' := [(1, .int 0), (0, .ref o0)]) hx hb dX12_writesRow_66 rfl hl (by decide) rfl (fun ls hl => ?_)
      have jn215 : ∀ (H : Heap) (locs : List Loc), gH (dC, dI) kA (SHm q (wP wZ wN wH wB wC wL wK wU wV) PI im PM PT lS lB lE lN) G H → gF (dC, dI) SKm G ([(0, 9), (8, 0), (9, 0)] : List (Nat × Nat)) s.heap H → va_S A s.heap H locs → el H o0 (dI 15 9) = some (.int x151) → ∀ ls : Array Slot, lv_has ls 2 [(1, .int (nI 96)), (0, .ref o0)] → W p l e (headSpec w_s_writesRow ({ frames := 3, cells := 0, slots := 0, locals := 66 })).room s m #[.ref o0] below meth c H locs 0 0 (MQ below (va_Qv (fun (u : Unit) => True) (fun (_ : Unit) (t : State) => gH (dC, dI) kA (SHm q (wP wZ wN wH wB wC wL wK wU wV) PI im PM PT lS lB lE lN) G t.heap ∧ gF (dC, dI) SKm G ([(0, 9), (8, 0), (9, 0)] : List (Nat × Nat)) s.heap t.heap) A) #[.ref o0] s 0 0 A) (F0 m 117 ls []) := by
        intro  H locs hT hF hS m214 ls hl
        refine lv_aload_n hx hb dX12_writesRow_117 rfl (lv_at hl 1 rfl) ?_
        refine lv_dup hx hb dX12_writesRow_118 rfl ?_
        refine tw_getM (v := .int x151) hx hb hts bF_X12 hown hK hT hr_o0 shm_0 rfl 9 (by decide) (ht_at hts 0 rfl) (fun _ h9 => h9) m214 dX12_writesRow_119 ?_
        refine lv_iconst (v := 1) hx hb dX12_writesRow_122 (by decide) ?_
        refine lv_iadd hx hb dX12_writesRow_123 ?_
        refine lv_topi (fun x216 ex216 => ?_)
        have t217 : x216.toInt = x151.toInt + 1 := ti_add ex216 rfl (by decide) (by omega) (by omega)
        refine tw_put (v := .int x216) (ty := .int) hx hb hts bF_X12 tyX12 tyX12_ok nmX12 hown hK hT hG hS hr_o0 shm_0 rfl 9 (by decide) (ht_at hts 0 rfl) (fun _ h9 => h9) rfl (by decide +kernel) rfl rfl (gl_at rfl (gi_of (show x216.toInt = x216.toInt from rfl) (by omega) (by omega))) dX12_writesRow_124 (fun H locs hT oq m218 oj hS => ?_)
        have hF := hF.put hr_o0 skm_0 oq oj (by decide)
        exact W.vret hx hb hr (fun t ht hW => ⟨⟨(), rfl, (by exact trivial), by (try dsimp only); rw [ht]; exact ⟨hT, hF⟩⟩, hS.F ht⟩) hS.2.2 dX12_writesRow_127
      have key219 : ∀ (n219 i154 : Nat), i154 + n219 = 96 → 0 ≤ i154 → ∀ (H : Heap) (locs : List Loc), gH (dC, dI) kA (SHm q (wP wZ wN wH wB wC wL wK wU wV) PI im PM PT lS lB lE lN) G H → gF (dC, dI) SKm G ([(0, 9), (8, 0), (9, 0)] : List (Nat × Nat)) s.heap H → va_S A s.heap H locs → el H o0 (dI 15 9) = some (.int x151) → ∀ ls : Array Slot, lv_has ls 2 [(1, .int (nI i154)), (0, .ref o0)] → W p l e (headSpec w_s_writesRow ({ frames := 3, cells := 0, slots := 0, locals := 66 })).room s m #[.ref o0] below meth c H locs 0 0 (MQ below (va_Qv (fun (u : Unit) => True) (fun (_ : Unit) (t : State) => gH (dC, dI) kA (SHm q (wP wZ wN wH wB wC wL wK wU wV) PI im PM PT lS lB lE lN) G t.heap ∧ gF (dC, dI) SKm G ([(0, 9), (8, 0), (9, 0)] : List (Nat × Nat)) s.heap t.heap) A) #[.ref o0] s 0 0 A) (F0 m 67 ls []) := by
        intro n219
        induction n219 with
        | zero =>
          intro i154 hn219 hlo220  H locs hT hF hS m155 ls hl
          obtain rfl : 96 = i154 := by omega
          refine lv_iload_n hx hb dX12_writesRow_67 rfl (lv_at hl 0 rfl) ?_
          refine lv_bipush (v := 96) hx hb dX12_writesRow_68 (by decide) ?_
          refine lv_icmp_ge (tgt := 117) hx hb dX12_writesRow_70 (by decide) (fun c221 => ?_) (fun c221 => (by exfalso; have q9 : ((96 : Nat) : Int) < 96 := ti_nle c221 (by decide) (nI_toInt (by omega)); omega))
          have t222 : 96 ≤ ((96 : Nat) : Int) := ti_le c221 (by decide) (nI_toInt (by omega))
          exact jn215 _ _ hT hF hS m155 ls (lv_sub hl [0, 1] rfl)
        | succ n219 ih219 =>
          intro i154 hn219 hlo220  H locs hT hF hS m155 ls hl
          have hlt222 : i154 < 96 := by omega
          refine lv_iload_n hx hb dX12_writesRow_67 rfl (lv_at hl 0 rfl) ?_
          refine lv_bipush (v := 96) hx hb dX12_writesRow_68 (by decide) ?_
          refine lv_icmp_ge (tgt := 117) hx hb dX12_writesRow_70 (by decide) (fun c223 => (by exfalso; have q9 : 96 ≤ ((i154 : Nat) : Int) := ti_le c223 (by decide) (nI_toInt (by omega)); omega)) (fun c223 => ?_)
          have t224 : ((i154 : Nat) : Int) < 96 := ti_nle c223 (by decide) (nI_toInt (by omega))
          refine lv_aload_n hx hb dX12_writesRow_73 rfl (lv_at hl 1 rfl) ?_
          refine tw_get hx hb hts bF_X12 hown hK hT hr_o0 shm_0 rfl 7 (by decide) (ht_at hts 1 rfl) (fun _ h9 => h9) dX12_writesRow_74 (fun v9 m225 h9 => ?_)
          obtain ⟨rfl, hg226⟩ := h9 _ rfl
          refine lv_bipush (v := 96) hx hb dX12_writesRow_77 (by decide) ?_
          refine lv_aload_n hx hb dX12_writesRow_79 rfl (lv_at hl 1 rfl) ?_
          refine tw_getM (v := .int x151) hx hb hts bF_X12 hown hK hT hr_o0 shm_0 rfl 9 (by decide) (ht_at hts 0 rfl) (fun _ h9 => h9) m155 dX12_writesRow_80 ?_
          refine lv_imul hx hb dX12_writesRow_83 ?_
          refine lv_topi (fun x227 ex227 => ?_)
          have t228 : x227.toInt = 96 * x151.toInt := ti_mul ex227 (by decide) rfl (by omega) (by omega)
          refine lv_iload_n hx hb dX12_writesRow_84 rfl (lv_at hl 0 rfl) ?_
          refine lv_iadd hx hb dX12_writesRow_85 ?_
          refine lv_topi (fun x229 ex229 => ?_)
          have t230 : x229.toInt = x227.toInt + ((i154 : Nat) : Int) := ti_add ex229 rfl (nI_toInt (by omega)) (by omega) (by omega)
          refine lv_aload_n hx hb dX12_writesRow_86 rfl (lv_at hl 1 rfl) ?_
          refine lv_iload_n hx hb dX12_writesRow_87 rfl (lv_at hl 0 rfl) ?_
          have hFc := gA_free hG hA hS
          refine va_calli (va_runV (As := [.int (nI i154)]) (rest := [.int x229, .ref (q 7)]) ⟨hx, hb, hml, hown, hts⟩ (s_level l dC dI kA adK adV G H q wZ wN wH wB wC wL wK wU wV PI im PM PT lS lB lE lN o0 (nI i154) hT hr_o0 (rg_t (a := ((i154 : Nat) : Int)) (nI_toInt (by omega)) (by omega) (by omega)) hgz hgn hgh hgb hgc hgi hgu) (cwV 1 hts (goodIn_app (goodIn_r _ [21, 22, 23, 9] rfl (by decide +kernel)) (goodIn_ca (goodIn_r _ [3, 4, 5, 6, 7, 8, 9, 10, 11, 12, 13, 14, 15, 16, 17, 18, 19, 20] rfl (by decide +kernel)) (bs_in _ _))) rfl rfl rfl (by decide +kernel) ⟨(Nat.le_of_ble_eq_true rfl), (Nat.le_of_ble_eq_true rfl)⟩) ⟨fun a U g mk q => by obtain ⟨q0, q1, qK, qE⟩ := q; exact ⟨q0, q1, va_K.moved (u := U) (U := U.calling g mk a) (Vm.Alike.refl U.vm) qK, EVS.blind g mk a qE⟩, gH_rc hK hT hr_o0 shm_0 rfl, fun U hU hW => ⟨rfl, hU, va_K.moved hW.alike hK, hE.call hS hFc hU hW⟩⟩ rfl rfl hl.1 rfl (lv_room (Nat.le_of_ble_eq_true rfl)) dX12_writesRow_88 ⟨(Nat.le_of_ble_eq_true rfl), (Nat.le_of_ble_eq_true rfl)⟩) hS (fun q _ h => hFc q h) hFc (fun r231 u t H locs ht hvm hw232 hB _ _ hS => ?_)
          obtain ⟨hT, hF1⟩ := hB
          rw [ht] at hT hF1
          have m233 := (hF1.fld hr_o0 skm_0 (k := 9) (by decide) (by decide)).trans m155
          have hF := hF.more hF1 (by decide)
          try dsimp only at hw232
          have h234 := hw232
          refine tw_iast (i := x229) (x := r231) hx hb hK hT hG hS hg226 shm_8 rfl (vin_t (a := x229.toInt) rfl (by omega) (by omega)) (gi_all _) dX12_writesRow_91 (fun H locs hT oq m235 oi hS => ?_)
          have hF := hF.ast hg226 skm_8 oq (by decide)
          have m236 := (el_kept (oq _ (gne hr_o0 hg226 (by decide)))).trans m233
          refine lv_aload_n hx hb dX12_writesRow_92 rfl (lv_at hl 1 rfl) ?_
          refine tw_get hx hb hts bF_X12 hown hK hT hr_o0 shm_0 rfl 8 (by decide) (ht_at hts 23 rfl) (fun _ h9 => h9) dX12_writesRow_93 (fun v9 m237 h9 => ?_)
          obtain ⟨rfl, hg238⟩ := h9 _ rfl
          refine lv_bipush (v := 96) hx hb dX12_writesRow_96 (by decide) ?_
          refine lv_aload_n hx hb dX12_writesRow_98 rfl (lv_at hl 1 rfl) ?_
          refine tw_getM (v := .int x151) hx hb hts bF_X12 hown hK hT hr_o0 shm_0 rfl 9 (by decide) (ht_at hts 0 rfl) (fun _ h9 => h9) m236 dX12_writesRow_99 ?_
          refine lv_imul hx hb dX12_writesRow_102 ?_
          refine lv_topi (fun x239 ex239 => ?_)
          have t240 : x239.toInt = 96 * x151.toInt := ti_mul ex239 (by decide) rfl (by omega) (by omega)
          refine lv_iload_n hx hb dX12_writesRow_103 rfl (lv_at hl 0 rfl) ?_
          refine lv_iadd hx hb dX12_writesRow_104 ?_
          refine lv_topi (fun x241 ex241 => ?_)
          have t242 : x241.toInt = x239.toInt + ((i154 : Nat) : Int) := ti_add ex241 rfl (nI_toInt (by omega)) (by omega) (by omega)
          refine lv_aload_n hx hb dX12_writesRow_105 rfl (lv_at hl 1 rfl) ?_
          refine lv_iload_n hx hb dX12_writesRow_106 rfl (lv_at hl 0 rfl) ?_
          have hFc := gA_free hG hA hS
          refine va_calli (va_runV (As := [.int (nI i154)]) (rest := [.int x241, .ref (q 8)]) ⟨hx, hb, hml, hown, hts⟩ (s_level l dC dI kA adK adV G H q wZ wN wH wB wC wL wK wU wV PI im PM PT lS lB lE lN o0 (nI i154) hT hr_o0 (rg_t (a := ((i154 : Nat) : Int)) (nI_toInt (by omega)) (by omega) (by omega)) hgz hgn hgh hgb hgc hgi hgu) (cwV 1 hts (goodIn_app (goodIn_r _ [21, 22, 23, 9] rfl (by decide +kernel)) (goodIn_ca (goodIn_r _ [3, 4, 5, 6, 7, 8, 9, 10, 11, 12, 13, 14, 15, 16, 17, 18, 19, 20] rfl (by decide +kernel)) (bs_in _ _))) rfl rfl rfl (by decide +kernel) ⟨(Nat.le_of_ble_eq_true rfl), (Nat.le_of_ble_eq_true rfl)⟩) ⟨fun a U g mk q => by obtain ⟨q0, q1, qK, qE⟩ := q; exact ⟨q0, q1, va_K.moved (u := U) (U := U.calling g mk a) (Vm.Alike.refl U.vm) qK, EVS.blind g mk a qE⟩, gH_rc hK hT hr_o0 shm_0 rfl, fun U hU hW => ⟨rfl, hU, va_K.moved hW.alike hK, hE.call hS hFc hU hW⟩⟩ rfl rfl hl.1 rfl (lv_room (Nat.le_of_ble_eq_true rfl)) dX12_writesRow_107 ⟨(Nat.le_of_ble_eq_true rfl), (Nat.le_of_ble_eq_true rfl)⟩) hS (fun q _ h => hFc q h) hFc (fun r243 u t H locs ht hvm hw244 hB _ _ hS => ?_)
          obtain ⟨hT, hF1⟩ := hB
          rw [ht] at hT hF1
          have m245 := (hF1.fld hr_o0 skm_0 (k := 9) (by decide) (by decide)).trans m236
          have hF := hF.more hF1 (by decide)
          try dsimp only at hw244
          have h247 := hw244
          refine tw_iast (i := x241) (x := r243) hx hb hK hT hG hS hg238 shm_9 rfl (vin_t (a := x241.toInt) rfl (by omega) (by omega)) (gi_all _) dX12_writesRow_110 (fun H locs hT oq m248 oi hS => ?_)
          have hF := hF.ast hg238 skm_9 oq (by decide)
          have m249 := (el_kept (oq _ (gne hr_o0 hg238 (by decide)))).trans m245
          refine lv_iinc (v := nI (i154 + 1)) (lv' := [(1, .int (nI (i154 + 1))), (0, .ref o0)]) hx hb dX12_writesRow_111 hl (k := 0) rfl (nI_add i154 1) (by decide) rfl (fun ls hl => ?_)
          refine lv_goto (tgt := 67) hx hb dX12_writesRow_114 (by decide) ?_
          exact ih219 (i154 + 1) (by omega) (by omega) _ _ hT hF hS m249 ls (lv_sub hl [0, 1] rfl)
      exact key219 (96 - 0) 0 (by omega) (Nat.le_refl _) _ _ hT hF hS m153 ls (lv_sub hl [0, 1] rfl)
    have key251 : ∀ (n251 i103 : Nat), i103 + n251 = 2304 → 96 ≤ i103 → ∀ (H : Heap) (locs : List Loc), gH (dC, dI) kA (SHm q (wP wZ wN wH wB wC wL wK wU wV) PI im PM PT lS lB lE lN) G H → gF (dC, dI) SKm G ([(0, 9), (8, 0), (9, 0)] : List (Nat × Nat)) s.heap H → va_S A s.heap H locs → el H o0 (dI 15 9) = some (.int x2) → ∀ ls : Array Slot, lv_has ls 2 [(1, .int (nI i103)), (0, .ref o0)] → W p l e (headSpec w_s_writesRow ({ frames := 3, cells := 0, slots := 0, locals := 66 })).room s m #[.ref o0] below meth c H locs 0 0 (MQ below (va_Qv (fun (u : Unit) => True) (fun (_ : Unit) (t : State) => gH (dC, dI) kA (SHm q (wP wZ wN wH wB wC wL wK wU wV) PI im PM PT lS lB lE lN) G t.heap ∧ gF (dC, dI) SKm G ([(0, 9), (8, 0), (9, 0)] : List (Nat × Nat)) s.heap t.heap) A) #[.ref o0] s 0 0 A) (F0 m 12 ls []) := by
      intro n251
      induction n251 with
      | zero =>
        intro i103 hn251 hlo252  H locs hT hF hS m104 ls hl
        obtain rfl : 2304 = i103 := by omega
        refine lv_iload_n hx hb dX12_writesRow_12 rfl (lv_at hl 0 rfl) ?_
        refine lv_sipush (v := 2304) hx hb dX12_writesRow_13 (by decide) ?_
        refine lv_icmp_ge (tgt := 55) hx hb dX12_writesRow_16 (by decide) (fun c253 => ?_) (fun c253 => (by exfalso; have q9 : ((2304 : Nat) : Int) < 2304 := ti_nle c253 (by decide) (nI_toInt (by omega)); omega))
        have t254 : 2304 ≤ ((2304 : Nat) : Int) := ti_le c253 (by decide) (nI_toInt (by omega))
        exact jn150 _ _ hT hF hS m104 ls (lv_sub hl [0, 1] rfl)
      | succ n251 ih251 =>
        intro i103 hn251 hlo252  H locs hT hF hS m104 ls hl
        have hlt254 : i103 < 2304 := by omega
        refine lv_iload_n hx hb dX12_writesRow_12 rfl (lv_at hl 0 rfl) ?_
        refine lv_sipush (v := 2304) hx hb dX12_writesRow_13 (by decide) ?_
        refine lv_icmp_ge (tgt := 55) hx hb dX12_writesRow_16 (by decide) (fun c255 => (by exfalso; have q9 : 2304 ≤ ((i103 : Nat) : Int) := ti_le c255 (by decide) (nI_toInt (by omega)); omega)) (fun c255 => ?_)
        have t256 : ((i103 : Nat) : Int) < 2304 := ti_nle c255 (by decide) (nI_toInt (by omega))
        refine lv_aload_n hx hb dX12_writesRow_19 rfl (lv_at hl 1 rfl) ?_
        refine tw_get hx hb hts bF_X12 hown hK hT hr_o0 shm_0 rfl 7 (by decide) (ht_at hts 1 rfl) (fun _ h9 => h9) dX12_writesRow_20 (fun v9 m257 h9 => ?_)
        obtain ⟨rfl, hg258⟩ := h9 _ rfl
        refine lv_iload_n hx hb dX12_writesRow_23 rfl (lv_at hl 0 rfl) ?_
        refine lv_bipush (v := 96) hx hb dX12_writesRow_24 (by decide) ?_
        refine lv_isub hx hb dX12_writesRow_26 ?_
        refine lv_topi (fun x259 ex259 => ?_)
        obtain rfl : nI (i103 - 96) = x259 := (ex259.trans (pk_sub (a := i103) (b := 96) (by omega))).symm
        refine lv_aload_n hx hb dX12_writesRow_27 rfl (lv_at hl 1 rfl) ?_
        refine tw_get hx hb hts bF_X12 hown hK hT hr_o0 shm_0 rfl 7 (by decide) (ht_at hts 1 rfl) (fun _ h9 => h9) dX12_writesRow_28 (fun v9 m260 h9 => ?_)
        obtain ⟨rfl, hg261⟩ := h9 _ rfl
        refine lv_iload_n hx hb dX12_writesRow_31 rfl (lv_at hl 0 rfl) ?_
        refine tw_iald (i := (nI i103)) hx hb hK hT hg258 shm_8 rfl (vp_in_nI (by omega) (by decide)) dX12_writesRow_32 (fun v9 m262 h9 => ?_)
        obtain ⟨x263, rfl, gx263, kx263⟩ := h9
        refine tw_iast (i := (nI (i103 - 96))) (x := x263) hx hb hK hT hG hS hg258 shm_8 rfl (vp_in_nI (by omega) (by decide)) (gi_all _) dX12_writesRow_33 (fun H locs hT oq m264 oi hS => ?_)
        have hF := hF.ast hg258 skm_8 oq (by decide)
        have m265 := (el_kept (oq _ (gne hr_o0 hg258 (by decide)))).trans m104
        refine lv_aload_n hx hb dX12_writesRow_34 rfl (lv_at hl 1 rfl) ?_
        refine tw_get hx hb hts bF_X12 hown hK hT hr_o0 shm_0 rfl 8 (by decide) (ht_at hts 23 rfl) (fun _ h9 => h9) dX12_writesRow_35 (fun v9 m266 h9 => ?_)
        obtain ⟨rfl, hg267⟩ := h9 _ rfl
        refine lv_iload_n hx hb dX12_writesRow_38 rfl (lv_at hl 0 rfl) ?_
        refine lv_bipush (v := 96) hx hb dX12_writesRow_39 (by decide) ?_
        refine lv_isub hx hb dX12_writesRow_41 ?_
        refine lv_topi (fun x268 ex268 => ?_)
        obtain rfl : nI (i103 - 96) = x268 := (ex268.trans (pk_sub (a := i103) (b := 96) (by omega))).symm
        refine lv_aload_n hx hb dX12_writesRow_42 rfl (lv_at hl 1 rfl) ?_
        refine tw_get hx hb hts bF_X12 hown hK hT hr_o0 shm_0 rfl 8 (by decide) (ht_at hts 23 rfl) (fun _ h9 => h9) dX12_writesRow_43 (fun v9 m269 h9 => ?_)
        obtain ⟨rfl, hg270⟩ := h9 _ rfl
        refine lv_iload_n hx hb dX12_writesRow_46 rfl (lv_at hl 0 rfl) ?_
        refine tw_iald (i := (nI i103)) hx hb hK hT hg267 shm_9 rfl (vp_in_nI (by omega) (by decide)) dX12_writesRow_47 (fun v9 m271 h9 => ?_)
        obtain ⟨x272, rfl, gx272, kx272⟩ := h9
        refine tw_iast (i := (nI (i103 - 96))) (x := x272) hx hb hK hT hG hS hg267 shm_9 rfl (vp_in_nI (by omega) (by decide)) (gi_all _) dX12_writesRow_48 (fun H locs hT oq m273 oi hS => ?_)
        have hF := hF.ast hg267 skm_9 oq (by decide)
        have m274 := (el_kept (oq _ (gne hr_o0 hg267 (by decide)))).trans m265
        refine lv_iinc (v := nI (i103 + 1)) (lv' := [(1, .int (nI (i103 + 1))), (0, .ref o0)]) hx hb dX12_writesRow_49 hl (k := 0) rfl (nI_add i103 1) (by decide) rfl (fun ls hl => ?_)
        refine lv_goto (tgt := 12) hx hb dX12_writesRow_52 (by decide) ?_
        exact ih251 (i103 + 1) (by omega) (by omega) _ _ hT hF hS m274 ls (lv_sub hl [0, 1] rfl)
    exact key251 (2304 - 96) 96 (by omega) (Nat.le_refl _) _ _ hT hF hS m1 ls (lv_sub hl [0, 1] rfl)
