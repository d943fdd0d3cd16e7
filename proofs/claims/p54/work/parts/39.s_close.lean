def w_s_close : List Cond := .code yX12_close cX12_close 1 (some .boolean) :: (HAppend.hAppend (α := List Cond) (β := List Cond) (γ := List Cond) [.fieldLink RX12 194 "SeaLandModel" "thrown" "I", .fieldLink RX12 523 "SeaLandModel" "isVoting" "Z", .code yX12_throwsIf cX12_throwsIf 3 (some .boolean), .methodLink RX12 224 yX12_throwsIf, .instanceMethod yX12_throwsIf, .selects RX12 yX12_throwsIf yX12_throwsIf, .initialized RX12, .fieldLink RX12 526 "SeaLandModel" "yes" "J", .constantLong RX12 484 100, .code yX12_lastOf cX12_lastOf 5 (some .int), .fieldLink RX12 42 "SeaLandModel" "lines" "[I", .fieldLink RX12 45 "SeaLandModel" "sort" "[I", .fieldLink RX12 48 "SeaLandModel" "told" "[I", .methodLink RX12 492 yX12_lastOf, .instanceMethod yX12_lastOf, .selects RX12 yX12_lastOf yX12_lastOf, .fieldLink RX12 530 "SeaLandModel" "said" "J", .code yX12_copies cX12_copies 4 none, .fieldLink RX12 66 "SeaLandModel" "step" "[I", .fieldLink RX12 69 "SeaLandModel" "than" "[I", .fieldLink RX12 51 "SeaLandModel" "winter" "[I", .fieldLink RX12 54 "SeaLandModel" "from" "[I", .fieldLink RX12 57 "SeaLandModel" "to" "[I", .fieldLink RX12 60 "SeaLandModel" "begins" "[I", .fieldLink RX12 63 "SeaLandModel" "ends" "[I", .methodLink RX12 457 yX12_copies, .instanceMethod yX12_copies, .selects RX12 yX12_copies yX12_copies] bs)
set_option maxHeartbeats 4000000 in
set_option maxRecDepth 100000 in
theorem s_close (l : Launch) (dC : Nat → ClassId) (dI : Nat → Nat → Nat) (kA : Nat → ClassId) (adK adV : Nat → Nat) (G : gT) (H0 : Heap) (q : Nat → Nat) (wZ wN : Nat → Int) (wH wB wC : Int) (wL wK : Nat → Prop) (wU wV : Nat → Nat) (PI : Nat → Int → Prop) (im : Int) (PM PT : Nat → Int → Prop) (lS lB lE : Nat → Nat → Int → Prop) (lN : Nat → Int) (o0 : Nat)  (hT : gH (dC, dI) kA (SHm q (wP wZ wN wH wB wC wL wK wU wV) PI im PM PT lS lB lE lN) G H0) (hr_o0 : G o0 = some 0) (hlaw : lawsOK lS lB lE lN) (hgz : ∀ i, 0 ≤ wZ i) (hgn : ∀ i, 6500000 ≤ wN i ∧ wN i ≤ 20200000) (hgh : 0 ≤ wH ∧ wH ≤ 40000) (hgb : 0 ≤ wB ∧ wB ≤ 3850000) (hgc : 0 ≤ wC ∧ wC ≤ 30) (hgi : 0 ≤ im ∧ im ≤ 1) (hgu : ∀ a t, G a = some (t + 1) → a = q t) : Met l yX12_close w_s_close ({ frames := 1, cells := 0, slots := 0, locals := 24 }) (va_Pc [.ref o0] (fun U => U.heap = H0 ∧ va_K (dC, dI) vwCl (tyl kA) U ∧ EVS adK adV (gA G H0.size) U U.heap)) (va_Qi (fun (r : Int32) (u : (Nat → Nat → Int → Prop) × (Nat → Nat → Int → Prop) × (Nat → Nat → Int → Prop) × (Nat → Int)) => match u with | (lS1, lB1, lE1, lN1) => (0 ≤ r.toInt ∧ r.toInt ≤ 1) ∧ (lawsOK lS1 lB1 lE1 lN1)) (fun (u : (Nat → Nat → Int → Prop) × (Nat → Nat → Int → Prop) × (Nat → Nat → Int → Prop) × (Nat → Int)) (t : State) => match u with | (lS1, lB1, lE1, lN1) => gH (dC, dI) kA (SHm q (wP wZ wN wH wB wC wL wK wU wV) PI im PM PT lS1 lB1 lE1 lN1) G t.heap ∧ gF (dC, dI) SKm G ([(0, 0), (0, 52), (19, 0), (20, 0), (21, 0), (22, 0), (23, 0), (24, 0), (25, 0), (26, 0), (27, 0), (28, 0)] : List (Nat × Nat)) H0 t.heap) (gA G H0.size)) 0 0 (gA G H0.size) := by
  refine Met.ofW (cc := cX12_close) (maxL := 1) (ret := (some .boolean)) (by decide) rfl ?_
  intro p e s m args below meth c s₁ B hml hv
  obtain ⟨rfl, hH0, hK, hE⟩ := hv
  have hx := B.exec
  have hb := B.bytes
  have hr := B.returns
  have hts := atoms_spec (ws := w_s_close) B.pre
  have hown : s.vm.findClass RX12 = some m.cls := findClass_of_methodNamed B.named
  have hlocks := B.notSynchronized
  subst hH0
  generalize hAe : gA G s.heap.size = A at hE ⊢
  have hA : ∀ q : Nat, s.heap.size ≤ q → A q := fun q h => by rw [← hAe]; exact Or.inr h
  have hG := gA_of hAe
  have hS : va_S A s.heap s.heap [] := va_S.rf
  have hF : gF (dC, dI) SKm G ([(0, 0), (0, 52), (19, 0), (20, 0), (21, 0), (22, 0), (23, 0), (24, 0), (25, 0), (26, 0), (27, 0), (28, 0)] : List (Nat × Nat)) s.heap s.heap := gF.rf
  have hl := lv_entry ([.ref o0]) (n := 1) (Nat.le_of_ble_eq_true rfl)
  rw [lg_entry_eq]
  generalize (lg_sl ([.ref o0]) ++ List.replicate (1 - (lg_sl ([.ref o0])).length) Slot.unset).toArray = ls at hl ⊢
  have hl : lv_has ls 1 [(0, .ref o0)] := hl
  refine lv_aload_n hx hb dX12_close_0 rfl (lv_at hl 0 rfl) ?_
  refine lv_iconst (v := 0) hx hb dX12_close_1 (by decide) ?_
  refine tw_put (v := .int 0) (ty := .int) hx hb hts bF_X12 tyX12 tyX12_ok nmX12 hown hK hT hG hS hr_o0 shm_0 rfl 0 (by decide) (ht_at hts 0 rfl) (fun _ h9 => h9) rfl (by decide +kernel) rfl rfl (gl_at rfl (gi_all _)) dX12_close_2 (fun H locs hT oq m1 oj hS => ?_)
  have hF := hF.put hr_o0 skm_0 oq oj (by decide)
  refine lv_aload_n hx hb dX12_close_5 rfl (lv_at hl 0 rfl) ?_
  refine lv_aload_n hx hb dX12_close_6 rfl (lv_at hl 0 rfl) ?_
  refine tw_get hx hb hts bF_X12 hown hK hT hr_o0 shm_0 rfl 52 (by decide) (ht_at hts 1 rfl) (fun _ h9 => h9) dX12_close_7 (fun v9 m2 h9 => ?_)
  obtain ⟨x3, rfl, gx3, kx3⟩ := h9 _ rfl
  refine lv_if_ne (tgt := 17) hx hb dX12_close_10 (by decide) (fun c4 => ?_) (fun c4 => ?_)
  · have t5 : x3.toInt ≠ 0 := ti_ne c4 rfl (by decide)
    refine lv_iconst (v := 0) hx hb dX12_close_17 (by decide) ?_
    refine lv_iconst (v := 1) hx hb dX12_close_18 (by decide) ?_
    have hFc := gA_free hG hA hS
    refine va_calli (va_runV (As := [.int 0, .int 1]) (rest := []) ⟨hx, hb, hml, hown, hts⟩ (s_throwsIf l dC dI kA adK adV G H q wZ wN wH wB wC wL wK wU wV PI im PM PT lS lB lE lN o0 0 1 hT hr_o0 (rg_t (a := 0) (by decide) (by first | decide | omega) (by first | decide | omega)) hgz hgn hgh hgb hgc hgi hgu) (cwV 2 hts (goodIn_app (goodIn_r _ [4, 5, 6, 7] rfl (by decide +kernel)) (goodIn_ca (goodIn_r _ [3, 1] rfl (by decide +kernel)) (bs_in _ _))) rfl rfl rfl (by decide +kernel) ⟨(Nat.le_of_ble_eq_true rfl), (Nat.le_of_ble_eq_true rfl)⟩) ⟨fun a U g mk q => by obtain ⟨q0, q1, qK, qE⟩ := q; exact ⟨q0, q1, va_K.moved (u := U) (U := U.calling g mk a) (Vm.Alike.refl U.vm) qK, EVS.blind g mk a qE⟩, gH_rc hK hT hr_o0 shm_0 rfl, fun U hU hW => ⟨rfl, hU, va_K.moved hW.alike hK, hE.call hS hFc hU hW⟩⟩ rfl rfl hl.1 rfl (lv_room (Nat.le_of_ble_eq_true rfl)) dX12_close_19 ⟨(Nat.le_of_ble_eq_true rfl), (Nat.le_of_ble_eq_true rfl)⟩) hS (fun q _ h => hFc q h) hFc (fun r6 u t H locs ht hvm hw7 hB _ _ hS => ?_)
    obtain ⟨hT, hF1⟩ := hB
    rw [ht] at hT hF1
    have hF := hF.more hF1 (by decide)
    try dsimp only at hw7
    obtain ⟨h10, hd11⟩ := hw7
    obtain rfl : (0 : Int32) = r6 := hd11.symm
    refine lv_if_eq (tgt := 27) hx hb dX12_close_22 (by decide) (fun c12 => ?_) (fun c12 => absurd c12 (by decide))
    refine lv_aload_n hx hb dX12_close_27 rfl (lv_at hl 0 rfl) ?_
    refine lv_iconst (v := 0) hx hb dX12_close_28 (by decide) ?_
    refine tw_put (v := .int 0) (ty := .boolean) hx hb hts bF_X12 tyX12 tyX12_ok nmX12 hown hK hT hG hS hr_o0 shm_0 rfl 52 (by decide) (ht_at hts 1 rfl) (fun _ h9 => h9) rfl (by decide +kernel) rfl rfl (gl_at rfl (gi_of (show (0 : Int32).toInt = 0 from (by decide)) (by first | decide | omega) (by first | decide | omega))) dX12_close_29 (fun H locs hT oq m13 oj hS => ?_)
    have hF := hF.put hr_o0 skm_0 oq oj (by decide)
    refine lv_aload_n hx hb dX12_close_32 rfl (lv_at hl 0 rfl) ?_
    refine tw_get hx hb hts bF_X12 hown hK hT hr_o0 shm_0 rfl 53 (by decide) (ht_at hts 7 rfl) (fun _ h9 => h9) dX12_close_33 (fun v9 m14 h9 => ?_)
    obtain ⟨y15, rfl⟩ := h9 _ rfl
    refine lv_ldc2 (v := 100) hx hb hown (ht_at hts 8 rfl) dX12_close_36 ?_
    refine lv_lmul hx hb dX12_close_39 ?_
    refine lv_topl (fun y16 _ => ?_)
    refine lv_aload_n hx hb dX12_close_40 rfl (lv_at hl 0 rfl) ?_
    refine lv_bipush (v := 8) hx hb dX12_close_41 (by decide) ?_
    refine lv_bipush (v := 50) hx hb dX12_close_43 (by decide) ?_
    have hFc := gA_free hG hA hS
    refine va_calli (va_runV (As := [.int 8, .int 50]) (rest := [.long y16]) ⟨hx, hb, hml, hown, hts⟩ (s_lastOf l dC dI kA adK adV G H q wZ wN wH wB wC wL wK wU wV PI im PM PT lS lB lE lN o0 8 50 hT hr_o0 hgz hgn hgh hgb hgc hgi hgu) (cwV 2 hts (goodIn_app (goodIn_r _ [14, 15, 16, 7] rfl (by decide +kernel)) (goodIn_ca (goodIn_r _ [10, 11, 12, 13] rfl (by decide +kernel)) (bs_in _ _))) rfl rfl rfl (by decide +kernel) ⟨(Nat.le_of_ble_eq_true rfl), (Nat.le_of_ble_eq_true rfl)⟩) ⟨fun a U g mk q => by obtain ⟨q0, q1, qK, qE⟩ := q; exact ⟨q0, q1, va_K.moved (u := U) (U := U.calling g mk a) (Vm.Alike.refl U.vm) qK, EVS.blind g mk a qE⟩, gH_rc hK hT hr_o0 shm_0 rfl, fun U hU hW => ⟨rfl, hU, va_K.moved hW.alike hK, hE.call hS hFc hU hW⟩⟩ rfl rfl hl.1 rfl (lv_room (Nat.le_of_ble_eq_true rfl)) dX12_close_45 ⟨(Nat.le_of_ble_eq_true rfl), (Nat.le_of_ble_eq_true rfl)⟩) hS (fun q _ h => hFc q h) hFc (fun r17 u t H locs ht hvm hw18 hB _ _ hS => ?_)
    obtain ⟨hT, hF1⟩ := hB
    rw [ht] at hT hF1
    have hF := hF.more hF1 (by decide)
    try dsimp only at hw18
    refine lv_i2l (v := r17.toInt64) hx hb dX12_close_48 rfl ?_
    refine lv_aload_n hx hb dX12_close_49 rfl (lv_at hl 0 rfl) ?_
    refine tw_get hx hb hts bF_X12 hown hK hT hr_o0 shm_0 rfl 54 (by decide) (ht_at hts 16 rfl) (fun _ h9 => h9) dX12_close_50 (fun v9 m21 h9 => ?_)
    obtain ⟨y22, rfl⟩ := h9 _ rfl
    refine lv_lmul hx hb dX12_close_53 ?_
    refine lv_topl (fun y23 _ => ?_)
    refine W.lcmp hx hb dX12_close_54 ?_
    refine lv_topi (fun x24 _ => ?_)
    refine lv_if_gt (tgt := 60) hx hb dX12_close_55 (by decide) (fun c25 => ?_) (fun c25 => ?_)
    · have t26 : 0 < x24.toInt := ti_lt c25 (by decide) rfl
      refine lv_aload_n hx hb dX12_close_60 rfl (lv_at hl 0 rfl) ?_
      refine lv_iconst (v := 1) hx hb dX12_close_61 (by decide) ?_
      refine lv_iconst (v := 0) hx hb dX12_close_62 (by decide) ?_
      have hFc := gA_free hG hA hS
      refine va_callv (va_runV (As := [.int 1, .int 0]) (rest := []) ⟨hx, hb, hml, hown, hts⟩ (s_copies10 l dC dI kA adK adV G H q wZ wN wH wB wC wL wK wU wV PI im PM PT lS lB lE lN o0 hT hr_o0 hgz hgn hgh hgb hgc hgi hgu) (cwV 2 hts (goodIn_app (goodIn_r _ [26, 27, 28, 7] rfl (by decide +kernel)) (goodIn_ca (goodIn_r _ [18, 11, 19, 20, 12, 13, 21, 22, 23, 24, 25] rfl (by decide +kernel)) (bs_in _ _))) rfl rfl rfl (by decide +kernel) ⟨(Nat.le_of_ble_eq_true rfl), (Nat.le_of_ble_eq_true rfl)⟩) ⟨fun a U g mk q => by obtain ⟨q0, q1, qK, qE⟩ := q; exact ⟨q0, q1, va_K.moved (u := U) (U := U.calling g mk a) (Vm.Alike.refl U.vm) qK, EVS.blind g mk a qE⟩, gH_rc hK hT hr_o0 shm_0 rfl, fun U hU hW => ⟨rfl, hU, va_K.moved hW.alike hK, hE.call hS hFc hU hW⟩⟩ rfl rfl hl.1 rfl (lv_room (Nat.le_of_ble_eq_true rfl)) dX12_close_63 ⟨(Nat.le_of_ble_eq_true rfl), (Nat.le_of_ble_eq_true rfl)⟩) hS (fun q _ h => hFc q h) hFc (fun u t H locs ht hvm hw28 hB _ _ hS => ?_)
      obtain ⟨hT, hF1⟩ := hB
      rw [ht] at hT hF1
      have hF := hF.more hF1 (by decide)
      try dsimp only at hw28
      refine lv_iconst (v := 1) hx hb dX12_close_66 (by decide) ?_
      exact W.zret (v := 1) hx hb hr (by decide) (fun t ht hW => ⟨⟨1, ((lcp lS 1 0), (lcp lB 1 0), (lcp lE 1 0), (lcp lN 1 0)), rfl, (by exact ⟨(rg_t (a := 1) (by decide) (by first | decide | omega) (by first | decide | omega)), (laws_10 hlaw)⟩), by (try dsimp only); rw [ht]; exact ⟨hT, hF⟩⟩, hS.F ht⟩) hS.2.2 dX12_close_67
    · have t32 : x24.toInt ≤ 0 := ti_nlt c25 (by decide) rfl
      refine lv_iconst (v := 0) hx hb dX12_close_58 (by decide) ?_
      exact W.zret (v := 0) hx hb hr (by decide) (fun t ht hW => ⟨⟨0, (lS, lB, lE, lN), rfl, (by exact ⟨(rg_t (a := 0) (by decide) (by first | decide | omega) (by first | decide | omega)), hlaw⟩), by (try dsimp only); rw [ht]; exact ⟨hT, hF⟩⟩, hS.F ht⟩) hS.2.2 dX12_close_59
  · have t33 : x3.toInt = 0 := ti_eq c4 rfl (by decide)
    refine lv_iconst (v := 1) hx hb dX12_close_13 (by decide) ?_
    refine lv_goto (tgt := 18) hx hb dX12_close_14 (by decide) ?_
    refine lv_iconst (v := 1) hx hb dX12_close_18 (by decide) ?_
    have hFc := gA_free hG hA hS
    refine va_calli (va_runV (As := [.int 1, .int 1]) (rest := []) ⟨hx, hb, hml, hown, hts⟩ (s_throwsIf l dC dI kA adK adV G H q wZ wN wH wB wC wL wK wU wV PI im PM PT lS lB lE lN o0 1 1 hT hr_o0 (rg_t (a := 1) (by decide) (by first | decide | omega) (by first | decide | omega)) hgz hgn hgh hgb hgc hgi hgu) (cwV 2 hts (goodIn_app (goodIn_r _ [4, 5, 6, 7] rfl (by decide +kernel)) (goodIn_ca (goodIn_r _ [3, 1] rfl (by decide +kernel)) (bs_in _ _))) rfl rfl rfl (by decide +kernel) ⟨(Nat.le_of_ble_eq_true rfl), (Nat.le_of_ble_eq_true rfl)⟩) ⟨fun a U g mk q => by obtain ⟨q0, q1, qK, qE⟩ := q; exact ⟨q0, q1, va_K.moved (u := U) (U := U.calling g mk a) (Vm.Alike.refl U.vm) qK, EVS.blind g mk a qE⟩, gH_rc hK hT hr_o0 shm_0 rfl, fun U hU hW => ⟨rfl, hU, va_K.moved hW.alike hK, hE.call hS hFc hU hW⟩⟩ rfl rfl hl.1 rfl (lv_room (Nat.le_of_ble_eq_true rfl)) dX12_close_19 ⟨(Nat.le_of_ble_eq_true rfl), (Nat.le_of_ble_eq_true rfl)⟩) hS (fun q _ h => hFc q h) hFc (fun r34 u t H locs ht hvm hw35 hB _ _ hS => ?_)
    obtain ⟨hT, hF1⟩ := hB
    rw [ht] at hT hF1
    have hF := hF.more hF1 (by decide)
    try dsimp only at hw35
    obtain ⟨h38, hd39⟩ := hw35
    obtain rfl : (1 : Int32) = r34 := hd39.symm
    refine lv_if_eq (tgt := 27) hx hb dX12_close_22 (by decide) (fun c40 => absurd c40 (by decide)) (fun c40 => ?_)
    refine lv_iconst (v := 0) hx hb dX12_close_25 (by decide) ?_
    exact W.zret (v := 0) hx hb hr (by decide) (fun t ht hW => ⟨⟨0, (lS, lB, lE, lN), rfl, (by exact ⟨(rg_t (a := 0) (by decide) (by first | decide | omega) (by first | decide | omega)), hlaw⟩), by (try dsimp only); rw [ht]; exact ⟨hT, hF⟩⟩, hS.F ht⟩) hS.2.2 dX12_close_26
