def w_s_sortOf : List Cond := .code yX12_sortOf cX12_sortOf 1 (some .int) :: (HAppend.hAppend (α := List Cond) (β := List Cond) (γ := List Cond) [.code yX12_isWord cX12_isWord 4 (some .boolean), .fieldLink RX12 335 "SeaLandModel" "point" "I", .fieldLink RX12 345 "SeaLandModel" "begin" "I", .code yJ0_length_8abf5 cJ0_length_8abf5 1 (some .int), .fieldLink RJ0 9 "java/lang/String" "value" "[B", .code yJ0_coder_7d493 cJ0_coder_7d493 1 (some .byte), .fieldLink RJ0 38 "java/lang/String" "COMPACT_STRINGS" "Z", .fieldLink RJ0 15 "java/lang/String" "coder" "B", .methodLink RJ0 335 yJ0_coder_7d493, .instanceMethod yJ0_coder_7d493, .selects RJ0 yJ0_coder_7d493 yJ0_coder_7d493, .initialized RJ0, .methodLink RX12 351 yJ0_length_8abf5, .instanceMethod yJ0_length_8abf5, .selects RJ0 yJ0_length_8abf5 yJ0_length_8abf5, .fieldLink RX12 31 "SeaLandModel" "tape" "[B", .code yJ0_charAt_5068e cJ0_charAt_5068e 2 (some .char), .code yJ0_isLatin1_aae02 cJ0_isLatin1_aae02 1 (some .boolean), .methodLink RJ0 492 yJ0_isLatin1_aae02, .instanceMethod yJ0_isLatin1_aae02, .selects RJ0 yJ0_isLatin1_aae02 yJ0_isLatin1_aae02, .code yJ1_charAt_3b067 cJ1_charAt_3b067 2 (some .char), .code yJ0_checkIndex_df160 cJ0_checkIndex_df160 2 none, .fieldLink RJ0 1053 "jdk/internal/util/Preconditions" "SIOOBE_FORMATTER" "Ljava/util/function/BiFunction;", .code yJ3_checkIndex_8e157 cJ3_checkIndex_8e157 3 (some .int), .methodLink RJ0 1059 yJ3_checkIndex_8e157, .static yJ3_checkIndex_8e157, .initialized RJ3, .methodLink RJ1 9 yJ0_checkIndex_df160, .static yJ0_checkIndex_df160, .methodLink RJ0 495 yJ1_charAt_3b067, .static yJ1_charAt_3b067, .initialized RJ1, .methodLink RX12 356 yJ0_charAt_5068e, .instanceMethod yJ0_charAt_5068e, .selects RJ0 yJ0_charAt_5068e yJ0_charAt_5068e, .methodLink RX12 363 yX12_isWord, .instanceMethod yX12_isWord, .selects RX12 yX12_isWord yX12_isWord, .initialized RX12] bs)
set_option maxHeartbeats 4000000 in
set_option maxRecDepth 100000 in
theorem s_sortOf (l : Launch) (dC : Nat → ClassId) (dI : Nat → Nat → Nat) (kA : Nat → ClassId) (adK adV : Nat → Nat) (G : gT) (H0 : Heap) (q : Nat → Nat) (wZ wN : Nat → Int) (wH wB wC : Int) (wL wK : Nat → Prop) (wU wV : Nat → Nat) (PI : Nat → Int → Prop) (im : Int) (PM PT : Nat → Int → Prop) (lS lB lE : Nat → Nat → Int → Prop) (lN : Nat → Int) (o0 : Nat) (pt : Int32) (bg : Int32)  (hT : gH (dC, dI) kA (SHm q (wP wZ wN wH wB wC wL wK wU wV) PI im PM PT lS lB lE lN) G H0) (hr_o0 : G o0 = some 0) (hm_pt : el H0 o0 (dI 15 12) = some (.int pt)) (hm_bg : el H0 o0 (dI 15 14) = some (.int bg)) (hq0 : 0 ≤ pt.toInt ∧ pt.toInt ≤ 400) (hq1 : 0 ≤ bg.toInt ∧ bg.toInt ≤ 400) (hbp : bg.toInt ≤ pt.toInt) (hgz : ∀ i, 0 ≤ wZ i) (hgn : ∀ i, 6500000 ≤ wN i ∧ wN i ≤ 20200000) (hgh : 0 ≤ wH ∧ wH ≤ 40000) (hgb : 0 ≤ wB ∧ wB ≤ 3850000) (hgc : 0 ≤ wC ∧ wC ≤ 30) (hgi : 0 ≤ im ∧ im ≤ 1) (hgu : ∀ a t, G a = some (t + 1) → a = q t) : Met l yX12_sortOf w_s_sortOf ({ frames := 5, cells := 0, slots := 0, locals := 108 }) (va_Pc [.ref o0] (fun U => U.heap = H0 ∧ va_K (dC, dI) vwCl (tyl kA) U ∧ EVS adK adV (gA G H0.size) U U.heap)) (va_Qi (fun (r : Int32) (u : Unit) => (-1 ≤ r.toInt ∧ r.toInt ≤ 9)) (fun (_ : Unit) (t : State) => gH (dC, dI) kA (SHm q (wP wZ wN wH wB wC wL wK wU wV) PI im PM PT lS lB lE lN) G t.heap ∧ gF (dC, dI) SKm G ([] : List (Nat × Nat)) H0 t.heap) (gA G H0.size)) 0 0 (gA G H0.size) := by
  refine Met.ofW (cc := cX12_sortOf) (maxL := 1) (ret := (some .int)) (by decide) rfl ?_
  intro p e s m args below meth c s₁ B hml hv
  obtain ⟨rfl, hH0, hK, hE⟩ := hv
  have hx := B.exec
  have hb := B.bytes
  have hr := B.returns
  have hts := atoms_spec (ws := w_s_sortOf) B.pre
  have hown : s.vm.findClass RX12 = some m.cls := findClass_of_methodNamed B.named
  have hlocks := B.notSynchronized
  subst hH0
  generalize hAe : gA G s.heap.size = A at hE ⊢
  have hA : ∀ q : Nat, s.heap.size ≤ q → A q := fun q h => by rw [← hAe]; exact Or.inr h
  have hG := gA_of hAe
  have hS : va_S A s.heap s.heap [] := va_S.rf
  have hF : gF (dC, dI) SKm G ([] : List (Nat × Nat)) s.heap s.heap := gF.rf
  have hl := lv_entry ([.ref o0]) (n := 1) (Nat.le_of_ble_eq_true rfl)
  rw [lg_entry_eq]
  generalize (lg_sl ([.ref o0]) ++ List.replicate (1 - (lg_sl ([.ref o0])).length) Slot.unset).toArray = ls at hl ⊢
  have hl : lv_has ls 1 [(0, .ref o0)] := hl
  refine lv_aload_n hx hb dX12_sortOf_0 rfl (lv_at hl 0 rfl) ?_
  refine tw_ldcwS hx hb hown hE.s14 dX12_sortOf_1 ?_
  have hFc := gA_free hG hA hS
  refine va_calli (va_runV (As := [.ref (adK 14)]) (rest := []) ⟨hx, hb, hml, hown, hts⟩ (s_isWord l dC dI kA adK adV G s.heap q wZ wN wH wB wC wL wK wU wV PI im PM PT lS lB lE lN o0 pt bg 14 hT hr_o0 hm_pt hm_bg (by have q8 := ti_all pt; omega) (by have q8 := ti_all bg; omega) (by have := (show pt.toInt = pt.toInt from rfl); have := (show bg.toInt = bg.toInt from rfl); omega) (by first | omega | decide) hgz hgn hgh hgb hgc hgi hgu) (cwV 1 hts (goodIn_app (goodIn_r _ [37, 38, 39, 40] rfl (by decide +kernel)) (goodIn_ca (goodIn_r _ [1, 2, 3, 4, 5, 6, 7, 8, 9, 10, 11, 12, 13, 14, 15, 16, 17, 18, 19, 20, 21, 22, 23, 24, 25, 26, 27, 28, 29, 30, 31, 32, 33, 34, 35, 36] rfl (by decide +kernel)) (bs_in _ _))) rfl rfl rfl (by decide +kernel) ⟨(Nat.le_of_ble_eq_true rfl), (Nat.le_of_ble_eq_true rfl)⟩) ⟨fun a U g mk q => by obtain ⟨q0, q1, qK, qE⟩ := q; exact ⟨q0, q1, va_K.moved (u := U) (U := U.calling g mk a) (Vm.Alike.refl U.vm) qK, EVS.blind g mk a qE⟩, gH_rc hK hT hr_o0 shm_0 rfl, fun U hU hW => ⟨rfl, hU, va_K.moved hW.alike hK, hE.call hS hFc hU hW⟩⟩ rfl rfl hl.1 rfl (lv_room (Nat.le_of_ble_eq_true rfl)) dX12_sortOf_4 ⟨(Nat.le_of_ble_eq_true rfl), (Nat.le_of_ble_eq_true rfl)⟩) hS (fun q _ h => hFc q h) hFc (fun r1 u t H locs ht hvm hw2 hB _ _ hS => ?_)
  obtain ⟨hT, hF1⟩ := hB
  rw [ht] at hT hF1
  have m3 := (hF1.fld hr_o0 skm_0 (k := 12) (by decide) (by decide)).trans hm_pt
  have m4 := (hF1.fld hr_o0 skm_0 (k := 14) (by decide) (by decide)).trans hm_bg
  have hF := hF.more hF1 (by decide)
  try dsimp only at hw2
  obtain ⟨h5, hi6⟩ := hw2
  refine lv_if_eq (tgt := 14) hx hb dX12_sortOf_7 (by decide) (fun c7 => ?_) (fun c7 => ?_)
  · have t8 : r1.toInt = 0 := ti_eq c7 rfl (by decide)
    refine lv_aload_n hx hb dX12_sortOf_14 rfl (lv_at hl 0 rfl) ?_
    refine tw_ldcwS hx hb hown hE.s1 dX12_sortOf_15 ?_
    have hFc := gA_free hG hA hS
    refine va_calli (va_runV (As := [.ref (adK 1)]) (rest := []) ⟨hx, hb, hml, hown, hts⟩ (s_isWord l dC dI kA adK adV G H q wZ wN wH wB wC wL wK wU wV PI im PM PT lS lB lE lN o0 pt bg 1 hT hr_o0 m3 m4 (by have q8 := ti_all pt; omega) (by have q8 := ti_all bg; omega) (by have := (show pt.toInt = pt.toInt from rfl); have := (show bg.toInt = bg.toInt from rfl); omega) (by first | omega | decide) hgz hgn hgh hgb hgc hgi hgu) (cwV 1 hts (goodIn_app (goodIn_r _ [37, 38, 39, 40] rfl (by decide +kernel)) (goodIn_ca (goodIn_r _ [1, 2, 3, 4, 5, 6, 7, 8, 9, 10, 11, 12, 13, 14, 15, 16, 17, 18, 19, 20, 21, 22, 23, 24, 25, 26, 27, 28, 29, 30, 31, 32, 33, 34, 35, 36] rfl (by decide +kernel)) (bs_in _ _))) rfl rfl rfl (by decide +kernel) ⟨(Nat.le_of_ble_eq_true rfl), (Nat.le_of_ble_eq_true rfl)⟩) ⟨fun a U g mk q => by obtain ⟨q0, q1, qK, qE⟩ := q; exact ⟨q0, q1, va_K.moved (u := U) (U := U.calling g mk a) (Vm.Alike.refl U.vm) qK, EVS.blind g mk a qE⟩, gH_rc hK hT hr_o0 shm_0 rfl, fun U hU hW => ⟨rfl, hU, va_K.moved hW.alike hK, hE.call hS hFc hU hW⟩⟩ rfl rfl hl.1 rfl (lv_room (Nat.le_of_ble_eq_true rfl)) dX12_sortOf_18 ⟨(Nat.le_of_ble_eq_true rfl), (Nat.le_of_ble_eq_true rfl)⟩) hS (fun q _ h => hFc q h) hFc (fun r9 u t H locs ht hvm hw10 hB _ _ hS => ?_)
    obtain ⟨hT, hF1⟩ := hB
    rw [ht] at hT hF1
    have m11 := (hF1.fld hr_o0 skm_0 (k := 12) (by decide) (by decide)).trans m3
    have m12 := (hF1.fld hr_o0 skm_0 (k := 14) (by decide) (by decide)).trans m4
    have hF := hF.more hF1 (by decide)
    try dsimp only at hw10
    obtain ⟨h13, hi14⟩ := hw10
    refine lv_if_eq (tgt := 28) hx hb dX12_sortOf_21 (by decide) (fun c15 => ?_) (fun c15 => ?_)
    · have t16 : r9.toInt = 0 := ti_eq c15 rfl (by decide)
      refine lv_aload_n hx hb dX12_sortOf_28 rfl (lv_at hl 0 rfl) ?_
      refine tw_ldcwS hx hb hown hE.s15 dX12_sortOf_29 ?_
      have hFc := gA_free hG hA hS
      refine va_calli (va_runV (As := [.ref (adK 15)]) (rest := []) ⟨hx, hb, hml, hown, hts⟩ (s_isWord l dC dI kA adK adV G H q wZ wN wH wB wC wL wK wU wV PI im PM PT lS lB lE lN o0 pt bg 15 hT hr_o0 m11 m12 (by have q8 := ti_all pt; omega) (by have q8 := ti_all bg; omega) (by have := (show pt.toInt = pt.toInt from rfl); have := (show bg.toInt = bg.toInt from rfl); omega) (by first | omega | decide) hgz hgn hgh hgb hgc hgi hgu) (cwV 1 hts (goodIn_app (goodIn_r _ [37, 38, 39, 40] rfl (by decide +kernel)) (goodIn_ca (goodIn_r _ [1, 2, 3, 4, 5, 6, 7, 8, 9, 10, 11, 12, 13, 14, 15, 16, 17, 18, 19, 20, 21, 22, 23, 24, 25, 26, 27, 28, 29, 30, 31, 32, 33, 34, 35, 36] rfl (by decide +kernel)) (bs_in _ _))) rfl rfl rfl (by decide +kernel) ⟨(Nat.le_of_ble_eq_true rfl), (Nat.le_of_ble_eq_true rfl)⟩) ⟨fun a U g mk q => by obtain ⟨q0, q1, qK, qE⟩ := q; exact ⟨q0, q1, va_K.moved (u := U) (U := U.calling g mk a) (Vm.Alike.refl U.vm) qK, EVS.blind g mk a qE⟩, gH_rc hK hT hr_o0 shm_0 rfl, fun U hU hW => ⟨rfl, hU, va_K.moved hW.alike hK, hE.call hS hFc hU hW⟩⟩ rfl rfl hl.1 rfl (lv_room (Nat.le_of_ble_eq_true rfl)) dX12_sortOf_32 ⟨(Nat.le_of_ble_eq_true rfl), (Nat.le_of_ble_eq_true rfl)⟩) hS (fun q _ h => hFc q h) hFc (fun r17 u t H locs ht hvm hw18 hB _ _ hS => ?_)
      obtain ⟨hT, hF1⟩ := hB
      rw [ht] at hT hF1
      have m19 := (hF1.fld hr_o0 skm_0 (k := 12) (by decide) (by decide)).trans m11
      have m20 := (hF1.fld hr_o0 skm_0 (k := 14) (by decide) (by decide)).trans m12
      have hF := hF.more hF1 (by decide)
      try dsimp only at hw18
      obtain ⟨h21, hi22⟩ := hw18
      refine lv_if_eq (tgt := 42) hx hb dX12_sortOf_35 (by decide) (fun c23 => ?_) (fun c23 => ?_)
      · have t24 : r17.toInt = 0 := ti_eq c23 rfl (by decide)
        refine lv_aload_n hx hb dX12_sortOf_42 rfl (lv_at hl 0 rfl) ?_
        refine tw_ldcwS hx hb hown hE.s16 dX12_sortOf_43 ?_
        have hFc := gA_free hG hA hS
        refine va_calli (va_runV (As := [.ref (adK 16)]) (rest := []) ⟨hx, hb, hml, hown, hts⟩ (s_isWord l dC dI kA adK adV G H q wZ wN wH wB wC wL wK wU wV PI im PM PT lS lB lE lN o0 pt bg 16 hT hr_o0 m19 m20 (by have q8 := ti_all pt; omega) (by have q8 := ti_all bg; omega) (by have := (show pt.toInt = pt.toInt from rfl); have := (show bg.toInt = bg.toInt from rfl); omega) (by first | omega | decide) hgz hgn hgh hgb hgc hgi hgu) (cwV 1 hts (goodIn_app (goodIn_r _ [37, 38, 39, 40] rfl (by decide +kernel)) (goodIn_ca (goodIn_r _ [1, 2, 3, 4, 5, 6, 7, 8, 9, 10, 11, 12, 13, 14, 15, 16, 17, 18, 19, 20, 21, 22, 23, 24, 25, 26, 27, 28, 29, 30, 31, 32, 33, 34, 35, 36] rfl (by decide +kernel)) (bs_in _ _))) rfl rfl rfl (by decide +kernel) ⟨(Nat.le_of_ble_eq_true rfl), (Nat.le_of_ble_eq_true rfl)⟩) ⟨fun a U g mk q => by obtain ⟨q0, q1, qK, qE⟩ := q; exact ⟨q0, q1, va_K.moved (u := U) (U := U.calling g mk a) (Vm.Alike.refl U.vm) qK, EVS.blind g mk a qE⟩, gH_rc hK hT hr_o0 shm_0 rfl, fun U hU hW => ⟨rfl, hU, va_K.moved hW.alike hK, hE.call hS hFc hU hW⟩⟩ rfl rfl hl.1 rfl (lv_room (Nat.le_of_ble_eq_true rfl)) dX12_sortOf_46 ⟨(Nat.le_of_ble_eq_true rfl), (Nat.le_of_ble_eq_true rfl)⟩) hS (fun q _ h => hFc q h) hFc (fun r25 u t H locs ht hvm hw26 hB _ _ hS => ?_)
        obtain ⟨hT, hF1⟩ := hB
        rw [ht] at hT hF1
        have m27 := (hF1.fld hr_o0 skm_0 (k := 12) (by decide) (by decide)).trans m19
        have m28 := (hF1.fld hr_o0 skm_0 (k := 14) (by decide) (by decide)).trans m20
        have hF := hF.more hF1 (by decide)
        try dsimp only at hw26
        obtain ⟨h29, hi30⟩ := hw26
        refine lv_if_eq (tgt := 56) hx hb dX12_sortOf_49 (by decide) (fun c31 => ?_) (fun c31 => ?_)
        · have t32 : r25.toInt = 0 := ti_eq c31 rfl (by decide)
          refine lv_aload_n hx hb dX12_sortOf_56 rfl (lv_at hl 0 rfl) ?_
          refine tw_ldcwS hx hb hown hE.s17 dX12_sortOf_57 ?_
          have hFc := gA_free hG hA hS
          refine va_calli (va_runV (As := [.ref (adK 17)]) (rest := []) ⟨hx, hb, hml, hown, hts⟩ (s_isWord l dC dI kA adK adV G H q wZ wN wH wB wC wL wK wU wV PI im PM PT lS lB lE lN o0 pt bg 17 hT hr_o0 m27 m28 (by have q8 := ti_all pt; omega) (by have q8 := ti_all bg; omega) (by have := (show pt.toInt = pt.toInt from rfl); have := (show bg.toInt = bg.toInt from rfl); omega) (by first | omega | decide) hgz hgn hgh hgb hgc hgi hgu) (cwV 1 hts (goodIn_app (goodIn_r _ [37, 38, 39, 40] rfl (by decide +kernel)) (goodIn_ca (goodIn_r _ [1, 2, 3, 4, 5, 6, 7, 8, 9, 10, 11, 12, 13, 14, 15, 16, 17, 18, 19, 20, 21, 22, 23, 24, 25, 26, 27, 28, 29, 30, 31, 32, 33, 34, 35, 36] rfl (by decide +kernel)) (bs_in _ _))) rfl rfl rfl (by decide +kernel) ⟨(Nat.le_of_ble_eq_true rfl), (Nat.le_of_ble_eq_true rfl)⟩) ⟨fun a U g mk q => by obtain ⟨q0, q1, qK, qE⟩ := q; exact ⟨q0, q1, va_K.moved (u := U) (U := U.calling g mk a) (Vm.Alike.refl U.vm) qK, EVS.blind g mk a qE⟩, gH_rc hK hT hr_o0 shm_0 rfl, fun U hU hW => ⟨rfl, hU, va_K.moved hW.alike hK, hE.call hS hFc hU hW⟩⟩ rfl rfl hl.1 rfl (lv_room (Nat.le_of_ble_eq_true rfl)) dX12_sortOf_60 ⟨(Nat.le_of_ble_eq_true rfl), (Nat.le_of_ble_eq_true rfl)⟩) hS (fun q _ h => hFc q h) hFc (fun r33 u t H locs ht hvm hw34 hB _ _ hS => ?_)
          obtain ⟨hT, hF1⟩ := hB
          rw [ht] at hT hF1
          have m35 := (hF1.fld hr_o0 skm_0 (k := 12) (by decide) (by decide)).trans m27
          have m36 := (hF1.fld hr_o0 skm_0 (k := 14) (by decide) (by decide)).trans m28
          have hF := hF.more hF1 (by decide)
          try dsimp only at hw34
          obtain ⟨h37, hi38⟩ := hw34
          refine lv_if_eq (tgt := 70) hx hb dX12_sortOf_63 (by decide) (fun c39 => ?_) (fun c39 => ?_)
          · have t40 : r33.toInt = 0 := ti_eq c39 rfl (by decide)
            refine lv_aload_n hx hb dX12_sortOf_70 rfl (lv_at hl 0 rfl) ?_
            refine tw_ldcwS hx hb hown hE.s18 dX12_sortOf_71 ?_
            have hFc := gA_free hG hA hS
            refine va_calli (va_runV (As := [.ref (adK 18)]) (rest := []) ⟨hx, hb, hml, hown, hts⟩ (s_isWord l dC dI kA adK adV G H q wZ wN wH wB wC wL wK wU wV PI im PM PT lS lB lE lN o0 pt bg 18 hT hr_o0 m35 m36 (by have q8 := ti_all pt; omega) (by have q8 := ti_all bg; omega) (by have := (show pt.toInt = pt.toInt from rfl); have := (show bg.toInt = bg.toInt from rfl); omega) (by first | omega | decide) hgz hgn hgh hgb hgc hgi hgu) (cwV 1 hts (goodIn_app (goodIn_r _ [37, 38, 39, 40] rfl (by decide +kernel)) (goodIn_ca (goodIn_r _ [1, 2, 3, 4, 5, 6, 7, 8, 9, 10, 11, 12, 13, 14, 15, 16, 17, 18, 19, 20, 21, 22, 23, 24, 25, 26, 27, 28, 29, 30, 31, 32, 33, 34, 35, 36] rfl (by decide +kernel)) (bs_in _ _))) rfl rfl rfl (by decide +kernel) ⟨(Nat.le_of_ble_eq_true rfl), (Nat.le_of_ble_eq_true rfl)⟩) ⟨fun a U g mk q => by obtain ⟨q0, q1, qK, qE⟩ := q; exact ⟨q0, q1, va_K.moved (u := U) (U := U.calling g mk a) (Vm.Alike.refl U.vm) qK, EVS.blind g mk a qE⟩, gH_rc hK hT hr_o0 shm_0 rfl, fun U hU hW => ⟨rfl, hU, va_K.moved hW.alike hK, hE.call hS hFc hU hW⟩⟩ rfl rfl hl.1 rfl (lv_room (Nat.le_of_ble_eq_true rfl)) dX12_sortOf_74 ⟨(Nat.le_of_ble_eq_true rfl), (Nat.le_of_ble_eq_true rfl)⟩) hS (fun q _ h => hFc q h) hFc (fun r41 u t H locs ht hvm hw42 hB _ _ hS => ?_)
            obtain ⟨hT, hF1⟩ := hB
            rw [ht] at hT hF1
            have m43 := (hF1.fld hr_o0 skm_0 (k := 12) (by decide) (by decide)).trans m35
            have m44 := (hF1.fld hr_o0 skm_0 (k := 14) (by decide) (by decide)).trans m36
            have hF := hF.more hF1 (by decide)
            try dsimp only at hw42
            obtain ⟨h45, hi46⟩ := hw42
            refine lv_if_eq (tgt := 84) hx hb dX12_sortOf_77 (by decide) (fun c47 => ?_) (fun c47 => ?_)
            · have t48 : r41.toInt = 0 := ti_eq c47 rfl (by decide)
              refine lv_aload_n hx hb dX12_sortOf_84 rfl (lv_at hl 0 rfl) ?_
              refine tw_ldcwS hx hb hown hE.s19 dX12_sortOf_85 ?_
              have hFc := gA_free hG hA hS
              refine va_calli (va_runV (As := [.ref (adK 19)]) (rest := []) ⟨hx, hb, hml, hown, hts⟩ (s_isWord l dC dI kA adK adV G H q wZ wN wH wB wC wL wK wU wV PI im PM PT lS lB lE lN o0 pt bg 19 hT hr_o0 m43 m44 (by have q8 := ti_all pt; omega) (by have q8 := ti_all bg; omega) (by have := (show pt.toInt = pt.toInt from rfl); have := (show bg.toInt = bg.toInt from rfl); omega) (by first | omega | decide) hgz hgn hgh hgb hgc hgi hgu) (cwV 1 hts (goodIn_app (goodIn_r _ [37, 38, 39, 40] rfl (by decide +kernel)) (goodIn_ca (goodIn_r _ [1, 2, 3, 4, 5, 6, 7, 8, 9, 10, 11, 12, 13, 14, 15, 16, 17, 18, 19, 20, 21, 22, 23, 24, 25, 26, 27, 28, 29, 30, 31, 32, 33, 34, 35, 36] rfl (by decide +kernel)) (bs_in _ _))) rfl rfl rfl (by decide +kernel) ⟨(Nat.le_of_ble_eq_true rfl), (Nat.le_of_ble_eq_true rfl)⟩) ⟨fun a U g mk q => by obtain ⟨q0, q1, qK, qE⟩ := q; exact ⟨q0, q1, va_K.moved (u := U) (U := U.calling g mk a) (Vm.Alike.refl U.vm) qK, EVS.blind g mk a qE⟩, gH_rc hK hT hr_o0 shm_0 rfl, fun U hU hW => ⟨rfl, hU, va_K.moved hW.alike hK, hE.call hS hFc hU hW⟩⟩ rfl rfl hl.1 rfl (lv_room (Nat.le_of_ble_eq_true rfl)) dX12_sortOf_88 ⟨(Nat.le_of_ble_eq_true rfl), (Nat.le_of_ble_eq_true rfl)⟩) hS (fun q _ h => hFc q h) hFc (fun r49 u t H locs ht hvm hw50 hB _ _ hS => ?_)
              obtain ⟨hT, hF1⟩ := hB
              rw [ht] at hT hF1
              have m51 := (hF1.fld hr_o0 skm_0 (k := 12) (by decide) (by decide)).trans m43
              have m52 := (hF1.fld hr_o0 skm_0 (k := 14) (by decide) (by decide)).trans m44
              have hF := hF.more hF1 (by decide)
              try dsimp only at hw50
              obtain ⟨h53, hi54⟩ := hw50
              refine lv_if_eq (tgt := 99) hx hb dX12_sortOf_91 (by decide) (fun c55 => ?_) (fun c55 => ?_)
              · have t56 : r49.toInt = 0 := ti_eq c55 rfl (by decide)
                refine lv_aload_n hx hb dX12_sortOf_99 rfl (lv_at hl 0 rfl) ?_
                refine tw_ldcwS hx hb hown hE.s20 dX12_sortOf_100 ?_
                have hFc := gA_free hG hA hS
                refine va_calli (va_runV (As := [.ref (adK 20)]) (rest := []) ⟨hx, hb, hml, hown, hts⟩ (s_isWord l dC dI kA adK adV G H q wZ wN wH wB wC wL wK wU wV PI im PM PT lS lB lE lN o0 pt bg 20 hT hr_o0 m51 m52 (by have q8 := ti_all pt; omega) (by have q8 := ti_all bg; omega) (by have := (show pt.toInt = pt.toInt from rfl); have := (show bg.toInt = bg.toInt from rfl); omega) (by first | omega | decide) hgz hgn hgh hgb hgc hgi hgu) (cwV 1 hts (goodIn_app (goodIn_r _ [37, 38, 39, 40] rfl (by decide +kernel)) (goodIn_ca (goodIn_r _ [1, 2, 3, 4, 5, 6, 7, 8, 9, 10, 11, 12, 13, 14, 15, 16, 17, 18, 19, 20, 21, 22, 23, 24, 25, 26, 27, 28, 29, 30, 31, 32, 33, 34, 35, 36] rfl (by decide +kernel)) (bs_in _ _))) rfl rfl rfl (by decide +kernel) ⟨(Nat.le_of_ble_eq_true rfl), (Nat.le_of_ble_eq_true rfl)⟩) ⟨fun a U g mk q => by obtain ⟨q0, q1, qK, qE⟩ := q; exact ⟨q0, q1, va_K.moved (u := U) (U := U.calling g mk a) (Vm.Alike.refl U.vm) qK, EVS.blind g mk a qE⟩, gH_rc hK hT hr_o0 shm_0 rfl, fun U hU hW => ⟨rfl, hU, va_K.moved hW.alike hK, hE.call hS hFc hU hW⟩⟩ rfl rfl hl.1 rfl (lv_room (Nat.le_of_ble_eq_true rfl)) dX12_sortOf_103 ⟨(Nat.le_of_ble_eq_true rfl), (Nat.le_of_ble_eq_true rfl)⟩) hS (fun q _ h => hFc q h) hFc (fun r57 u t H locs ht hvm hw58 hB _ _ hS => ?_)
                obtain ⟨hT, hF1⟩ := hB
                rw [ht] at hT hF1
                have m59 := (hF1.fld hr_o0 skm_0 (k := 12) (by decide) (by decide)).trans m51
                have m60 := (hF1.fld hr_o0 skm_0 (k := 14) (by decide) (by decide)).trans m52
                have hF := hF.more hF1 (by decide)
                try dsimp only at hw58
                obtain ⟨h61, hi62⟩ := hw58
                refine lv_if_eq (tgt := 114) hx hb dX12_sortOf_106 (by decide) (fun c63 => ?_) (fun c63 => ?_)
                · have t64 : r57.toInt = 0 := ti_eq c63 rfl (by decide)
                  refine lv_aload_n hx hb dX12_sortOf_114 rfl (lv_at hl 0 rfl) ?_
                  refine tw_ldcwS hx hb hown hE.s21 dX12_sortOf_115 ?_
                  have hFc := gA_free hG hA hS
                  refine va_calli (va_runV (As := [.ref (adK 21)]) (rest := []) ⟨hx, hb, hml, hown, hts⟩ (s_isWord l dC dI kA adK adV G H q wZ wN wH wB wC wL wK wU wV PI im PM PT lS lB lE lN o0 pt bg 21 hT hr_o0 m59 m60 (by have q8 := ti_all pt; omega) (by have q8 := ti_all bg; omega) (by have := (show pt.toInt = pt.toInt from rfl); have := (show bg.toInt = bg.toInt from rfl); omega) (by first | omega | decide) hgz hgn hgh hgb hgc hgi hgu) (cwV 1 hts (goodIn_app (goodIn_r _ [37, 38, 39, 40] rfl (by decide +kernel)) (goodIn_ca (goodIn_r _ [1, 2, 3, 4, 5, 6, 7, 8, 9, 10, 11, 12, 13, 14, 15, 16, 17, 18, 19, 20, 21, 22, 23, 24, 25, 26, 27, 28, 29, 30, 31, 32, 33, 34, 35, 36] rfl (by decide +kernel)) (bs_in _ _))) rfl rfl rfl (by decide +kernel) ⟨(Nat.le_of_ble_eq_true rfl), (Nat.le_of_ble_eq_true rfl)⟩) ⟨fun a U g mk q => by obtain ⟨q0, q1, qK, qE⟩ := q; exact ⟨q0, q1, va_K.moved (u := U) (U := U.calling g mk a) (Vm.Alike.refl U.vm) qK, EVS.blind g mk a qE⟩, gH_rc hK hT hr_o0 shm_0 rfl, fun U hU hW => ⟨rfl, hU, va_K.moved hW.alike hK, hE.call hS hFc hU hW⟩⟩ rfl rfl hl.1 rfl (lv_room (Nat.le_of_ble_eq_true rfl)) dX12_sortOf_118 ⟨(Nat.le_of_ble_eq_true rfl), (Nat.le_of_ble_eq_true rfl)⟩) hS (fun q _ h => hFc q h) hFc (fun r65 u t H locs ht hvm hw66 hB _ _ hS => ?_)
                  obtain ⟨hT, hF1⟩ := hB
                  rw [ht] at hT hF1
                  have m67 := (hF1.fld hr_o0 skm_0 (k := 12) (by decide) (by decide)).trans m59
                  have m68 := (hF1.fld hr_o0 skm_0 (k := 14) (by decide) (by decide)).trans m60
                  have hF := hF.more hF1 (by decide)
                  try dsimp only at hw66
                  obtain ⟨h69, hi70⟩ := hw66
                  refine lv_if_eq (tgt := 129) hx hb dX12_sortOf_121 (by decide) (fun c71 => ?_) (fun c71 => ?_)
                  · have t72 : r65.toInt = 0 := ti_eq c71 rfl (by decide)
                    refine lv_aload_n hx hb dX12_sortOf_129 rfl (lv_at hl 0 rfl) ?_
                    refine tw_ldcwS hx hb hown hE.s22 dX12_sortOf_130 ?_
                    have hFc := gA_free hG hA hS
                    refine va_calli (va_runV (As := [.ref (adK 22)]) (rest := []) ⟨hx, hb, hml, hown, hts⟩ (s_isWord l dC dI kA adK adV G H q wZ wN wH wB wC wL wK wU wV PI im PM PT lS lB lE lN o0 pt bg 22 hT hr_o0 m67 m68 (by have q8 := ti_all pt; omega) (by have q8 := ti_all bg; omega) (by have := (show pt.toInt = pt.toInt from rfl); have := (show bg.toInt = bg.toInt from rfl); omega) (by first | omega | decide) hgz hgn hgh hgb hgc hgi hgu) (cwV 1 hts (goodIn_app (goodIn_r _ [37, 38, 39, 40] rfl (by decide +kernel)) (goodIn_ca (goodIn_r _ [1, 2, 3, 4, 5, 6, 7, 8, 9, 10, 11, 12, 13, 14, 15, 16, 17, 18, 19, 20, 21, 22, 23, 24, 25, 26, 27, 28, 29, 30, 31, 32, 33, 34, 35, 36] rfl (by decide +kernel)) (bs_in _ _))) rfl rfl rfl (by decide +kernel) ⟨(Nat.le_of_ble_eq_true rfl), (Nat.le_of_ble_eq_true rfl)⟩) ⟨fun a U g mk q => by obtain ⟨q0, q1, qK, qE⟩ := q; exact ⟨q0, q1, va_K.moved (u := U) (U := U.calling g mk a) (Vm.Alike.refl U.vm) qK, EVS.blind g mk a qE⟩, gH_rc hK hT hr_o0 shm_0 rfl, fun U hU hW => ⟨rfl, hU, va_K.moved hW.alike hK, hE.call hS hFc hU hW⟩⟩ rfl rfl hl.1 rfl (lv_room (Nat.le_of_ble_eq_true rfl)) dX12_sortOf_133 ⟨(Nat.le_of_ble_eq_true rfl), (Nat.le_of_ble_eq_true rfl)⟩) hS (fun q _ h => hFc q h) hFc (fun r73 u t H locs ht hvm hw74 hB _ _ hS => ?_)
                    obtain ⟨hT, hF1⟩ := hB
                    rw [ht] at hT hF1
                    have hF := hF.more hF1 (by decide)
                    try dsimp only at hw74
                    obtain ⟨h77, hi78⟩ := hw74
                    refine lv_if_eq (tgt := 144) hx hb dX12_sortOf_136 (by decide) (fun c79 => ?_) (fun c79 => ?_)
                    · have t80 : r73.toInt = 0 := ti_eq c79 rfl (by decide)
                      refine lv_iconst (v := (-1)) hx hb dX12_sortOf_144 (by decide) ?_
                      exact W.iret (v := (-1)) hx hb hr (fun t ht hW => ⟨⟨(-1), (), rfl, (by exact (rg_t (a := (-1)) (by decide) (by first | decide | omega) (by first | decide | omega))), by (try dsimp only); rw [ht]; exact ⟨hT, hF⟩⟩, hS.F ht⟩) hS.2.2 dX12_sortOf_145
                    · have t81 : r73.toInt ≠ 0 := ti_ne c79 rfl (by decide)
                      have t82 : pt.toInt - bg.toInt = ((sLn 22 : Nat) : Int) := hi78 ((bit_of ⟨by omega, by omega⟩).resolve_left c79)
                      refine lv_bipush (v := 9) hx hb dX12_sortOf_139 (by decide) ?_
                      refine lv_goto (tgt := 145) hx hb dX12_sortOf_141 (by decide) ?_
                      exact W.iret (v := 9) hx hb hr (fun t ht hW => ⟨⟨9, (), rfl, (by exact (rg_t (a := 9) (by decide) (by first | decide | omega) (by first | decide | omega))), by (try dsimp only); rw [ht]; exact ⟨hT, hF⟩⟩, hS.F ht⟩) hS.2.2 dX12_sortOf_145
                  · have t83 : r65.toInt ≠ 0 := ti_ne c71 rfl (by decide)
                    have t84 : pt.toInt - bg.toInt = ((sLn 21 : Nat) : Int) := hi70 ((bit_of ⟨by omega, by omega⟩).resolve_left c71)
                    refine lv_bipush (v := 8) hx hb dX12_sortOf_124 (by decide) ?_
                    refine lv_goto (tgt := 145) hx hb dX12_sortOf_126 (by decide) ?_
                    exact W.iret (v := 8) hx hb hr (fun t ht hW => ⟨⟨8, (), rfl, (by exact (rg_t (a := 8) (by decide) (by first | decide | omega) (by first | decide | omega))), by (try dsimp only); rw [ht]; exact ⟨hT, hF⟩⟩, hS.F ht⟩) hS.2.2 dX12_sortOf_145
                · have t85 : r57.toInt ≠ 0 := ti_ne c63 rfl (by decide)
                  have t86 : pt.toInt - bg.toInt = ((sLn 20 : Nat) : Int) := hi62 ((bit_of ⟨by omega, by omega⟩).resolve_left c63)
                  refine lv_bipush (v := 7) hx hb dX12_sortOf_109 (by decide) ?_
                  refine lv_goto (tgt := 145) hx hb dX12_sortOf_111 (by decide) ?_
                  exact W.iret (v := 7) hx hb hr (fun t ht hW => ⟨⟨7, (), rfl, (by exact (rg_t (a := 7) (by decide) (by first | decide | omega) (by first | decide | omega))), by (try dsimp only); rw [ht]; exact ⟨hT, hF⟩⟩, hS.F ht⟩) hS.2.2 dX12_sortOf_145
              · have t87 : r49.toInt ≠ 0 := ti_ne c55 rfl (by decide)
                have t88 : pt.toInt - bg.toInt = ((sLn 19 : Nat) : Int) := hi54 ((bit_of ⟨by omega, by omega⟩).resolve_left c55)
                refine lv_bipush (v := 6) hx hb dX12_sortOf_94 (by decide) ?_
                refine lv_goto (tgt := 145) hx hb dX12_sortOf_96 (by decide) ?_
                exact W.iret (v := 6) hx hb hr (fun t ht hW => ⟨⟨6, (), rfl, (by exact (rg_t (a := 6) (by decide) (by first | decide | omega) (by first | decide | omega))), by (try dsimp only); rw [ht]; exact ⟨hT, hF⟩⟩, hS.F ht⟩) hS.2.2 dX12_sortOf_145
            · have t89 : r41.toInt ≠ 0 := ti_ne c47 rfl (by decide)
              have t90 : pt.toInt - bg.toInt = ((sLn 18 : Nat) : Int) := hi46 ((bit_of ⟨by omega, by omega⟩).resolve_left c47)
              refine lv_iconst (v := 5) hx hb dX12_sortOf_80 (by decide) ?_
              refine lv_goto (tgt := 145) hx hb dX12_sortOf_81 (by decide) ?_
              exact W.iret (v := 5) hx hb hr (fun t ht hW => ⟨⟨5, (), rfl, (by exact (rg_t (a := 5) (by decide) (by first | decide | omega) (by first | decide | omega))), by (try dsimp only); rw [ht]; exact ⟨hT, hF⟩⟩, hS.F ht⟩) hS.2.2 dX12_sortOf_145
          · have t91 : r33.toInt ≠ 0 := ti_ne c39 rfl (by decide)
            have t92 : pt.toInt - bg.toInt = ((sLn 17 : Nat) : Int) := hi38 ((bit_of ⟨by omega, by omega⟩).resolve_left c39)
            refine lv_iconst (v := 4) hx hb dX12_sortOf_66 (by decide) ?_
            refine lv_goto (tgt := 145) hx hb dX12_sortOf_67 (by decide) ?_
            exact W.iret (v := 4) hx hb hr (fun t ht hW => ⟨⟨4, (), rfl, (by exact (rg_t (a := 4) (by decide) (by first | decide | omega) (by first | decide | omega))), by (try dsimp only); rw [ht]; exact ⟨hT, hF⟩⟩, hS.F ht⟩) hS.2.2 dX12_sortOf_145
        · have t93 : r25.toInt ≠ 0 := ti_ne c31 rfl (by decide)
          have t94 : pt.toInt - bg.toInt = ((sLn 16 : Nat) : Int) := hi30 ((bit_of ⟨by omega, by omega⟩).resolve_left c31)
          refine lv_iconst (v := 3) hx hb dX12_sortOf_52 (by decide) ?_
          refine lv_goto (tgt := 145) hx hb dX12_sortOf_53 (by decide) ?_
          exact W.iret (v := 3) hx hb hr (fun t ht hW => ⟨⟨3, (), rfl, (by exact (rg_t (a := 3) (by decide) (by first | decide | omega) (by first | decide | omega))), by (try dsimp only); rw [ht]; exact ⟨hT, hF⟩⟩, hS.F ht⟩) hS.2.2 dX12_sortOf_145
      · have t95 : r17.toInt ≠ 0 := ti_ne c23 rfl (by decide)
        have t96 : pt.toInt - bg.toInt = ((sLn 15 : Nat) : Int) := hi22 ((bit_of ⟨by omega, by omega⟩).resolve_left c23)
        refine lv_iconst (v := 2) hx hb dX12_sortOf_38 (by decide) ?_
        refine lv_goto (tgt := 145) hx hb dX12_sortOf_39 (by decide) ?_
        exact W.iret (v := 2) hx hb hr (fun t ht hW => ⟨⟨2, (), rfl, (by exact (rg_t (a := 2) (by decide) (by first | decide | omega) (by first | decide | omega))), by (try dsimp only); rw [ht]; exact ⟨hT, hF⟩⟩, hS.F ht⟩) hS.2.2 dX12_sortOf_145
    · have t97 : r9.toInt ≠ 0 := ti_ne c15 rfl (by decide)
      have t98 : pt.toInt - bg.toInt = ((sLn 1 : Nat) : Int) := hi14 ((bit_of ⟨by omega, by omega⟩).resolve_left c15)
      refine lv_iconst (v := 1) hx hb dX12_sortOf_24 (by decide) ?_
      refine lv_goto (tgt := 145) hx hb dX12_sortOf_25 (by decide) ?_
      exact W.iret (v := 1) hx hb hr (fun t ht hW => ⟨⟨1, (), rfl, (by exact (rg_t (a := 1) (by decide) (by first | decide | omega) (by first | decide | omega))), by (try dsimp only); rw [ht]; exact ⟨hT, hF⟩⟩, hS.F ht⟩) hS.2.2 dX12_sortOf_145
  · have t99 : r1.toInt ≠ 0 := ti_ne c7 rfl (by decide)
    have t100 : pt.toInt - bg.toInt = ((sLn 14 : Nat) : Int) := hi6 ((bit_of ⟨by omega, by omega⟩).resolve_left c7)
    refine lv_iconst (v := 0) hx hb dX12_sortOf_10 (by decide) ?_
    refine lv_goto (tgt := 145) hx hb dX12_sortOf_11 (by decide) ?_
    exact W.iret (v := 0) hx hb hr (fun t ht hW => ⟨⟨0, (), rfl, (by exact (rg_t (a := 0) (by decide) (by first | decide | omega) (by first | decide | omega))), by (try dsimp only); rw [ht]; exact ⟨hT, hF⟩⟩, hS.F ht⟩) hS.2.2 dX12_sortOf_145
def w_s_readLevel : List Cond := .code yX12_readLevel cX12_readLevel 2 (some .boolean) :: (HAppend.hAppend (α := List Cond) (β := List Cond) (γ := List Cond) [.fieldLink RX12 48 "SeaLandModel" "told" "[I", .code yX12_number cX12_number 3 (some .int), .code yX12_blanks cX12_blanks 1 none, .code yX12_isAt cX12_isAt 3 (some .boolean), .fieldLink RX12 335 "SeaLandModel" "point" "I", .fieldLink RX12 338 "SeaLandModel" "end" "I", .fieldLink RX12 31 "SeaLandModel" "tape" "[B", .methodLink RX12 341 yX12_isAt, .instanceMethod yX12_isAt, .selects RX12 yX12_isAt yX12_isAt, .initialized RX12, .fieldLink RX12 345 "SeaLandModel" "begin" "I", .methodLink RX12 348 yX12_blanks, .instanceMethod yX12_blanks, .selects RX12 yX12_blanks yX12_blanks, .methodLink RX12 391 yX12_number, .instanceMethod yX12_number, .selects RX12 yX12_number yX12_number, .fieldLink RX12 51 "SeaLandModel" "winter" "[I", .code yX12_word cX12_word 1 none, .methodLink RX12 360 yX12_word, .instanceMethod yX12_word, .selects RX12 yX12_word yX12_word, .code yX12_isWord cX12_isWord 4 (some .boolean), .code yJ0_length_8abf5 cJ0_length_8abf5 1 (some .int), .fieldLink RJ0 9 "java/lang/String" "value" "[B", .code yJ0_coder_7d493 cJ0_coder_7d493 1 (some .byte), .fieldLink RJ0 38 "java/lang/String" "COMPACT_STRINGS" "Z", .fieldLink RJ0 15 "java/lang/String" "coder" "B", .methodLink RJ0 335 yJ0_coder_7d493, .instanceMethod yJ0_coder_7d493, .selects RJ0 yJ0_coder_7d493 yJ0_coder_7d493, .initialized RJ0, .methodLink RX12 351 yJ0_length_8abf5, .instanceMethod yJ0_length_8abf5, .selects RJ0 yJ0_length_8abf5 yJ0_length_8abf5, .code yJ0_charAt_5068e cJ0_charAt_5068e 2 (some .char), .code yJ0_isLatin1_aae02 cJ0_isLatin1_aae02 1 (some .boolean), .methodLink RJ0 492 yJ0_isLatin1_aae02, .instanceMethod yJ0_isLatin1_aae02, .selects RJ0 yJ0_isLatin1_aae02 yJ0_isLatin1_aae02, .code yJ1_charAt_3b067 cJ1_charAt_3b067 2 (some .char), .code yJ0_checkIndex_df160 cJ0_checkIndex_df160 2 none, .fieldLink RJ0 1053 "jdk/internal/util/Preconditions" "SIOOBE_FORMATTER" "Ljava/util/function/BiFunction;", .code yJ3_checkIndex_8e157 cJ3_checkIndex_8e157 3 (some .int), .methodLink RJ0 1059 yJ3_checkIndex_8e157, .static yJ3_checkIndex_8e157, .initialized RJ3, .methodLink RJ1 9 yJ0_checkIndex_df160, .static yJ0_checkIndex_df160, .methodLink RJ0 495 yJ1_charAt_3b067, .static yJ1_charAt_3b067, .initialized RJ1, .methodLink RX12 356 yJ0_charAt_5068e, .instanceMethod yJ0_charAt_5068e, .selects RJ0 yJ0_charAt_5068e yJ0_charAt_5068e, .methodLink RX12 363 yX12_isWord, .instanceMethod yX12_isWord, .selects RX12 yX12_isWord yX12_isWord, .fieldLink RX12 54 "SeaLandModel" "from" "[I", .fieldLink RX12 57 "SeaLandModel" "to" "[I"] bs)
set_option maxHeartbeats 4000000 in
set_option maxRecDepth 100000 in
theorem s_readLevel (l : Launch) (dC : Nat → ClassId) (dI : Nat → Nat → Nat) (kA : Nat → ClassId) (adK adV : Nat → Nat) (G : gT) (H0 : Heap) (q : Nat → Nat) (wZ wN : Nat → Int) (wH wB wC : Int) (wL wK : Nat → Prop) (wU wV : Nat → Nat) (PI : Nat → Int → Prop) (im : Int) (PM PT : Nat → Int → Prop) (lS lB lE : Nat → Nat → Int → Prop) (lN : Nat → Int) (o0 : Nat) (kk : Int32) (pt : Int32) (en : Int32)  (hT : gH (dC, dI) kA (SHm q (wP wZ wN wH wB wC wL wK wU wV) PI im PM PT lS lB lE lN) G H0) (hr_o0 : G o0 = some 0) (hm_pt : el H0 o0 (dI 15 12) = some (.int pt)) (hm_en : el H0 o0 (dI 15 13) = some (.int en)) (hq0 : 0 ≤ pt.toInt ∧ pt.toInt ≤ 400) (hq1 : 0 ≤ en.toInt ∧ en.toInt ≤ 400) (hpe : pt.toInt ≤ en.toInt) (hq3 : 40 ≤ kk.toInt ∧ kk.toInt ≤ 59) (hgz : ∀ i, 0 ≤ wZ i) (hgn : ∀ i, 6500000 ≤ wN i ∧ wN i ≤ 20200000) (hgh : 0 ≤ wH ∧ wH ≤ 40000) (hgb : 0 ≤ wB ∧ wB ≤ 3850000) (hgc : 0 ≤ wC ∧ wC ≤ 30) (hgi : 0 ≤ im ∧ im ≤ 1) (hgu : ∀ a t, G a = some (t + 1) → a = q t) : Met l yX12_readLevel w_s_readLevel ({ frames := 5, cells := 0, slots := 0, locals := 108 }) (va_Pc [.ref o0, .int kk] (fun U => U.heap = H0 ∧ va_K (dC, dI) vwCl (tyl kA) U ∧ EVS adK adV (gA G H0.size) U U.heap)) (va_Qi (fun (r : Int32) (u : Int32 × Int32) => match u with | (p1, b1) => (0 ≤ p1.toInt ∧ p1.toInt ≤ 400) ∧ (0 ≤ b1.toInt ∧ b1.toInt ≤ 400) ∧ (0 ≤ r.toInt ∧ r.toInt ≤ 1) ∧ (pt.toInt ≤ p1.toInt ∧ p1.toInt ≤ en.toInt)) (fun (u : Int32 × Int32) (t : State) => match u with | (p1, b1) => gH (dC, dI) kA (SHm q (wP wZ wN wH wB wC wL wK wU wV) PI im PM PT lS lB lE lN) G t.heap ∧ gF (dC, dI) SKm G ([(0, 12), (0, 14), (21, 0), (22, 0), (23, 0), (24, 0)] : List (Nat × Nat)) H0 t.heap ∧ el t.heap o0 (dI 15 12) = some (.int p1) ∧ el t.heap o0 (dI 15 14) = some (.int b1)) (gA G H0.size)) 0 0 (gA G H0.size) := by
  refine Met.ofW (cc := cX12_readLevel) (maxL := 2) (ret := (some .boolean)) (by decide) rfl ?_
  intro p e s m args below meth c s₁ B hml hv
  obtain ⟨rfl, hH0, hK, hE⟩ := hv
  have hx := B.exec
  have hb := B.bytes
  have hr := B.returns
  have hts := atoms_spec (ws := w_s_readLevel) B.pre
  have hown : s.vm.findClass RX12 = some m.cls := findClass_of_methodNamed B.named
  have hlocks := B.notSynchronized
  subst hH0
  generalize hAe : gA G s.heap.size = A at hE ⊢
  have hA : ∀ q : Nat, s.heap.size ≤ q → A q := fun q h => by rw [← hAe]; exact Or.inr h
  have hG := gA_of hAe
  have hS : va_S A s.heap s.heap [] := va_S.rf
  have hF : gF (dC, dI) SKm G ([(0, 12), (0, 14), (21, 0), (22, 0), (23, 0), (24, 0)] : List (Nat × Nat)) s.heap s.heap := gF.rf
  have hl := lv_entry ([.ref o0, .int kk]) (n := 2) (Nat.le_of_ble_eq_true rfl)
  rw [lg_entry_eq]
  generalize (lg_sl ([.ref o0, .int kk]) ++ List.replicate (2 - (lg_sl ([.ref o0, .int kk])).length) Slot.unset).toArray = ls at hl ⊢
  have hl : lv_has ls 2 [(0, .ref o0), (1, .int kk)] := hl
  refine lv_aload_n hx hb dX12_readLevel_0 rfl (lv_at hl 0 rfl) ?_
  refine tw_get hx hb hts bF_X12 hown hK hT hr_o0 shm_0 rfl 20 (by decide) (ht_at hts 0 rfl) (fun _ h9 => h9) dX12_readLevel_1 (fun v9 m1 h9 => ?_)
  obtain ⟨rfl, hg2⟩ := h9 _ rfl
  refine lv_iload_n hx hb dX12_readLevel_4 rfl (lv_at hl 1 rfl) ?_
  refine lv_aload_n hx hb dX12_readLevel_5 rfl (lv_at hl 0 rfl) ?_
  refine lv_sipush (v := 900) hx hb dX12_readLevel_6 (by decide) ?_
  have hFc := gA_free hG hA hS
  refine va_calli (va_runV (As := [.int 900]) (rest := [.int kk, .ref (q 20)]) ⟨hx, hb, hml, hown, hts⟩ (s_number l dC dI kA adK adV G s.heap q wZ wN wH wB wC wL wK wU wV PI im PM PT lS lB lE lN o0 900 pt en hT hr_o0 hm_pt hm_en (by have q8 := ti_all pt; omega) (by have q8 := ti_all en; omega) (by have := (show pt.toInt = pt.toInt from rfl); have := (show en.toInt = en.toInt from rfl); omega) hgz hgn hgh hgb hgc hgi hgu) (cwV 1 hts (goodIn_app (goodIn_r _ [16, 17, 18, 11] rfl (by decide +kernel)) (goodIn_ca (goodIn_r _ [2, 3, 4, 5, 6, 7, 8, 9, 10, 11, 12, 13, 14, 15] rfl (by decide +kernel)) (bs_in _ _))) rfl rfl rfl (by decide +kernel) ⟨(Nat.le_of_ble_eq_true rfl), (Nat.le_of_ble_eq_true rfl)⟩) ⟨fun a U g mk q => by obtain ⟨q0, q1, qK, qE⟩ := q; exact ⟨q0, q1, va_K.moved (u := U) (U := U.calling g mk a) (Vm.Alike.refl U.vm) qK, EVS.blind g mk a qE⟩, gH_rc hK hT hr_o0 shm_0 rfl, fun U hU hW => ⟨rfl, hU, va_K.moved hW.alike hK, hE.call hS hFc hU hW⟩⟩ rfl rfl hl.1 rfl (lv_room (Nat.le_of_ble_eq_true rfl)) dX12_readLevel_9 ⟨(Nat.le_of_ble_eq_true rfl), (Nat.le_of_ble_eq_true rfl)⟩) hS (fun q _ h => hFc q h) hFc (fun r3 u t H locs ht hvm hw4 hB _ _ hS => ?_)
  obtain ⟨u5, u6⟩ := u
  obtain ⟨hT, hF1, m7, m8⟩ := hB
  rw [ht] at hT hF1 m7 m8
  have m10 := (hF1.fld hr_o0 skm_0 (k := 13) (by decide) (by decide)).trans hm_en
  have hF := hF.more hF1 (by decide)
  try dsimp only at hw4
  obtain ⟨h11, h12, hf13⟩ := hw4
  refine tw_iast (i := kk) (x := r3) hx hb hK hT hG hS hg2 shm_21 rfl (vin_t (a := kk.toInt) rfl (by omega) (by omega)) (gi_all _) dX12_readLevel_12 (fun H locs hT oq m14 oi hS => ?_)
  have hF := hF.ast hg2 skm_21 oq (by decide)
  have m15 := (el_kept (oq _ (gne hr_o0 hg2 (by decide)))).trans m10
  have m16 := (el_kept (oq _ (gne hr_o0 hg2 (by decide)))).trans m7
  have m17 := (el_kept (oq _ (gne hr_o0 hg2 (by decide)))).trans m8
  refine lv_aload_n hx hb dX12_readLevel_13 rfl (lv_at hl 0 rfl) ?_
  refine tw_get hx hb hts bF_X12 hown hK hT hr_o0 shm_0 rfl 20 (by decide) (ht_at hts 0 rfl) (fun _ h9 => h9) dX12_readLevel_14 (fun v9 m18 h9 => ?_)
  obtain ⟨rfl, hg19⟩ := h9 _ rfl
  refine lv_iload_n hx hb dX12_readLevel_17 rfl (lv_at hl 1 rfl) ?_
  refine tw_iald (i := kk) hx hb hK hT hg2 shm_21 rfl (vin_t (a := kk.toInt) rfl (by omega) (by omega)) dX12_readLevel_18 (fun v9 m20 h9 => ?_)
  obtain ⟨x21, rfl, gx21, kx21⟩ := h9
  obtain rfl : r3 = x21 := (el_same m20 m14 rfl).symm
  refine lv_if_ge (tgt := 24) hx hb dX12_readLevel_19 (by decide) (fun c22 => ?_) (fun c22 => ?_)
  · have t23 : 0 ≤ r3.toInt := ti_le c22 (by decide) rfl
    refine lv_aload_n hx hb dX12_readLevel_24 rfl (lv_at hl 0 rfl) ?_
    refine tw_get hx hb hts bF_X12 hown hK hT hr_o0 shm_0 rfl 21 (by decide) (ht_at hts 18 rfl) (fun _ h9 => h9) dX12_readLevel_25 (fun v9 m24 h9 => ?_)
    obtain ⟨rfl, hg25⟩ := h9 _ rfl
    refine lv_iload_n hx hb dX12_readLevel_28 rfl (lv_at hl 1 rfl) ?_
    refine lv_aload_n hx hb dX12_readLevel_29 rfl (lv_at hl 0 rfl) ?_
    refine lv_sipush (v := 900) hx hb dX12_readLevel_30 (by decide) ?_
    have hFc := gA_free hG hA hS
    refine va_calli (va_runV (As := [.int 900]) (rest := [.int kk, .ref (q 21)]) ⟨hx, hb, hml, hown, hts⟩ (s_number l dC dI kA adK adV G H q wZ wN wH wB wC wL wK wU wV PI im PM PT lS lB lE lN o0 900 u5 en hT hr_o0 m16 m15 (by have q8 := ti_all u5; omega) (by have q8 := ti_all en; omega) (by have := (show u5.toInt = u5.toInt from rfl); have := (show en.toInt = en.toInt from rfl); omega) hgz hgn hgh hgb hgc hgi hgu) (cwV 1 hts (goodIn_app (goodIn_r _ [16, 17, 18, 11] rfl (by decide +kernel)) (goodIn_ca (goodIn_r _ [2, 3, 4, 5, 6, 7, 8, 9, 10, 11, 12, 13, 14, 15] rfl (by decide +kernel)) (bs_in _ _))) rfl rfl rfl (by decide +kernel) ⟨(Nat.le_of_ble_eq_true rfl), (Nat.le_of_ble_eq_true rfl)⟩) ⟨fun a U g mk q => by obtain ⟨q0, q1, qK, qE⟩ := q; exact ⟨q0, q1, va_K.moved (u := U) (U := U.calling g mk a) (Vm.Alike.refl U.vm) qK, EVS.blind g mk a qE⟩, gH_rc hK hT hr_o0 shm_0 rfl, fun U hU hW => ⟨rfl, hU, va_K.moved hW.alike hK, hE.call hS hFc hU hW⟩⟩ rfl rfl hl.1 rfl (lv_room (Nat.le_of_ble_eq_true rfl)) dX12_readLevel_33 ⟨(Nat.le_of_ble_eq_true rfl), (Nat.le_of_ble_eq_true rfl)⟩) hS (fun q _ h => hFc q h) hFc (fun r26 u t H locs ht hvm hw27 hB _ _ hS => ?_)
    obtain ⟨u28, u29⟩ := u
    obtain ⟨hT, hF1, m30, m31⟩ := hB
    rw [ht] at hT hF1 m30 m31
    have m32 := (hF1.fld hr_o0 skm_0 (k := 13) (by decide) (by decide)).trans m15
    have hF := hF.more hF1 (by decide)
    try dsimp only at hw27
    obtain ⟨h36, h37, hf38⟩ := hw27
    refine tw_iast (i := kk) (x := r26) hx hb hK hT hG hS hg25 shm_22 rfl (vin_t (a := kk.toInt) rfl (by omega) (by omega)) (gi_all _) dX12_readLevel_36 (fun H locs hT oq m39 oi hS => ?_)
    have hF := hF.ast hg25 skm_22 oq (by decide)
    have m40 := (el_kept (oq _ (gne hr_o0 hg25 (by decide)))).trans m32
    have m42 := (el_kept (oq _ (gne hr_o0 hg25 (by decide)))).trans m30
    have m43 := (el_kept (oq _ (gne hr_o0 hg25 (by decide)))).trans m31
    refine lv_aload_n hx hb dX12_readLevel_37 rfl (lv_at hl 0 rfl) ?_
    refine tw_get hx hb hts bF_X12 hown hK hT hr_o0 shm_0 rfl 21 (by decide) (ht_at hts 18 rfl) (fun _ h9 => h9) dX12_readLevel_38 (fun v9 m44 h9 => ?_)
    obtain ⟨rfl, hg45⟩ := h9 _ rfl
    refine lv_iload_n hx hb dX12_readLevel_41 rfl (lv_at hl 1 rfl) ?_
    refine tw_iald (i := kk) hx hb hK hT hg25 shm_22 rfl (vin_t (a := kk.toInt) rfl (by omega) (by omega)) dX12_readLevel_42 (fun v9 m46 h9 => ?_)
    obtain ⟨x47, rfl, gx47, kx47⟩ := h9
    obtain rfl : r26 = x47 := (el_same m46 m39 rfl).symm
    refine lv_if_ge (tgt := 48) hx hb dX12_readLevel_43 (by decide) (fun c48 => ?_) (fun c48 => ?_)
    · have t49 : 0 ≤ r26.toInt := ti_le c48 (by decide) rfl
      refine lv_aload_n hx hb dX12_readLevel_48 rfl (lv_at hl 0 rfl) ?_
      have hFc := gA_free hG hA hS
      refine va_callv (va_runV (As := []) (rest := []) ⟨hx, hb, hml, hown, hts⟩ (s_word l dC dI kA adK adV G H q wZ wN wH wB wC wL wK wU wV PI im PM PT lS lB lE lN o0 u28 en hT hr_o0 m42 m40 (by have q8 := ti_all u28; omega) (by have q8 := ti_all en; omega) (by have := (show u28.toInt = u28.toInt from rfl); have := (show en.toInt = en.toInt from rfl); omega) hgz hgn hgh hgb hgc hgi hgu) (cwV 0 hts (goodIn_app (goodIn_r _ [21, 22, 23, 11] rfl (by decide +kernel)) (goodIn_ca (goodIn_r _ [20, 3, 4, 5, 6, 7, 8, 9, 10, 11, 12, 13, 14, 15] rfl (by decide +kernel)) (bs_in _ _))) rfl rfl rfl (by decide +kernel) ⟨(Nat.le_of_ble_eq_true rfl), (Nat.le_of_ble_eq_true rfl)⟩) ⟨fun a U g mk q => by obtain ⟨q0, q1, qK, qE⟩ := q; exact ⟨q0, q1, va_K.moved (u := U) (U := U.calling g mk a) (Vm.Alike.refl U.vm) qK, EVS.blind g mk a qE⟩, gH_rc hK hT hr_o0 shm_0 rfl, fun U hU hW => ⟨rfl, hU, va_K.moved hW.alike hK, hE.call hS hFc hU hW⟩⟩ rfl rfl hl.1 rfl (lv_room (Nat.le_of_ble_eq_true rfl)) dX12_readLevel_49 ⟨(Nat.le_of_ble_eq_true rfl), (Nat.le_of_ble_eq_true rfl)⟩) hS (fun q _ h => hFc q h) hFc (fun u t H locs ht hvm hw51 hB _ _ hS => ?_)
      obtain ⟨u52, u53⟩ := u
      obtain ⟨hT, hF1, m54, m55⟩ := hB
      rw [ht] at hT hF1 m54 m55
      have m56 := (hF1.fld hr_o0 skm_0 (k := 13) (by decide) (by decide)).trans m40
      have hF := hF.more hF1 (by decide)
      try dsimp only at hw51
      obtain ⟨h61, h62, hf63⟩ := hw51
      refine lv_aload_n hx hb dX12_readLevel_52 rfl (lv_at hl 0 rfl) ?_
      refine tw_ldcwS hx hb hown hE.s13 dX12_readLevel_53 ?_
      have hFc := gA_free hG hA hS
      refine va_calli (va_runV (As := [.ref (adK 13)]) (rest := []) ⟨hx, hb, hml, hown, hts⟩ (s_isWord l dC dI kA adK adV G H q wZ wN wH wB wC wL wK wU wV PI im PM PT lS lB lE lN o0 u52 u53 13 hT hr_o0 m54 m55 (by have q8 := ti_all u52; omega) (by have q8 := ti_all u53; omega) (by have := (show u52.toInt = u52.toInt from rfl); have := (show u53.toInt = u53.toInt from rfl); omega) (by first | omega | decide) hgz hgn hgh hgb hgc hgi hgu) (cwV 1 hts (goodIn_app (goodIn_r _ [57, 58, 59, 11] rfl (by decide +kernel)) (goodIn_ca (goodIn_r _ [24, 5, 12, 25, 26, 27, 28, 29, 30, 31, 32, 33, 34, 35, 36, 7, 37, 38, 39, 40, 41, 42, 43, 44, 45, 46, 47, 48, 49, 50, 51, 52, 53, 54, 55, 56] rfl (by decide +kernel)) (bs_in _ _))) rfl rfl rfl (by decide +kernel) ⟨(Nat.le_of_ble_eq_true rfl), (Nat.le_of_ble_eq_true rfl)⟩) ⟨fun a U g mk q => by obtain ⟨q0, q1, qK, qE⟩ := q; exact ⟨q0, q1, va_K.moved (u := U) (U := U.calling g mk a) (Vm.Alike.refl U.vm) qK, EVS.blind g mk a qE⟩, gH_rc hK hT hr_o0 shm_0 rfl, fun U hU hW => ⟨rfl, hU, va_K.moved hW.alike hK, hE.call hS hFc hU hW⟩⟩ rfl rfl hl.1 rfl (lv_room (Nat.le_of_ble_eq_true rfl)) dX12_readLevel_56 ⟨(Nat.le_of_ble_eq_true rfl), (Nat.le_of_ble_eq_true rfl)⟩) hS (fun q _ h => hFc q h) hFc (fun r64 u t H locs ht hvm hw65 hB _ _ hS => ?_)
      obtain ⟨hT, hF1⟩ := hB
      rw [ht] at hT hF1
      have m66 := (hF1.fld hr_o0 skm_0 (k := 13) (by decide) (by decide)).trans m56
      have m69 := (hF1.fld hr_o0 skm_0 (k := 12) (by decide) (by decide)).trans m54
      have m70 := (hF1.fld hr_o0 skm_0 (k := 14) (by decide) (by decide)).trans m55
      have hF := hF.more hF1 (by decide)
      try dsimp only at hw65
      obtain ⟨h71, hi72⟩ := hw65
      refine lv_if_ne (tgt := 64) hx hb dX12_readLevel_59 (by decide) (fun c73 => ?_) (fun c73 => ?_)
      · have t74 : r64.toInt ≠ 0 := ti_ne c73 rfl (by decide)
        have t75 : u52.toInt - u53.toInt = ((sLn 13 : Nat) : Int) := hi72 ((bit_of ⟨by omega, by omega⟩).resolve_left c73)
        refine lv_aload_n hx hb dX12_readLevel_64 rfl (lv_at hl 0 rfl) ?_
        refine tw_get hx hb hts bF_X12 hown hK hT hr_o0 shm_0 rfl 22 (by decide) (ht_at hts 59 rfl) (fun _ h9 => h9) dX12_readLevel_65 (fun v9 m76 h9 => ?_)
        obtain ⟨rfl, hg77⟩ := h9 _ rfl
        refine lv_iload_n hx hb dX12_readLevel_68 rfl (lv_at hl 1 rfl) ?_
        refine lv_aload_n hx hb dX12_readLevel_69 rfl (lv_at hl 0 rfl) ?_
        refine lv_bipush (v := 95) hx hb dX12_readLevel_70 (by decide) ?_
        have hFc := gA_free hG hA hS
        refine va_calli (va_runV (As := [.int 95]) (rest := [.int kk, .ref (q 22)]) ⟨hx, hb, hml, hown, hts⟩ (s_number l dC dI kA adK adV G H q wZ wN wH wB wC wL wK wU wV PI im PM PT lS lB lE lN o0 95 u52 en hT hr_o0 m69 m66 (by have q8 := ti_all u52; omega) (by have q8 := ti_all en; omega) (by have := (show u52.toInt = u52.toInt from rfl); have := (show en.toInt = en.toInt from rfl); omega) hgz hgn hgh hgb hgc hgi hgu) (cwV 1 hts (goodIn_app (goodIn_r _ [16, 17, 18, 11] rfl (by decide +kernel)) (goodIn_ca (goodIn_r _ [2, 3, 4, 5, 6, 7, 8, 9, 10, 11, 12, 13, 14, 15] rfl (by decide +kernel)) (bs_in _ _))) rfl rfl rfl (by decide +kernel) ⟨(Nat.le_of_ble_eq_true rfl), (Nat.le_of_ble_eq_true rfl)⟩) ⟨fun a U g mk q => by obtain ⟨q0, q1, qK, qE⟩ := q; exact ⟨q0, q1, va_K.moved (u := U) (U := U.calling g mk a) (Vm.Alike.refl U.vm) qK, EVS.blind g mk a qE⟩, gH_rc hK hT hr_o0 shm_0 rfl, fun U hU hW => ⟨rfl, hU, va_K.moved hW.alike hK, hE.call hS hFc hU hW⟩⟩ rfl rfl hl.1 rfl (lv_room (Nat.le_of_ble_eq_true rfl)) dX12_readLevel_72 ⟨(Nat.le_of_ble_eq_true rfl), (Nat.le_of_ble_eq_true rfl)⟩) hS (fun q _ h => hFc q h) hFc (fun r78 u t H locs ht hvm hw79 hB _ _ hS => ?_)
        obtain ⟨u80, u81⟩ := u
        obtain ⟨hT, hF1, m82, m83⟩ := hB
        rw [ht] at hT hF1 m82 m83
        have m84 := (hF1.fld hr_o0 skm_0 (k := 13) (by decide) (by decide)).trans m66
        have hF := hF.more hF1 (by decide)
        try dsimp only at hw79
        obtain ⟨h89, h90, hf91⟩ := hw79
        refine tw_iast (i := kk) (x := r78) hx hb hK hT hG hS hg77 shm_23 rfl (vin_t (a := kk.toInt) rfl (by omega) (by omega)) (gi_all _) dX12_readLevel_75 (fun H locs hT oq m92 oi hS => ?_)
        have hF := hF.ast hg77 skm_23 oq (by decide)
        have m93 := (el_kept (oq _ (gne hr_o0 hg77 (by decide)))).trans m84
        have m96 := (el_kept (oq _ (gne hr_o0 hg77 (by decide)))).trans m82
        have m97 := (el_kept (oq _ (gne hr_o0 hg77 (by decide)))).trans m83
        refine lv_aload_n hx hb dX12_readLevel_76 rfl (lv_at hl 0 rfl) ?_
        refine tw_get hx hb hts bF_X12 hown hK hT hr_o0 shm_0 rfl 22 (by decide) (ht_at hts 59 rfl) (fun _ h9 => h9) dX12_readLevel_77 (fun v9 m98 h9 => ?_)
        obtain ⟨rfl, hg99⟩ := h9 _ rfl
        refine lv_iload_n hx hb dX12_readLevel_80 rfl (lv_at hl 1 rfl) ?_
        refine tw_iald (i := kk) hx hb hK hT hg77 shm_23 rfl (vin_t (a := kk.toInt) rfl (by omega) (by omega)) dX12_readLevel_81 (fun v9 m100 h9 => ?_)
        obtain ⟨x101, rfl, gx101, kx101⟩ := h9
        obtain rfl : r78 = x101 := (el_same m100 m92 rfl).symm
        refine lv_if_ge (tgt := 87) hx hb dX12_readLevel_82 (by decide) (fun c102 => ?_) (fun c102 => ?_)
        · have t103 : 0 ≤ r78.toInt := ti_le c102 (by decide) rfl
          refine lv_aload_n hx hb dX12_readLevel_87 rfl (lv_at hl 0 rfl) ?_
          refine tw_get hx hb hts bF_X12 hown hK hT hr_o0 shm_0 rfl 23 (by decide) (ht_at hts 60 rfl) (fun _ h9 => h9) dX12_readLevel_88 (fun v9 m104 h9 => ?_)
          obtain ⟨rfl, hg105⟩ := h9 _ rfl
          refine lv_iload_n hx hb dX12_readLevel_91 rfl (lv_at hl 1 rfl) ?_
          refine lv_aload_n hx hb dX12_readLevel_92 rfl (lv_at hl 0 rfl) ?_
          refine lv_bipush (v := 95) hx hb dX12_readLevel_93 (by decide) ?_
          have hFc := gA_free hG hA hS
          refine va_calli (va_runV (As := [.int 95]) (rest := [.int kk, .ref (q 23)]) ⟨hx, hb, hml, hown, hts⟩ (s_number l dC dI kA adK adV G H q wZ wN wH wB wC wL wK wU wV PI im PM PT lS lB lE lN o0 95 u80 en hT hr_o0 m96 m93 (by have q8 := ti_all u80; omega) (by have q8 := ti_all en; omega) (by have := (show u80.toInt = u80.toInt from rfl); have := (show en.toInt = en.toInt from rfl); omega) hgz hgn hgh hgb hgc hgi hgu) (cwV 1 hts (goodIn_app (goodIn_r _ [16, 17, 18, 11] rfl (by decide +kernel)) (goodIn_ca (goodIn_r _ [2, 3, 4, 5, 6, 7, 8, 9, 10, 11, 12, 13, 14, 15] rfl (by decide +kernel)) (bs_in _ _))) rfl rfl rfl (by decide +kernel) ⟨(Nat.le_of_ble_eq_true rfl), (Nat.le_of_ble_eq_true rfl)⟩) ⟨fun a U g mk q => by obtain ⟨q0, q1, qK, qE⟩ := q; exact ⟨q0, q1, va_K.moved (u := U) (U := U.calling g mk a) (Vm.Alike.refl U.vm) qK, EVS.blind g mk a qE⟩, gH_rc hK hT hr_o0 shm_0 rfl, fun U hU hW => ⟨rfl, hU, va_K.moved hW.alike hK, hE.call hS hFc hU hW⟩⟩ rfl rfl hl.1 rfl (lv_room (Nat.le_of_ble_eq_true rfl)) dX12_readLevel_95 ⟨(Nat.le_of_ble_eq_true rfl), (Nat.le_of_ble_eq_true rfl)⟩) hS (fun q _ h => hFc q h) hFc (fun r106 u t H locs ht hvm hw107 hB _ _ hS => ?_)
          obtain ⟨u108, u109⟩ := u
          obtain ⟨hT, hF1, m110, m111⟩ := hB
          rw [ht] at hT hF1 m110 m111
          have hF := hF.more hF1 (by decide)
          try dsimp only at hw107
          obtain ⟨h118, h119, hf120⟩ := hw107
          refine tw_iast (i := kk) (x := r106) hx hb hK hT hG hS hg105 shm_24 rfl (vin_t (a := kk.toInt) rfl (by omega) (by omega)) (gi_all _) dX12_readLevel_98 (fun H locs hT oq m121 oi hS => ?_)
          have hF := hF.ast hg105 skm_24 oq (by decide)
          have m126 := (el_kept (oq _ (gne hr_o0 hg105 (by decide)))).trans m110
          have m127 := (el_kept (oq _ (gne hr_o0 hg105 (by decide)))).trans m111
          refine lv_aload_n hx hb dX12_readLevel_99 rfl (lv_at hl 0 rfl) ?_
          refine tw_get hx hb hts bF_X12 hown hK hT hr_o0 shm_0 rfl 23 (by decide) (ht_at hts 60 rfl) (fun _ h9 => h9) dX12_readLevel_100 (fun v9 m128 h9 => ?_)
          obtain ⟨rfl, hg129⟩ := h9 _ rfl
          refine lv_iload_n hx hb dX12_readLevel_103 rfl (lv_at hl 1 rfl) ?_
          refine tw_iald (i := kk) hx hb hK hT hg105 shm_24 rfl (vin_t (a := kk.toInt) rfl (by omega) (by omega)) dX12_readLevel_104 (fun v9 m130 h9 => ?_)
          obtain ⟨x131, rfl, gx131, kx131⟩ := h9
          obtain rfl : r106 = x131 := (el_same m130 m121 rfl).symm
          refine lv_if_lt (tgt := 112) hx hb dX12_readLevel_105 (by decide) (fun c132 => ?_) (fun c132 => ?_)
          · have t133 : r106.toInt < 0 := ti_lt c132 rfl (by decide)
            refine lv_iconst (v := 0) hx hb dX12_readLevel_112 (by decide) ?_
            exact W.zret (v := 0) hx hb hr (by decide) (fun t ht hW => ⟨⟨0, (u108, u109), rfl, (by exact ⟨(by have q8 := ti_all u108; omega), (by have q8 := ti_all u109; omega), (rg_t (a := 0) (by decide) (by first | decide | omega) (by first | decide | omega)), (by omega)⟩), by (try dsimp only); rw [ht]; exact ⟨hT, hF, m126, m127⟩⟩, hS.F ht⟩) hS.2.2 dX12_readLevel_113
          · have t134 : 0 ≤ r106.toInt := ti_nlt c132 rfl (by decide)
            refine lv_iconst (v := 1) hx hb dX12_readLevel_108 (by decide) ?_
            refine lv_goto (tgt := 113) hx hb dX12_readLevel_109 (by decide) ?_
            exact W.zret (v := 1) hx hb hr (by decide) (fun t ht hW => ⟨⟨1, (u108, u109), rfl, (by exact ⟨(by have q8 := ti_all u108; omega), (by have q8 := ti_all u109; omega), (rg_t (a := 1) (by decide) (by first | decide | omega) (by first | decide | omega)), (by omega)⟩), by (try dsimp only); rw [ht]; exact ⟨hT, hF, m126, m127⟩⟩, hS.F ht⟩) hS.2.2 dX12_readLevel_113
        · have t135 : r78.toInt < 0 := ti_nle c102 (by decide) rfl
          refine lv_iconst (v := 0) hx hb dX12_readLevel_85 (by decide) ?_
          exact W.zret (v := 0) hx hb hr (by decide) (fun t ht hW => ⟨⟨0, (u80, u81), rfl, (by exact ⟨(by have q8 := ti_all u80; omega), (by have q8 := ti_all u81; omega), (rg_t (a := 0) (by decide) (by first | decide | omega) (by first | decide | omega)), (by omega)⟩), by (try dsimp only); rw [ht]; exact ⟨hT, hF, m96, m97⟩⟩, hS.F ht⟩) hS.2.2 dX12_readLevel_86
      · have t136 : r64.toInt = 0 := ti_eq c73 rfl (by decide)
        refine lv_iconst (v := 0) hx hb dX12_readLevel_62 (by decide) ?_
        exact W.zret (v := 0) hx hb hr (by decide) (fun t ht hW => ⟨⟨0, (u52, u53), rfl, (by exact ⟨(by have q8 := ti_all u52; omega), (by have q8 := ti_all u53; omega), (rg_t (a := 0) (by decide) (by first | decide | omega) (by first | decide | omega)), (by omega)⟩), by (try dsimp only); rw [ht]; exact ⟨hT, hF, m69, m70⟩⟩, hS.F ht⟩) hS.2.2 dX12_readLevel_63
    · have t137 : r26.toInt < 0 := ti_nle c48 (by decide) rfl
      refine lv_iconst (v := 0) hx hb dX12_readLevel_46 (by decide) ?_
      exact W.zret (v := 0) hx hb hr (by decide) (fun t ht hW => ⟨⟨0, (u28, u29), rfl, (by exact ⟨(by have q8 := ti_all u28; omega), (by have q8 := ti_all u29; omega), (rg_t (a := 0) (by decide) (by first | decide | omega) (by first | decide | omega)), (by omega)⟩), by (try dsimp only); rw [ht]; exact ⟨hT, hF, m42, m43⟩⟩, hS.F ht⟩) hS.2.2 dX12_readLevel_47
  · have t138 : r3.toInt < 0 := ti_nle c22 (by decide) rfl
    refine lv_iconst (v := 0) hx hb dX12_readLevel_22 (by decide) ?_
    exact W.zret (v := 0) hx hb hr (by decide) (fun t ht hW => ⟨⟨0, (u5, u6), rfl, (by exact ⟨(by have q8 := ti_all u5; omega), (by have q8 := ti_all u6; omega), (rg_t (a := 0) (by decide) (by first | decide | omega) (by first | decide | omega)), (by omega)⟩), by (try dsimp only); rw [ht]; exact ⟨hT, hF, m16, m17⟩⟩, hS.F ht⟩) hS.2.2 dX12_readLevel_23
