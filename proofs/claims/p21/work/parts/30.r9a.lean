def w_s_sortOf : List Cond := .code yX12_sortOf cX12_sortOf 1 (some .int) :: (HAppend.hAppend (α := List Cond) (β := List Cond) (γ := List Cond) [.code yX12_isWord cX12_isWord 4 (some .boolean), .fieldLink RX12 335 "SeaLandModel" "point" "I", .fieldLink RX12 345 "SeaLandModel" "begin" "I", .code yJ0_length_8abf5 cJ0_length_8abf5 1 (some .int), .fieldLink RJ0 9 "java/lang/String" "value" "[B", .code yJ0_coder_7d493 cJ0_coder_7d493 1 (some .byte), .fieldLink RJ0 38 "java/lang/String" "COMPACT_STRINGS" "Z", .fieldLink RJ0 15 "java/lang/String" "coder" "B", .methodLink RJ0 335 yJ0_coder_7d493, .instanceMethod yJ0_coder_7d493, .selects RJ0 yJ0_coder_7d493 yJ0_coder_7d493, .initialized RJ0, .methodLink RX12 351 yJ0_length_8abf5, .instanceMethod yJ0_length_8abf5, .selects RJ0 yJ0_length_8abf5 yJ0_length_8abf5, .fieldLink RX12 31 "SeaLandModel" "tape" "[B", .code yJ0_charAt_5068e cJ0_charAt_5068e 2 (some .char), .code yJ0_isLatin1_aae02 cJ0_isLatin1_aae02 1 (some .boolean), .methodLink RJ0 492 yJ0_isLatin1_aae02, .instanceMethod yJ0_isLatin1_aae02, .selects RJ0 yJ0_isLatin1_aae02 yJ0_isLatin1_aae02, .code yJ1_charAt_3b067 cJ1_charAt_3b067 2 (some .char), .code yJ0_checkIndex_df160 cJ0_checkIndex_df160 2 none, .fieldLink RJ0 1053 "jdk/internal/util/Preconditions" "SIOOBE_FORMATTER" "Ljava/util/function/BiFunction;", .code yJ3_checkIndex_8e157 cJ3_checkIndex_8e157 3 (some .int), .methodLink RJ0 1059 yJ3_checkIndex_8e157, .static yJ3_checkIndex_8e157, .initialized RJ3, .methodLink RJ1 9 yJ0_checkIndex_df160, .static yJ0_checkIndex_df160, .methodLink RJ0 495 yJ1_charAt_3b067, .static yJ1_charAt_3b067, .initialized RJ1, .methodLink RX12 356 yJ0_charAt_5068e, .instanceMethod yJ0_charAt_5068e, .selects RJ0 yJ0_charAt_5068e yJ0_charAt_5068e, .methodLink RX12 363 yX12_isWord, .instanceMethod yX12_isWord, .selects RX12 yX12_isWord yX12_isWord, .initialized RX12] bs)
set_option maxHeartbeats 4000000 in
set_option maxRecDepth 100000 in
theorem s_sortOf (l : Launch) (dC : Nat → ClassId) (dI : Nat → Nat → Nat) (kA : Nat → ClassId) (adK adV : Nat → Nat) (G : gT) (H0 : Heap) (q : Nat → Nat) (wZ wN : Nat → Int) (wH wB wC : Int) (wL wK : Nat → Prop) (wU wV : Nat → Nat) (PI : Nat → Int → Prop) (im : Int) (PM PT : Nat → Int → Prop) (lS lB lE : Nat → Nat → Int → Prop) (lN : Nat → Int) (o0 : Nat) (pt : Int32) (bg : Int32) (vt : Nat → Int32)  (hT : gH (dC, dI) kA (SHm q (wP wZ wN wH wB wC wL wK wU wV) PI im PM PT lS lB lE lN) G H0) (hr_o0 : G o0 = some 0) (hm_pt : el H0 o0 (dI 15 12) = some (.int pt)) (hm_bg : el H0 o0 (dI 15 14) = some (.int bg)) (hq0 : 0 ≤ pt.toInt ∧ pt.toInt ≤ 400) (hq1 : 0 ≤ bg.toInt ∧ bg.toInt ≤ 400) (hbp : bg.toInt ≤ pt.toInt) (hc_vt : ct H0 (q 10) 400 vt) (hgz : ∀ i, 0 ≤ wZ i) (hgn : ∀ i, 6500000 ≤ wN i ∧ wN i ≤ 20200000) (hgh : 0 ≤ wH ∧ wH ≤ 40000) (hgb : 0 ≤ wB ∧ wB ≤ 3850000) (hgc : 0 ≤ wC ∧ wC ≤ 30) (hgi : 0 ≤ im ∧ im ≤ 1) (hgu : ∀ a t, G a = some (t + 1) → a = q t) : Met l yX12_sortOf w_s_sortOf ({ frames := 5, cells := 0, slots := 0, locals := 108 }) (va_Pc [.ref o0] (fun U => U.heap = H0 ∧ va_K (dC, dI) vwCl (tyl kA) U ∧ EVS adK adV (gA G H0.size) U U.heap)) (va_Qi (fun (r : Int32) (u : Unit) => (-1 ≤ r.toInt ∧ r.toInt ≤ 9) ∧ (soQ (tx vt) bg.toNatClampNeg pt.toNatClampNeg r.toInt)) (fun (_ : Unit) (t : State) => gH (dC, dI) kA (SHm q (wP wZ wN wH wB wC wL wK wU wV) PI im PM PT lS lB lE lN) G t.heap ∧ gF (dC, dI) SKm G ([] : List (Nat × Nat)) H0 t.heap) (gA G H0.size)) 0 0 (gA G H0.size) := by
  refine Met.ofW (cc := cX12_sortOf) (maxL := 1) (ret := (some .int)) (by decide) rfl ?_
  intro p e s m args below meth c s₁ B hml hv
  obtain ⟨rfl, hH0, hK, hE⟩ := hv
  have hx := B.exec
  have hb := B.bytes
  have hr := B.returns
  have hts := atoms_spec (ws := w_s_sortOf) B.pre
  have hown : s.vm.findClass RX12 = some m.cls := findClass_of_methodNamed B.named
  have hlocks := B.notSynchronized
  subst hH0
  generalize hAe : gA G s.heap.size = A at hE ⊢
  have hA : ∀ q : Nat, s.heap.size ≤ q → A q := fun q h => by rw [← hAe]; exact Or.inr h
  have hG := gA_of hAe
  have hS : va_S A s.heap s.heap [] := va_S.rf
  have hF : gF (dC, dI) SKm G ([] : List (Nat × Nat)) s.heap s.heap := gF.rf
  have hl := lv_entry ([.ref o0]) (n := 1) (Nat.le_of_ble_eq_true rfl)
  rw [lg_entry_eq]
  generalize (lg_sl ([.ref o0]) ++ List.replicate (1 - (lg_sl ([.ref o0])).length) Slot.unset).toArray = ls at hl ⊢
  have hl : lv_has ls 1 [(0, .ref o0)] := hl
  have hg1 : G (q 10) = some 11 := gx_of hT hr_o0 shm_0 (k := 10) (by decide) rfl
  refine lv_aload_n hx hb dX12_sortOf_0 rfl (lv_at hl 0 rfl) ?_
  refine tw_ldcwS hx hb hown hE.s14 dX12_sortOf_1 ?_
  have hFc := gA_free hG hA hS
  refine va_calli (va_runV (As := [.ref (adK 14)]) (rest := []) ⟨hx, hb, hml, hown, hts⟩ (s_isWord l dC dI kA adK adV G s.heap q wZ wN wH wB wC wL wK wU wV PI im PM PT lS lB lE lN o0 pt bg vt 14 hT hr_o0 hm_pt hm_bg (by have q8 := ti_all pt; omega) (by have q8 := ti_all bg; omega) (by have := (show pt.toInt = pt.toInt from rfl); have := (show bg.toInt = bg.toInt from rfl); omega) (by first | omega | decide) hc_vt hgz hgn hgh hgb hgc hgi hgu) (cwV 1 hts (goodIn_app (goodIn_r _ [37, 38, 39, 40] rfl (by decide +kernel)) (goodIn_ca (goodIn_r _ [1, 2, 3, 4, 5, 6, 7, 8, 9, 10, 11, 12, 13, 14, 15, 16, 17, 18, 19, 20, 21, 22, 23, 24, 25, 26, 27, 28, 29, 30, 31, 32, 33, 34, 35, 36] rfl (by decide +kernel)) (bs_in _ _))) rfl rfl rfl (by decide +kernel) ⟨(Nat.le_of_ble_eq_true rfl), (Nat.le_of_ble_eq_true rfl)⟩) ⟨fun a U g mk q => by obtain ⟨q0, q1, qK, qE⟩ := q; exact ⟨q0, q1, va_K.moved (u := U) (U := U.calling g mk a) (Vm.Alike.refl U.vm) qK, EVS.blind g mk a qE⟩, gH_rc hK hT hr_o0 shm_0 rfl, fun U hU hW => ⟨rfl, hU, va_K.moved hW.alike hK, hE.call hS hFc hU hW⟩⟩ rfl rfl hl.1 rfl (lv_room (Nat.le_of_ble_eq_true rfl)) dX12_sortOf_4 ⟨(Nat.le_of_ble_eq_true rfl), (Nat.le_of_ble_eq_true rfl)⟩) hS (fun q _ h => hFc q h) hFc (fun r2 u t H locs ht hvm hw3 hB _ _ hS => ?_)
  obtain ⟨hT, hF1⟩ := hB
  rw [ht] at hT hF1
  have m4 := (hF1.fld hr_o0 skm_0 (k := 12) (by decide) (by decide)).trans hm_pt
  have m5 := (hF1.fld hr_o0 skm_0 (k := 14) (by decide) (by decide)).trans hm_bg
  have m6 := hc_vt.kept (hF1.arr hg1 skm_11 (by decide))
  have hF := hF.more hF1 (by decide)
  try dsimp only at hw3
  obtain ⟨h7, hi8, hf9⟩ := hw3
  refine lv_if_eq (tgt := 14) hx hb dX12_sortOf_7 (by decide) (fun c10 => ?_) (fun c10 => ?_)
  · have t11 : r2.toInt = 0 := ti_eq c10 rfl (by decide)
    refine lv_aload_n hx hb dX12_sortOf_14 rfl (lv_at hl 0 rfl) ?_
    refine tw_ldcwS hx hb hown hE.s1 dX12_sortOf_15 ?_
    have hFc := gA_free hG hA hS
    refine va_calli (va_runV (As := [.ref (adK 1)]) (rest := []) ⟨hx, hb, hml, hown, hts⟩ (s_isWord l dC dI kA adK adV G H q wZ wN wH wB wC wL wK wU wV PI im PM PT lS lB lE lN o0 pt bg vt 1 hT hr_o0 m4 m5 (by have q8 := ti_all pt; omega) (by have q8 := ti_all bg; omega) (by have := (show pt.toInt = pt.toInt from rfl); have := (show bg.toInt = bg.toInt from rfl); omega) (by first | omega | decide) m6 hgz hgn hgh hgb hgc hgi hgu) (cwV 1 hts (goodIn_app (goodIn_r _ [37, 38, 39, 40] rfl (by decide +kernel)) (goodIn_ca (goodIn_r _ [1, 2, 3, 4, 5, 6, 7, 8, 9, 10, 11, 12, 13, 14, 15, 16, 17, 18, 19, 20, 21, 22, 23, 24, 25, 26, 27, 28, 29, 30, 31, 32, 33, 34, 35, 36] rfl (by decide +kernel)) (bs_in _ _))) rfl rfl rfl (by decide +kernel) ⟨(Nat.le_of_ble_eq_true rfl), (Nat.le_of_ble_eq_true rfl)⟩) ⟨fun a U g mk q => by obtain ⟨q0, q1, qK, qE⟩ := q; exact ⟨q0, q1, va_K.moved (u := U) (U := U.calling g mk a) (Vm.Alike.refl U.vm) qK, EVS.blind g mk a qE⟩, gH_rc hK hT hr_o0 shm_0 rfl, fun U hU hW => ⟨rfl, hU, va_K.moved hW.alike hK, hE.call hS hFc hU hW⟩⟩ rfl rfl hl.1 rfl (lv_room (Nat.le_of_ble_eq_true rfl)) dX12_sortOf_18 ⟨(Nat.le_of_ble_eq_true rfl), (Nat.le_of_ble_eq_true rfl)⟩) hS (fun q _ h => hFc q h) hFc (fun r12 u t H locs ht hvm hw13 hB _ _ hS => ?_)
    obtain ⟨hT, hF1⟩ := hB
    rw [ht] at hT hF1
    have m14 := (hF1.fld hr_o0 skm_0 (k := 12) (by decide) (by decide)).trans m4
    have m15 := (hF1.fld hr_o0 skm_0 (k := 14) (by decide) (by decide)).trans m5
    have m16 := m6.kept (hF1.arr hg1 skm_11 (by decide))
    have hF := hF.more hF1 (by decide)
    try dsimp only at hw13
    obtain ⟨h17, hi18, hf19⟩ := hw13
    refine lv_if_eq (tgt := 28) hx hb dX12_sortOf_21 (by decide) (fun c20 => ?_) (fun c20 => ?_)
    · have t21 : r12.toInt = 0 := ti_eq c20 rfl (by decide)
      refine lv_aload_n hx hb dX12_sortOf_28 rfl (lv_at hl 0 rfl) ?_
      refine tw_ldcwS hx hb hown hE.s15 dX12_sortOf_29 ?_
      have hFc := gA_free hG hA hS
      refine va_calli (va_runV (As := [.ref (adK 15)]) (rest := []) ⟨hx, hb, hml, hown, hts⟩ (s_isWord l dC dI kA adK adV G H q wZ wN wH wB wC wL wK wU wV PI im PM PT lS lB lE lN o0 pt bg vt 15 hT hr_o0 m14 m15 (by have q8 := ti_all pt; omega) (by have q8 := ti_all bg; omega) (by have := (show pt.toInt = pt.toInt from rfl); have := (show bg.toInt = bg.toInt from rfl); omega) (by first | omega | decide) m16 hgz hgn hgh hgb hgc hgi hgu) (cwV 1 hts (goodIn_app (goodIn_r _ [37, 38, 39, 40] rfl (by decide +kernel)) (goodIn_ca (goodIn_r _ [1, 2, 3, 4, 5, 6, 7, 8, 9, 10, 11, 12, 13, 14, 15, 16, 17, 18, 19, 20, 21, 22, 23, 24, 25, 26, 27, 28, 29, 30, 31, 32, 33, 34, 35, 36] rfl (by decide +kernel)) (bs_in _ _))) rfl rfl rfl (by decide +kernel) ⟨(Nat.le_of_ble_eq_true rfl), (Nat.le_of_ble_eq_true rfl)⟩) ⟨fun a U g mk q => by obtain ⟨q0, q1, qK, qE⟩ := q; exact ⟨q0, q1, va_K.moved (u := U) (U := U.calling g mk a) (Vm.Alike.refl U.vm) qK, EVS.blind g mk a qE⟩, gH_rc hK hT hr_o0 shm_0 rfl, fun U hU hW => ⟨rfl, hU, va_K.moved hW.alike hK, hE.call hS hFc hU hW⟩⟩ rfl rfl hl.1 rfl (lv_room (Nat.le_of_ble_eq_true rfl)) dX12_sortOf_32 ⟨(Nat.le_of_ble_eq_true rfl), (Nat.le_of_ble_eq_true rfl)⟩) hS (fun q _ h => hFc q h) hFc (fun r22 u t H locs ht hvm hw23 hB _ _ hS => ?_)
      obtain ⟨hT, hF1⟩ := hB
      rw [ht] at hT hF1
      have m24 := (hF1.fld hr_o0 skm_0 (k := 12) (by decide) (by decide)).trans m14
      have m25 := (hF1.fld hr_o0 skm_0 (k := 14) (by decide) (by decide)).trans m15
      have m26 := m16.kept (hF1.arr hg1 skm_11 (by decide))
      have hF := hF.more hF1 (by decide)
      try dsimp only at hw23
      obtain ⟨h27, hi28, hf29⟩ := hw23
      refine lv_if_eq (tgt := 42) hx hb dX12_sortOf_35 (by decide) (fun c30 => ?_) (fun c30 => ?_)
      · have t31 : r22.toInt = 0 := ti_eq c30 rfl (by decide)
        refine lv_aload_n hx hb dX12_sortOf_42 rfl (lv_at hl 0 rfl) ?_
        refine tw_ldcwS hx hb hown hE.s16 dX12_sortOf_43 ?_
        have hFc := gA_free hG hA hS
        refine va_calli (va_runV (As := [.ref (adK 16)]) (rest := []) ⟨hx, hb, hml, hown, hts⟩ (s_isWord l dC dI kA adK adV G H q wZ wN wH wB wC wL wK wU wV PI im PM PT lS lB lE lN o0 pt bg vt 16 hT hr_o0 m24 m25 (by have q8 := ti_all pt; omega) (by have q8 := ti_all bg; omega) (by have := (show pt.toInt = pt.toInt from rfl); have := (show bg.toInt = bg.toInt from rfl); omega) (by first | omega | decide) m26 hgz hgn hgh hgb hgc hgi hgu) (cwV 1 hts (goodIn_app (goodIn_r _ [37, 38, 39, 40] rfl (by decide +kernel)) (goodIn_ca (goodIn_r _ [1, 2, 3, 4, 5, 6, 7, 8, 9, 10, 11, 12, 13, 14, 15, 16, 17, 18, 19, 20, 21, 22, 23, 24, 25, 26, 27, 28, 29, 30, 31, 32, 33, 34, 35, 36] rfl (by decide +kernel)) (bs_in _ _))) rfl rfl rfl (by decide +kernel) ⟨(Nat.le_of_ble_eq_true rfl), (Nat.le_of_ble_eq_true rfl)⟩) ⟨fun a U g mk q => by obtain ⟨q0, q1, qK, qE⟩ := q; exact ⟨q0, q1, va_K.moved (u := U) (U := U.calling g mk a) (Vm.Alike.refl U.vm) qK, EVS.blind g mk a qE⟩, gH_rc hK hT hr_o0 shm_0 rfl, fun U hU hW => ⟨rfl, hU, va_K.moved hW.alike hK, hE.call hS hFc hU hW⟩⟩ rfl rfl hl.1 rfl (lv_room (Nat.le_of_ble_eq_true rfl)) dX12_sortOf_46 ⟨(Nat.le_of_ble_eq_true rfl), (Nat.le_of_ble_eq_true rfl)⟩) hS (fun q _ h => hFc q h) hFc (fun r32 u t H locs ht hvm hw33 hB _ _ hS => ?_)
        obtain ⟨hT, hF1⟩ := hB
        rw [ht] at hT hF1
        have m34 := (hF1.fld hr_o0 skm_0 (k := 12) (by decide) (by decide)).trans m24
        have m35 := (hF1.fld hr_o0 skm_0 (k := 14) (by decide) (by decide)).trans m25
        have m36 := m26.kept (hF1.arr hg1 skm_11 (by decide))
        have hF := hF.more hF1 (by decide)
        try dsimp only at hw33
        obtain ⟨h37, hi38, hf39⟩ := hw33
        refine lv_if_eq (tgt := 56) hx hb dX12_sortOf_49 (by decide) (fun c40 => ?_) (fun c40 => ?_)
        · have t41 : r32.toInt = 0 := ti_eq c40 rfl (by decide)
          refine lv_aload_n hx hb dX12_sortOf_56 rfl (lv_at hl 0 rfl) ?_
          refine tw_ldcwS hx hb hown hE.s17 dX12_sortOf_57 ?_
          have hFc := gA_free hG hA hS
          refine va_calli (va_runV (As := [.ref (adK 17)]) (rest := []) ⟨hx, hb, hml, hown, hts⟩ (s_isWord l dC dI kA adK adV G H q wZ wN wH wB wC wL wK wU wV PI im PM PT lS lB lE lN o0 pt bg vt 17 hT hr_o0 m34 m35 (by have q8 := ti_all pt; omega) (by have q8 := ti_all bg; omega) (by have := (show pt.toInt = pt.toInt from rfl); have := (show bg.toInt = bg.toInt from rfl); omega) (by first | omega | decide) m36 hgz hgn hgh hgb hgc hgi hgu) (cwV 1 hts (goodIn_app (goodIn_r _ [37, 38, 39, 40] rfl (by decide +kernel)) (goodIn_ca (goodIn_r _ [1, 2, 3, 4, 5, 6, 7, 8, 9, 10, 11, 12, 13, 14, 15, 16, 17, 18, 19, 20, 21, 22, 23, 24, 25, 26, 27, 28, 29, 30, 31, 32, 33, 34, 35, 36] rfl (by decide +kernel)) (bs_in _ _))) rfl rfl rfl (by decide +kernel) ⟨(Nat.le_of_ble_eq_true rfl), (Nat.le_of_ble_eq_true rfl)⟩) ⟨fun a U g mk q => by obtain ⟨q0, q1, qK, qE⟩ := q; exact ⟨q0, q1, va_K.moved (u := U) (U := U.calling g mk a) (Vm.Alike.refl U.vm) qK, EVS.blind g mk a qE⟩, gH_rc hK hT hr_o0 shm_0 rfl, fun U hU hW => ⟨rfl, hU, va_K.moved hW.alike hK, hE.call hS hFc hU hW⟩⟩ rfl rfl hl.1 rfl (lv_room (Nat.le_of_ble_eq_true rfl)) dX12_sortOf_60 ⟨(Nat.le_of_ble_eq_true rfl), (Nat.le_of_ble_eq_true rfl)⟩) hS (fun q _ h => hFc q h) hFc (fun r42 u t H locs ht hvm hw43 hB _ _ hS => ?_)
          obtain ⟨hT, hF1⟩ := hB
          rw [ht] at hT hF1
          have m44 := (hF1.fld hr_o0 skm_0 (k := 12) (by decide) (by decide)).trans m34
          have m45 := (hF1.fld hr_o0 skm_0 (k := 14) (by decide) (by decide)).trans m35
          have m46 := m36.kept (hF1.arr hg1 skm_11 (by decide))
          have hF := hF.more hF1 (by decide)
          try dsimp only at hw43
          obtain ⟨h47, hi48, hf49⟩ := hw43
          refine lv_if_eq (tgt := 70) hx hb dX12_sortOf_63 (by decide) (fun c50 => ?_) (fun c50 => ?_)
          · have t51 : r42.toInt = 0 := ti_eq c50 rfl (by decide)
            refine lv_aload_n hx hb dX12_sortOf_70 rfl (lv_at hl 0 rfl) ?_
            refine tw_ldcwS hx hb hown hE.s18 dX12_sortOf_71 ?_
            have hFc := gA_free hG hA hS
            refine va_calli (va_runV (As := [.ref (adK 18)]) (rest := []) ⟨hx, hb, hml, hown, hts⟩ (s_isWord l dC dI kA adK adV G H q wZ wN wH wB wC wL wK wU wV PI im PM PT lS lB lE lN o0 pt bg vt 18 hT hr_o0 m44 m45 (by have q8 := ti_all pt; omega) (by have q8 := ti_all bg; omega) (by have := (show pt.toInt = pt.toInt from rfl); have := (show bg.toInt = bg.toInt from rfl); omega) (by first | omega | decide) m46 hgz hgn hgh hgb hgc hgi hgu) (cwV 1 hts (goodIn_app (goodIn_r _ [37, 38, 39, 40] rfl (by decide +kernel)) (goodIn_ca (goodIn_r _ [1, 2, 3, 4, 5, 6, 7, 8, 9, 10, 11, 12, 13, 14, 15, 16, 17, 18, 19, 20, 21, 22, 23, 24, 25, 26, 27, 28, 29, 30, 31, 32, 33, 34, 35, 36] rfl (by decide +kernel)) (bs_in _ _))) rfl rfl rfl (by decide +kernel) ⟨(Nat.le_of_ble_eq_true rfl), (Nat.le_of_ble_eq_true rfl)⟩) ⟨fun a U g mk q => by obtain ⟨q0, q1, qK, qE⟩ := q; exact ⟨q0, q1, va_K.moved (u := U) (U := U.calling g mk a) (Vm.Alike.refl U.vm) qK, EVS.blind g mk a qE⟩, gH_rc hK hT hr_o0 shm_0 rfl, fun U hU hW => ⟨rfl, hU, va_K.moved hW.alike hK, hE.call hS hFc hU hW⟩⟩ rfl rfl hl.1 rfl (lv_room (Nat.le_of_ble_eq_true rfl)) dX12_sortOf_74 ⟨(Nat.le_of_ble_eq_true rfl), (Nat.le_of_ble_eq_true rfl)⟩) hS (fun q _ h => hFc q h) hFc (fun r52 u t H locs ht hvm hw53 hB _ _ hS => ?_)
            obtain ⟨hT, hF1⟩ := hB
            rw [ht] at hT hF1
            have m54 := (hF1.fld hr_o0 skm_0 (k := 12) (by decide) (by decide)).trans m44
            have m55 := (hF1.fld hr_o0 skm_0 (k := 14) (by decide) (by decide)).trans m45
            have m56 := m46.kept (hF1.arr hg1 skm_11 (by decide))
            have hF := hF.more hF1 (by decide)
            try dsimp only at hw53
            obtain ⟨h57, hi58, hf59⟩ := hw53
            refine lv_if_eq (tgt := 84) hx hb dX12_sortOf_77 (by decide) (fun c60 => ?_) (fun c60 => ?_)
            · have t61 : r52.toInt = 0 := ti_eq c60 rfl (by decide)
              refine lv_aload_n hx hb dX12_sortOf_84 rfl (lv_at hl 0 rfl) ?_
              refine tw_ldcwS hx hb hown hE.s19 dX12_sortOf_85 ?_
              have hFc := gA_free hG hA hS
              refine va_calli (va_runV (As := [.ref (adK 19)]) (rest := []) ⟨hx, hb, hml, hown, hts⟩ (s_isWord l dC dI kA adK adV G H q wZ wN wH wB wC wL wK wU wV PI im PM PT lS lB lE lN o0 pt bg vt 19 hT hr_o0 m54 m55 (by have q8 := ti_all pt; omega) (by have q8 := ti_all bg; omega) (by have := (show pt.toInt = pt.toInt from rfl); have := (show bg.toInt = bg.toInt from rfl); omega) (by first | omega | decide) m56 hgz hgn hgh hgb hgc hgi hgu) (cwV 1 hts (goodIn_app (goodIn_r _ [37, 38, 39, 40] rfl (by decide +kernel)) (goodIn_ca (goodIn_r _ [1, 2, 3, 4, 5, 6, 7, 8, 9, 10, 11, 12, 13, 14, 15, 16, 17, 18, 19, 20, 21, 22, 23, 24, 25, 26, 27, 28, 29, 30, 31, 32, 33, 34, 35, 36] rfl (by decide +kernel)) (bs_in _ _))) rfl rfl rfl (by decide +kernel) ⟨(Nat.le_of_ble_eq_true rfl), (Nat.le_of_ble_eq_true rfl)⟩) ⟨fun a U g mk q => by obtain ⟨q0, q1, qK, qE⟩ := q; exact ⟨q0, q1, va_K.moved (u := U) (U := U.calling g mk a) (Vm.Alike.refl U.vm) qK, EVS.blind g mk a qE⟩, gH_rc hK hT hr_o0 shm_0 rfl, fun U hU hW => ⟨rfl, hU, va_K.moved hW.alike hK, hE.call hS hFc hU hW⟩⟩ rfl rfl hl.1 rfl (lv_room (Nat.le_of_ble_eq_true rfl)) dX12_sortOf_88 ⟨(Nat.le_of_ble_eq_true rfl), (Nat.le_of_ble_eq_true rfl)⟩) hS (fun q _ h => hFc q h) hFc (fun r62 u t H locs ht hvm hw63 hB _ _ hS => ?_)
              obtain ⟨hT, hF1⟩ := hB
              rw [ht] at hT hF1
              have m64 := (hF1.fld hr_o0 skm_0 (k := 12) (by decide) (by decide)).trans m54
              have m65 := (hF1.fld hr_o0 skm_0 (k := 14) (by decide) (by decide)).trans m55
              have m66 := m56.kept (hF1.arr hg1 skm_11 (by decide))
              have hF := hF.more hF1 (by decide)
              try dsimp only at hw63
              obtain ⟨h67, hi68, hf69⟩ := hw63
              refine lv_if_eq (tgt := 99) hx hb dX12_sortOf_91 (by decide) (fun c70 => ?_) (fun c70 => ?_)
              · have t71 : r62.toInt = 0 := ti_eq c70 rfl (by decide)
                refine lv_aload_n hx hb dX12_sortOf_99 rfl (lv_at hl 0 rfl) ?_
                refine tw_ldcwS hx hb hown hE.s20 dX12_sortOf_100 ?_
                have hFc := gA_free hG hA hS
                refine va_calli (va_runV (As := [.ref (adK 20)]) (rest := []) ⟨hx, hb, hml, hown, hts⟩ (s_isWord l dC dI kA adK adV G H q wZ wN wH wB wC wL wK wU wV PI im PM PT lS lB lE lN o0 pt bg vt 20 hT hr_o0 m64 m65 (by have q8 := ti_all pt; omega) (by have q8 := ti_all bg; omega) (by have := (show pt.toInt = pt.toInt from rfl); have := (show bg.toInt = bg.toInt from rfl); omega) (by first | omega | decide) m66 hgz hgn hgh hgb hgc hgi hgu) (cwV 1 hts (goodIn_app (goodIn_r _ [37, 38, 39, 40] rfl (by decide +kernel)) (goodIn_ca (goodIn_r _ [1, 2, 3, 4, 5, 6, 7, 8, 9, 10, 11, 12, 13, 14, 15, 16, 17, 18, 19, 20, 21, 22, 23, 24, 25, 26, 27, 28, 29, 30, 31, 32, 33, 34, 35, 36] rfl (by decide +kernel)) (bs_in _ _))) rfl rfl rfl (by decide +kernel) ⟨(Nat.le_of_ble_eq_true rfl), (Nat.le_of_ble_eq_true rfl)⟩) ⟨fun a U g mk q => by obtain ⟨q0, q1, qK, qE⟩ := q; exact ⟨q0, q1, va_K.moved (u := U) (U := U.calling g mk a) (Vm.Alike.refl U.vm) qK, EVS.blind g mk a qE⟩, gH_rc hK hT hr_o0 shm_0 rfl, fun U hU hW => ⟨rfl, hU, va_K.moved hW.alike hK, hE.call hS hFc hU hW⟩⟩ rfl rfl hl.1 rfl (lv_room (Nat.le_of_ble_eq_true rfl)) dX12_sortOf_103 ⟨(Nat.le_of_ble_eq_true rfl), (Nat.le_of_ble_eq_true rfl)⟩) hS (fun q _ h => hFc q h) hFc (fun r72 u t H locs ht hvm hw73 hB _ _ hS => ?_)
                obtain ⟨hT, hF1⟩ := hB
                rw [ht] at hT hF1
                have m74 := (hF1.fld hr_o0 skm_0 (k := 12) (by decide) (by decide)).trans m64
                have m75 := (hF1.fld hr_o0 skm_0 (k := 14) (by decide) (by decide)).trans m65
                have m76 := m66.kept (hF1.arr hg1 skm_11 (by decide))
                have hF := hF.more hF1 (by decide)
                try dsimp only at hw73
                obtain ⟨h77, hi78, hf79⟩ := hw73
                refine lv_if_eq (tgt := 114) hx hb dX12_sortOf_106 (by decide) (fun c80 => ?_) (fun c80 => ?_)
                · have t81 : r72.toInt = 0 := ti_eq c80 rfl (by decide)
                  refine lv_aload_n hx hb dX12_sortOf_114 rfl (lv_at hl 0 rfl) ?_
                  refine tw_ldcwS hx hb hown hE.s21 dX12_sortOf_115 ?_
                  have hFc := gA_free hG hA hS
                  refine va_calli (va_runV (As := [.ref (adK 21)]) (rest := []) ⟨hx, hb, hml, hown, hts⟩ (s_isWord l dC dI kA adK adV G H q wZ wN wH wB wC wL wK wU wV PI im PM PT lS lB lE lN o0 pt bg vt 21 hT hr_o0 m74 m75 (by have q8 := ti_all pt; omega) (by have q8 := ti_all bg; omega) (by have := (show pt.toInt = pt.toInt from rfl); have := (show bg.toInt = bg.toInt from rfl); omega) (by first | omega | decide) m76 hgz hgn hgh hgb hgc hgi hgu) (cwV 1 hts (goodIn_app (goodIn_r _ [37, 38, 39, 40] rfl (by decide +kernel)) (goodIn_ca (goodIn_r _ [1, 2, 3, 4, 5, 6, 7, 8, 9, 10, 11, 12, 13, 14, 15, 16, 17, 18, 19, 20, 21, 22, 23, 24, 25, 26, 27, 28, 29, 30, 31, 32, 33, 34, 35, 36] rfl (by decide +kernel)) (bs_in _ _))) rfl rfl rfl (by decide +kernel) ⟨(Nat.le_of_ble_eq_true rfl), (Nat.le_of_ble_eq_true rfl)⟩) ⟨fun a U g mk q => by obtain ⟨q0, q1, qK, qE⟩ := q; exact ⟨q0, q1, va_K.moved (u := U) (U := U.calling g mk a) (Vm.Alike.refl U.vm) qK, EVS.blind g mk a qE⟩, gH_rc hK hT hr_o0 shm_0 rfl, fun U hU hW => ⟨rfl, hU, va_K.moved hW.alike hK, hE.call hS hFc hU hW⟩⟩ rfl rfl hl.1 rfl (lv_room (Nat.le_of_ble_eq_true rfl)) dX12_sortOf_118 ⟨(Nat.le_of_ble_eq_true rfl), (Nat.le_of_ble_eq_true rfl)⟩) hS (fun q _ h => hFc q h) hFc (fun r82 u t H locs ht hvm hw83 hB _ _ hS => ?_)
                  obtain ⟨hT, hF1⟩ := hB
                  rw [ht] at hT hF1
                  have m84 := (hF1.fld hr_o0 skm_0 (k := 12) (by decide) (by decide)).trans m74
                  have m85 := (hF1.fld hr_o0 skm_0 (k := 14) (by decide) (by decide)).trans m75
                  have m86 := m76.kept (hF1.arr hg1 skm_11 (by decide))
                  have hF := hF.more hF1 (by decide)
                  try dsimp only at hw83
                  obtain ⟨h87, hi88, hf89⟩ := hw83
                  refine lv_if_eq (tgt := 129) hx hb dX12_sortOf_121 (by decide) (fun c90 => ?_) (fun c90 => ?_)
                  · have t91 : r82.toInt = 0 := ti_eq c90 rfl (by decide)
                    refine lv_aload_n hx hb dX12_sortOf_129 rfl (lv_at hl 0 rfl) ?_
                    refine tw_ldcwS hx hb hown hE.s22 dX12_sortOf_130 ?_
                    have hFc := gA_free hG hA hS
                    refine va_calli (va_runV (As := [.ref (adK 22)]) (rest := []) ⟨hx, hb, hml, hown, hts⟩ (s_isWord l dC dI kA adK adV G H q wZ wN wH wB wC wL wK wU wV PI im PM PT lS lB lE lN o0 pt bg vt 22 hT hr_o0 m84 m85 (by have q8 := ti_all pt; omega) (by have q8 := ti_all bg; omega) (by have := (show pt.toInt = pt.toInt from rfl); have := (show bg.toInt = bg.toInt from rfl); omega) (by first | omega | decide) m86 hgz hgn hgh hgb hgc hgi hgu) (cwV 1 hts (goodIn_app (goodIn_r _ [37, 38, 39, 40] rfl (by decide +kernel)) (goodIn_ca (goodIn_r _ [1, 2, 3, 4, 5, 6, 7, 8, 9, 10, 11, 12, 13, 14, 15, 16, 17, 18, 19, 20, 21, 22, 23, 24, 25, 26, 27, 28, 29, 30, 31, 32, 33, 34, 35, 36] rfl (by decide +kernel)) (bs_in _ _))) rfl rfl rfl (by decide +kernel) ⟨(Nat.le_of_ble_eq_true rfl), (Nat.le_of_ble_eq_true rfl)⟩) ⟨fun a U g mk q => by obtain ⟨q0, q1, qK, qE⟩ := q; exact ⟨q0, q1, va_K.moved (u := U) (U := U.calling g mk a) (Vm.Alike.refl U.vm) qK, EVS.blind g mk a qE⟩, gH_rc hK hT hr_o0 shm_0 rfl, fun U hU hW => ⟨rfl, hU, va_K.moved hW.alike hK, hE.call hS hFc hU hW⟩⟩ rfl rfl hl.1 rfl (lv_room (Nat.le_of_ble_eq_true rfl)) dX12_sortOf_133 ⟨(Nat.le_of_ble_eq_true rfl), (Nat.le_of_ble_eq_true rfl)⟩) hS (fun q _ h => hFc q h) hFc (fun r92 u t H locs ht hvm hw93 hB _ _ hS => ?_)
                    obtain ⟨hT, hF1⟩ := hB
                    rw [ht] at hT hF1
                    have hF := hF.more hF1 (by decide)
                    try dsimp only at hw93
                    obtain ⟨h97, hi98, hf99⟩ := hw93
                    refine lv_if_eq (tgt := 144) hx hb dX12_sortOf_136 (by decide) (fun c100 => ?_) (fun c100 => ?_)
                    · have t101 : r92.toInt = 0 := ti_eq c100 rfl (by decide)
                      refine lv_iconst (v := (-1)) hx hb dX12_sortOf_144 (by decide) ?_
                      exact W.iret (v := (-1)) hx hb hr (fun t ht hW => ⟨⟨(-1), (), rfl, (by exact ⟨(rg_t (a := (-1)) (by decide) (by first | decide | omega) (by first | decide | omega)), (Or.inl ⟨by decide, so_n (hf9.resolve_left (fun h8 => by have := h8.1; omega)).2 (hf19.resolve_left (fun h8 => by have := h8.1; omega)).2 (hf29.resolve_left (fun h8 => by have := h8.1; omega)).2 (hf39.resolve_left (fun h8 => by have := h8.1; omega)).2 (hf49.resolve_left (fun h8 => by have := h8.1; omega)).2 (hf59.resolve_left (fun h8 => by have := h8.1; omega)).2 (hf69.resolve_left (fun h8 => by have := h8.1; omega)).2 (hf79.resolve_left (fun h8 => by have := h8.1; omega)).2 (hf89.resolve_left (fun h8 => by have := h8.1; omega)).2 (hf99.resolve_left (fun h8 => by have := h8.1; omega)).2⟩)⟩), by (try dsimp only); rw [ht]; exact ⟨hT, hF⟩⟩, hS.F ht⟩) hS.2.2 dX12_sortOf_145
                    · have t102 : r92.toInt ≠ 0 := ti_ne c100 rfl (by decide)
                      have t103 : pt.toInt - bg.toInt = ((sLn 22 : Nat) : Int) := hi98 ((bit_of ⟨by omega, by omega⟩).resolve_left c100)
                      refine lv_bipush (v := 9) hx hb dX12_sortOf_139 (by decide) ?_
                      refine lv_goto (tgt := 145) hx hb dX12_sortOf_141 (by decide) ?_
                      exact W.iret (v := 9) hx hb hr (fun t ht hW => ⟨⟨9, (), rfl, (by exact ⟨(rg_t (a := 9) (by decide) (by first | decide | omega) (by first | decide | omega)), (Or.inr ⟨22, by decide, (hf99.resolve_right (fun h8 => by have := h8.1; omega)).2, by decide⟩)⟩), by (try dsimp only); rw [ht]; exact ⟨hT, hF⟩⟩, hS.F ht⟩) hS.2.2 dX12_sortOf_145
                  · have t104 : r82.toInt ≠ 0 := ti_ne c90 rfl (by decide)
                    have t105 : pt.toInt - bg.toInt = ((sLn 21 : Nat) : Int) := hi88 ((bit_of ⟨by omega, by omega⟩).resolve_left c90)
                    refine lv_bipush (v := 8) hx hb dX12_sortOf_124 (by decide) ?_
                    refine lv_goto (tgt := 145) hx hb dX12_sortOf_126 (by decide) ?_
                    exact W.iret (v := 8) hx hb hr (fun t ht hW => ⟨⟨8, (), rfl, (by exact ⟨(rg_t (a := 8) (by decide) (by first | decide | omega) (by first | decide | omega)), (Or.inr ⟨21, by decide, (hf89.resolve_right (fun h8 => by have := h8.1; omega)).2, by decide⟩)⟩), by (try dsimp only); rw [ht]; exact ⟨hT, hF⟩⟩, hS.F ht⟩) hS.2.2 dX12_sortOf_145
                · have t106 : r72.toInt ≠ 0 := ti_ne c80 rfl (by decide)
                  have t107 : pt.toInt - bg.toInt = ((sLn 20 : Nat) : Int) := hi78 ((bit_of ⟨by omega, by omega⟩).resolve_left c80)
                  refine lv_bipush (v := 7) hx hb dX12_sortOf_109 (by decide) ?_
                  refine lv_goto (tgt := 145) hx hb dX12_sortOf_111 (by decide) ?_
                  exact W.iret (v := 7) hx hb hr (fun t ht hW => ⟨⟨7, (), rfl, (by exact ⟨(rg_t (a := 7) (by decide) (by first | decide | omega) (by first | decide | omega)), (Or.inr ⟨20, by decide, (hf79.resolve_right (fun h8 => by have := h8.1; omega)).2, by decide⟩)⟩), by (try dsimp only); rw [ht]; exact ⟨hT, hF⟩⟩, hS.F ht⟩) hS.2.2 dX12_sortOf_145
              · have t108 : r62.toInt ≠ 0 := ti_ne c70 rfl (by decide)
                have t109 : pt.toInt - bg.toInt = ((sLn 19 : Nat) : Int) := hi68 ((bit_of ⟨by omega, by omega⟩).resolve_left c70)
                refine lv_bipush (v := 6) hx hb dX12_sortOf_94 (by decide) ?_
                refine lv_goto (tgt := 145) hx hb dX12_sortOf_96 (by decide) ?_
                exact W.iret (v := 6) hx hb hr (fun t ht hW => ⟨⟨6, (), rfl, (by exact ⟨(rg_t (a := 6) (by decide) (by first | decide | omega) (by first | decide | omega)), (Or.inr ⟨19, by decide, (hf69.resolve_right (fun h8 => by have := h8.1; omega)).2, by decide⟩)⟩), by (try dsimp only); rw [ht]; exact ⟨hT, hF⟩⟩, hS.F ht⟩) hS.2.2 dX12_sortOf_145
            · have t110 : r52.toInt ≠ 0 := ti_ne c60 rfl (by decide)
              have t111 : pt.toInt - bg.toInt = ((sLn 18 : Nat) : Int) := hi58 ((bit_of ⟨by omega, by omega⟩).resolve_left c60)
              refine lv_iconst (v := 5) hx hb dX12_sortOf_80 (by decide) ?_
              refine lv_goto (tgt := 145) hx hb dX12_sortOf_81 (by decide) ?_
              exact W.iret (v := 5) hx hb hr (fun t ht hW => ⟨⟨5, (), rfl, (by exact ⟨(rg_t (a := 5) (by decide) (by first | decide | omega) (by first | decide | omega)), (Or.inr ⟨18, by decide, (hf59.resolve_right (fun h8 => by have := h8.1; omega)).2, by decide⟩)⟩), by (try dsimp only); rw [ht]; exact ⟨hT, hF⟩⟩, hS.F ht⟩) hS.2.2 dX12_sortOf_145
          · have t112 : r42.toInt ≠ 0 := ti_ne c50 rfl (by decide)
            have t113 : pt.toInt - bg.toInt = ((sLn 17 : Nat) : Int) := hi48 ((bit_of ⟨by omega, by omega⟩).resolve_left c50)
            refine lv_iconst (v := 4) hx hb dX12_sortOf_66 (by decide) ?_
            refine lv_goto (tgt := 145) hx hb dX12_sortOf_67 (by decide) ?_
            exact W.iret (v := 4) hx hb hr (fun t ht hW => ⟨⟨4, (), rfl, (by exact ⟨(rg_t (a := 4) (by decide) (by first | decide | omega) (by first | decide | omega)), (Or.inr ⟨17, by decide, (hf49.resolve_right (fun h8 => by have := h8.1; omega)).2, by decide⟩)⟩), by (try dsimp only); rw [ht]; exact ⟨hT, hF⟩⟩, hS.F ht⟩) hS.2.2 dX12_sortOf_145
        · have t114 : r32.toInt ≠ 0 := ti_ne c40 rfl (by decide)
          have t115 : pt.toInt - bg.toInt = ((sLn 16 : Nat) : Int) := hi38 ((bit_of ⟨by omega, by omega⟩).resolve_left c40)
          refine lv_iconst (v := 3) hx hb dX12_sortOf_52 (by decide) ?_
          refine lv_goto (tgt := 145) hx hb dX12_sortOf_53 (by decide) ?_
          exact W.iret (v := 3) hx hb hr (fun t ht hW => ⟨⟨3, (), rfl, (by exact ⟨(rg_t (a := 3) (by decide) (by first | decide | omega) (by first | decide | omega)), (Or.inr ⟨16, by decide, (hf39.resolve_right (fun h8 => by have := h8.1; omega)).2, by decide⟩)⟩), by (try dsimp only); rw [ht]; exact ⟨hT, hF⟩⟩, hS.F ht⟩) hS.2.2 dX12_sortOf_145
      · have t116 : r22.toInt ≠ 0 := ti_ne c30 rfl (by decide)
        have t117 : pt.toInt - bg.toInt = ((sLn 15 : Nat) : Int) := hi28 ((bit_of ⟨by omega, by omega⟩).resolve_left c30)
        refine lv_iconst (v := 2) hx hb dX12_sortOf_38 (by decide) ?_
        refine lv_goto (tgt := 145) hx hb dX12_sortOf_39 (by decide) ?_
        exact W.iret (v := 2) hx hb hr (fun t ht hW => ⟨⟨2, (), rfl, (by exact ⟨(rg_t (a := 2) (by decide) (by first | decide | omega) (by first | decide | omega)), (Or.inr ⟨15, by decide, (hf29.resolve_right (fun h8 => by have := h8.1; omega)).2, by decide⟩)⟩), by (try dsimp only); rw [ht]; exact ⟨hT, hF⟩⟩, hS.F ht⟩) hS.2.2 dX12_sortOf_145
    · have t118 : r12.toInt ≠ 0 := ti_ne c20 rfl (by decide)
      have t119 : pt.toInt - bg.toInt = ((sLn 1 : Nat) : Int) := hi18 ((bit_of ⟨by omega, by omega⟩).resolve_left c20)
      refine lv_iconst (v := 1) hx hb dX12_sortOf_24 (by decide) ?_
      refine lv_goto (tgt := 145) hx hb dX12_sortOf_25 (by decide) ?_
      exact W.iret (v := 1) hx hb hr (fun t ht hW => ⟨⟨1, (), rfl, (by exact ⟨(rg_t (a := 1) (by decide) (by first | decide | omega) (by first | decide | omega)), (Or.inr ⟨1, by decide, (hf19.resolve_right (fun h8 => by have := h8.1; omega)).2, by decide⟩)⟩), by (try dsimp only); rw [ht]; exact ⟨hT, hF⟩⟩, hS.F ht⟩) hS.2.2 dX12_sortOf_145
  · have t120 : r2.toInt ≠ 0 := ti_ne c10 rfl (by decide)
    have t121 : pt.toInt - bg.toInt = ((sLn 14 : Nat) : Int) := hi8 ((bit_of ⟨by omega, by omega⟩).resolve_left c10)
    refine lv_iconst (v := 0) hx hb dX12_sortOf_10 (by decide) ?_
    refine lv_goto (tgt := 145) hx hb dX12_sortOf_11 (by decide) ?_
    exact W.iret (v := 0) hx hb hr (fun t ht hW => ⟨⟨0, (), rfl, (by exact ⟨(rg_t (a := 0) (by decide) (by first | decide | omega) (by first | decide | omega)), (Or.inr ⟨14, by decide, (hf9.resolve_right (fun h8 => by have := h8.1; omega)).2, by decide⟩)⟩), by (try dsimp only); rw [ht]; exact ⟨hT, hF⟩⟩, hS.F ht⟩) hS.2.2 dX12_sortOf_145
def w_s_readLevel : List Cond := .code yX12_readLevel cX12_readLevel 2 (some .boolean) :: (HAppend.hAppend (α := List Cond) (β := List Cond) (γ := List Cond) [.fieldLink RX12 48 "SeaLandModel" "told" "[I", .code yX12_number cX12_number 3 (some .int), .code yX12_blanks cX12_blanks 1 none, .code yX12_isAt cX12_isAt 3 (some .boolean), .fieldLink RX12 335 "SeaLandModel" "point" "I", .fieldLink RX12 338 "SeaLandModel" "end" "I", .fieldLink RX12 31 "SeaLandModel" "tape" "[B", .methodLink RX12 341 yX12_isAt, .instanceMethod yX12_isAt, .selects RX12 yX12_isAt yX12_isAt, .initialized RX12, .fieldLink RX12 345 "SeaLandModel" "begin" "I", .methodLink RX12 348 yX12_blanks, .instanceMethod yX12_blanks, .selects RX12 yX12_blanks yX12_blanks, .methodLink RX12 391 yX12_number, .instanceMethod yX12_number, .selects RX12 yX12_number yX12_number, .fieldLink RX12 51 "SeaLandModel" "winter" "[I", .code yX12_word cX12_word 1 none, .methodLink RX12 360 yX12_word, .instanceMethod yX12_word, .selects RX12 yX12_word yX12_word, .code yX12_isWord cX12_isWord 4 (some .boolean), .code yJ0_length_8abf5 cJ0_length_8abf5 1 (some .int), .fieldLink RJ0 9 "java/lang/String" "value" "[B", .code yJ0_coder_7d493 cJ0_coder_7d493 1 (some .byte), .fieldLink RJ0 38 "java/lang/String" "COMPACT_STRINGS" "Z", .fieldLink RJ0 15 "java/lang/String" "coder" "B", .methodLink RJ0 335 yJ0_coder_7d493, .instanceMethod yJ0_coder_7d493, .selects RJ0 yJ0_coder_7d493 yJ0_coder_7d493, .initialized RJ0, .methodLink RX12 351 yJ0_length_8abf5, .instanceMethod yJ0_length_8abf5, .selects RJ0 yJ0_length_8abf5 yJ0_length_8abf5, .code yJ0_charAt_5068e cJ0_charAt_5068e 2 (some .char), .code yJ0_isLatin1_aae02 cJ0_isLatin1_aae02 1 (some .boolean), .methodLink RJ0 492 yJ0_isLatin1_aae02, .instanceMethod yJ0_isLatin1_aae02, .selects RJ0 yJ0_isLatin1_aae02 yJ0_isLatin1_aae02, .code yJ1_charAt_3b067 cJ1_charAt_3b067 2 (some .char), .code yJ0_checkIndex_df160 cJ0_checkIndex_df160 2 none, .fieldLink RJ0 1053 "jdk/internal/util/Preconditions" "SIOOBE_FORMATTER" "Ljava/util/function/BiFunction;", .code yJ3_checkIndex_8e157 cJ3_checkIndex_8e157 3 (some .int), .methodLink RJ0 1059 yJ3_checkIndex_8e157, .static yJ3_checkIndex_8e157, .initialized RJ3, .methodLink RJ1 9 yJ0_checkIndex_df160, .static yJ0_checkIndex_df160, .methodLink RJ0 495 yJ1_charAt_3b067, .static yJ1_charAt_3b067, .initialized RJ1, .methodLink RX12 356 yJ0_charAt_5068e, .instanceMethod yJ0_charAt_5068e, .selects RJ0 yJ0_charAt_5068e yJ0_charAt_5068e, .methodLink RX12 363 yX12_isWord, .instanceMethod yX12_isWord, .selects RX12 yX12_isWord yX12_isWord, .fieldLink RX12 54 "SeaLandModel" "from" "[I", .fieldLink RX12 57 "SeaLandModel" "to" "[I"] bs)
set_option maxHeartbeats 4000000 in
set_option maxRecDepth 100000 in
theorem s_readLevel (l : Launch) (dC : Nat → ClassId) (dI : Nat → Nat → Nat) (kA : Nat → ClassId) (adK adV : Nat → Nat) (G : gT) (H0 : Heap) (q : Nat → Nat) (wZ wN : Nat → Int) (wH wB wC : Int) (wL wK : Nat → Prop) (wU wV : Nat → Nat) (PI : Nat → Int → Prop) (im : Int) (PM PT : Nat → Int → Prop) (lS lB lE : Nat → Nat → Int → Prop) (lN : Nat → Int) (o0 : Nat) (kk : Int32) (pt : Int32) (en : Int32) (vt : Nat → Int32) (N : Nat) (hT : gH (dC, dI) kA (SHm q (wP wZ wN wH wB wC wL wK wU wV) PI im PM PT lS lB lE lN) G H0) (hr_o0 : G o0 = some 0) (hm_pt : el H0 o0 (dI 15 12) = some (.int pt)) (hm_en : el H0 o0 (dI 15 13) = some (.int en)) (hq0 : 0 ≤ pt.toInt ∧ pt.toInt ≤ 400) (hq1 : 0 ≤ en.toInt ∧ en.toInt ≤ 400) (hpe : pt.toInt ≤ en.toInt) (hN : en.toInt = ((N : Nat) : Int)) (hq4 : 40 ≤ kk.toInt ∧ kk.toInt ≤ 59) (hc_vt : ct H0 (q 10) 400 vt) (hgz : ∀ i, 0 ≤ wZ i) (hgn : ∀ i, 6500000 ≤ wN i ∧ wN i ≤ 20200000) (hgh : 0 ≤ wH ∧ wH ≤ 40000) (hgb : 0 ≤ wB ∧ wB ≤ 3850000) (hgc : 0 ≤ wC ∧ wC ≤ 30) (hgi : 0 ≤ im ∧ im ≤ 1) (hgu : ∀ a t, G a = some (t + 1) → a = q t) : Met l yX12_readLevel w_s_readLevel ({ frames := 5, cells := 0, slots := 0, locals := 108 }) (va_Pc [.ref o0, .int kk] (fun U => U.heap = H0 ∧ va_K (dC, dI) vwCl (tyl kA) U ∧ EVS adK adV (gA G H0.size) U U.heap)) (va_Qi (fun (r : Int32) (u : Int32 × Int32) => match u with | (p1, b1) => (0 ≤ p1.toInt ∧ p1.toInt ≤ 400) ∧ (0 ≤ b1.toInt ∧ b1.toInt ≤ 400) ∧ (0 ≤ r.toInt ∧ r.toInt ≤ 1) ∧ (pt.toInt ≤ p1.toInt ∧ p1.toInt ≤ en.toInt) ∧ ((r.toInt = 1 ∧ lvR (kd (tx vt) N) (xn (tx vt) N) (skp (tx vt) N pt.toNatClampNeg) 1 (skp (tx vt) N p1.toNatClampNeg)) ∨ (r.toInt = 0 ∧ lvR (kd (tx vt) N) (xn (tx vt) N) (skp (tx vt) N pt.toNatClampNeg) 0 b1.toNatClampNeg))) (fun (u : Int32 × Int32) (t : State) => match u with | (p1, b1) => gH (dC, dI) kA (SHm q (wP wZ wN wH wB wC wL wK wU wV) PI im PM PT lS lB lE lN) G t.heap ∧ gF (dC, dI) SKm G ([(0, 12), (0, 14), (21, 0), (22, 0), (23, 0), (24, 0)] : List (Nat × Nat)) H0 t.heap ∧ el t.heap o0 (dI 15 12) = some (.int p1) ∧ el t.heap o0 (dI 15 14) = some (.int b1)) (gA G H0.size)) 0 0 (gA G H0.size) := by
  refine Met.ofW (cc := cX12_readLevel) (maxL := 2) (ret := (some .boolean)) (by decide) rfl ?_
  intro p e s m args below meth c s₁ B hml hv
  obtain ⟨rfl, hH0, hK, hE⟩ := hv
  have hx := B.exec
  have hb := B.bytes
  have hr := B.returns
  have hts := atoms_spec (ws := w_s_readLevel) B.pre
  have hown : s.vm.findClass RX12 = some m.cls := findClass_of_methodNamed B.named
  have hlocks := B.notSynchronized
  subst hH0
  generalize hAe : gA G s.heap.size = A at hE ⊢
  have hA : ∀ q : Nat, s.heap.size ≤ q → A q := fun q h => by rw [← hAe]; exact Or.inr h
  have hG := gA_of hAe
  have hS : va_S A s.heap s.heap [] := va_S.rf
  have hF : gF (dC, dI) SKm G ([(0, 12), (0, 14), (21, 0), (22, 0), (23, 0), (24, 0)] : List (Nat × Nat)) s.heap s.heap := gF.rf
  have hl := lv_entry ([.ref o0, .int kk]) (n := 2) (Nat.le_of_ble_eq_true rfl)
  rw [lg_entry_eq]
  generalize (lg_sl ([.ref o0, .int kk]) ++ List.replicate (2 - (lg_sl ([.ref o0, .int kk])).length) Slot.unset).toArray = ls at hl ⊢
  have hl : lv_has ls 2 [(0, .ref o0), (1, .int kk)] := hl
  have hg1 : G (q 10) = some 11 := gx_of hT hr_o0 shm_0 (k := 10) (by decide) rfl
  refine lv_aload_n hx hb dX12_readLevel_0 rfl (lv_at hl 0 rfl) ?_
  refine tw_get hx hb hts bF_X12 hown hK hT hr_o0 shm_0 rfl 20 (by decide) (ht_at hts 0 rfl) (fun _ h9 => h9) dX12_readLevel_1 (fun v9 m2 h9 => ?_)
  obtain ⟨rfl, hg3⟩ := h9 _ rfl
  refine lv_iload_n hx hb dX12_readLevel_4 rfl (lv_at hl 1 rfl) ?_
  refine lv_aload_n hx hb dX12_readLevel_5 rfl (lv_at hl 0 rfl) ?_
  refine lv_sipush (v := 900) hx hb dX12_readLevel_6 (by decide) ?_
  have hFc := gA_free hG hA hS
  refine va_calli (va_runV (As := [.int 900]) (rest := [.int kk, .ref (q 20)]) ⟨hx, hb, hml, hown, hts⟩ (s_number l dC dI kA adK adV G s.heap q wZ wN wH wB wC wL wK wU wV PI im PM PT lS lB lE lN o0 900 pt en vt N hT hr_o0 hm_pt hm_en (by have q8 := ti_all pt; omega) (by have q8 := ti_all en; omega) (by have := (show pt.toInt = pt.toInt from rfl); have := (show en.toInt = en.toInt from rfl); omega) hN hc_vt hgz hgn hgh hgb hgc hgi hgu) (cwV 1 hts (goodIn_app (goodIn_r _ [16, 17, 18, 11] rfl (by decide +kernel)) (goodIn_ca (goodIn_r _ [2, 3, 4, 5, 6, 7, 8, 9, 10, 11, 12, 13, 14, 15] rfl (by decide +kernel)) (bs_in _ _))) rfl rfl rfl (by decide +kernel) ⟨(Nat.le_of_ble_eq_true rfl), (Nat.le_of_ble_eq_true rfl)⟩) ⟨fun a U g mk q => by obtain ⟨q0, q1, qK, qE⟩ := q; exact ⟨q0, q1, va_K.moved (u := U) (U := U.calling g mk a) (Vm.Alike.refl U.vm) qK, EVS.blind g mk a qE⟩, gH_rc hK hT hr_o0 shm_0 rfl, fun U hU hW => ⟨rfl, hU, va_K.moved hW.alike hK, hE.call hS hFc hU hW⟩⟩ rfl rfl hl.1 rfl (lv_room (Nat.le_of_ble_eq_true rfl)) dX12_readLevel_9 ⟨(Nat.le_of_ble_eq_true rfl), (Nat.le_of_ble_eq_true rfl)⟩) hS (fun q _ h => hFc q h) hFc (fun r4 u t H locs ht hvm hw5 hB _ _ hS => ?_)
  obtain ⟨u6, u7⟩ := u
  obtain ⟨hT, hF1, m8, m9⟩ := hB
  rw [ht] at hT hF1 m8 m9
  have m11 := (hF1.fld hr_o0 skm_0 (k := 13) (by decide) (by decide)).trans hm_en
  have m12 := hc_vt.kept (hF1.arr hg1 skm_11 (by decide))
  have hF := hF.more hF1 (by decide)
  try dsimp only at hw5
  obtain ⟨h13, h14, h15, hf16, hf17, hf18⟩ := hw5
  refine tw_iast (i := kk) (x := r4) hx hb hK hT hG hS hg3 shm_21 rfl (vin_t (a := kk.toInt) rfl (by omega) (by omega)) (gi_all _) dX12_readLevel_12 (fun H locs hT oq m19 oi hS => ?_)
  have hF := hF.ast hg3 skm_21 oq (by decide)
  have m20 := (el_kept (oq _ (gne hr_o0 hg3 (by decide)))).trans m11
  have m21 := m12.kept (oq _ (gne hg1 hg3 (by decide)))
  have m22 := (el_kept (oq _ (gne hr_o0 hg3 (by decide)))).trans m8
  have m23 := (el_kept (oq _ (gne hr_o0 hg3 (by decide)))).trans m9
  refine lv_aload_n hx hb dX12_readLevel_13 rfl (lv_at hl 0 rfl) ?_
  refine tw_get hx hb hts bF_X12 hown hK hT hr_o0 shm_0 rfl 20 (by decide) (ht_at hts 0 rfl) (fun _ h9 => h9) dX12_readLevel_14 (fun v9 m24 h9 => ?_)
  obtain ⟨rfl, hg25⟩ := h9 _ rfl
  refine lv_iload_n hx hb dX12_readLevel_17 rfl (lv_at hl 1 rfl) ?_
  refine tw_iald (i := kk) hx hb hK hT hg3 shm_21 rfl (vin_t (a := kk.toInt) rfl (by omega) (by omega)) dX12_readLevel_18 (fun v9 m26 h9 => ?_)
  obtain ⟨x27, rfl, gx27, kx27⟩ := h9
  obtain rfl : r4 = x27 := (el_same m26 m19 rfl).symm
  refine lv_if_ge (tgt := 24) hx hb dX12_readLevel_19 (by decide) (fun c28 => ?_) (fun c28 => ?_)
  · have t29 : 0 ≤ r4.toInt := ti_le c28 (by decide) rfl
    refine lv_aload_n hx hb dX12_readLevel_24 rfl (lv_at hl 0 rfl) ?_
    refine tw_get hx hb hts bF_X12 hown hK hT hr_o0 shm_0 rfl 21 (by decide) (ht_at hts 18 rfl) (fun _ h9 => h9) dX12_readLevel_25 (fun v9 m30 h9 => ?_)
    obtain ⟨rfl, hg31⟩ := h9 _ rfl
    refine lv_iload_n hx hb dX12_readLevel_28 rfl (lv_at hl 1 rfl) ?_
    refine lv_aload_n hx hb dX12_readLevel_29 rfl (lv_at hl 0 rfl) ?_
    refine lv_sipush (v := 900) hx hb dX12_readLevel_30 (by decide) ?_
    have hFc := gA_free hG hA hS
    refine va_calli (va_runV (As := [.int 900]) (rest := [.int kk, .ref (q 21)]) ⟨hx, hb, hml, hown, hts⟩ (s_number l dC dI kA adK adV G H q wZ wN wH wB wC wL wK wU wV PI im PM PT lS lB lE lN o0 900 u6 en vt N hT hr_o0 m22 m20 (by have q8 := ti_all u6; omega) (by have q8 := ti_all en; omega) (by have := (show u6.toInt = u6.toInt from rfl); have := (show en.toInt = en.toInt from rfl); omega) hN m21 hgz hgn hgh hgb hgc hgi hgu) (cwV 1 hts (goodIn_app (goodIn_r _ [16, 17, 18, 11] rfl (by decide +kernel)) (goodIn_ca (goodIn_r _ [2, 3, 4, 5, 6, 7, 8, 9, 10, 11, 12, 13, 14, 15] rfl (by decide +kernel)) (bs_in _ _))) rfl rfl rfl (by decide +kernel) ⟨(Nat.le_of_ble_eq_true rfl), (Nat.le_of_ble_eq_true rfl)⟩) ⟨fun a U g mk q => by obtain ⟨q0, q1, qK, qE⟩ := q; exact ⟨q0, q1, va_K.moved (u := U) (U := U.calling g mk a) (Vm.Alike.refl U.vm) qK, EVS.blind g mk a qE⟩, gH_rc hK hT hr_o0 shm_0 rfl, fun U hU hW => ⟨rfl, hU, va_K.moved hW.alike hK, hE.call hS hFc hU hW⟩⟩ rfl rfl hl.1 rfl (lv_room (Nat.le_of_ble_eq_true rfl)) dX12_readLevel_33 ⟨(Nat.le_of_ble_eq_true rfl), (Nat.le_of_ble_eq_true rfl)⟩) hS (fun q _ h => hFc q h) hFc (fun r32 u t H locs ht hvm hw33 hB _ _ hS => ?_)
    obtain ⟨u34, u35⟩ := u
    obtain ⟨hT, hF1, m36, m37⟩ := hB
    rw [ht] at hT hF1 m36 m37
    have m38 := (hF1.fld hr_o0 skm_0 (k := 13) (by decide) (by decide)).trans m20
    have m39 := m21.kept (hF1.arr hg1 skm_11 (by decide))
    have hF := hF.more hF1 (by decide)
    try dsimp only at hw33
    obtain ⟨h43, h44, h45, hf46, hf47, hf48⟩ := hw33
    refine tw_iast (i := kk) (x := r32) hx hb hK hT hG hS hg31 shm_22 rfl (vin_t (a := kk.toInt) rfl (by omega) (by omega)) (gi_all _) dX12_readLevel_36 (fun H locs hT oq m49 oi hS => ?_)
    have hF := hF.ast hg31 skm_22 oq (by decide)
    have m50 := (el_kept (oq _ (gne hr_o0 hg31 (by decide)))).trans m38
    have m51 := m39.kept (oq _ (gne hg1 hg31 (by decide)))
    have m53 := (el_kept (oq _ (gne hr_o0 hg31 (by decide)))).trans m36
    have m54 := (el_kept (oq _ (gne hr_o0 hg31 (by decide)))).trans m37
    refine lv_aload_n hx hb dX12_readLevel_37 rfl (lv_at hl 0 rfl) ?_
    refine tw_get hx hb hts bF_X12 hown hK hT hr_o0 shm_0 rfl 21 (by decide) (ht_at hts 18 rfl) (fun _ h9 => h9) dX12_readLevel_38 (fun v9 m55 h9 => ?_)
    obtain ⟨rfl, hg56⟩ := h9 _ rfl
    refine lv_iload_n hx hb dX12_readLevel_41 rfl (lv_at hl 1 rfl) ?_
    refine tw_iald (i := kk) hx hb hK hT hg31 shm_22 rfl (vin_t (a := kk.toInt) rfl (by omega) (by omega)) dX12_readLevel_42 (fun v9 m57 h9 => ?_)
    obtain ⟨x58, rfl, gx58, kx58⟩ := h9
    obtain rfl : r32 = x58 := (el_same m57 m49 rfl).symm
    refine lv_if_ge (tgt := 48) hx hb dX12_readLevel_43 (by decide) (fun c59 => ?_) (fun c59 => ?_)
    · have t60 : 0 ≤ r32.toInt := ti_le c59 (by decide) rfl
      refine lv_aload_n hx hb dX12_readLevel_48 rfl (lv_at hl 0 rfl) ?_
      have hFc := gA_free hG hA hS
      refine va_callv (va_runV (As := []) (rest := []) ⟨hx, hb, hml, hown, hts⟩ (s_word l dC dI kA adK adV G H q wZ wN wH wB wC wL wK wU wV PI im PM PT lS lB lE lN o0 u34 en vt N hT hr_o0 m53 m50 (by have q8 := ti_all u34; omega) (by have q8 := ti_all en; omega) (by have := (show u34.toInt = u34.toInt from rfl); have := (show en.toInt = en.toInt from rfl); omega) hN m51 hgz hgn hgh hgb hgc hgi hgu) (cwV 0 hts (goodIn_app (goodIn_r _ [21, 22, 23, 11] rfl (by decide +kernel)) (goodIn_ca (goodIn_r _ [20, 3, 4, 5, 6, 7, 8, 9, 10, 11, 12, 13, 14, 15] rfl (by decide +kernel)) (bs_in _ _))) rfl rfl rfl (by decide +kernel) ⟨(Nat.le_of_ble_eq_true rfl), (Nat.le_of_ble_eq_true rfl)⟩) ⟨fun a U g mk q => by obtain ⟨q0, q1, qK, qE⟩ := q; exact ⟨q0, q1, va_K.moved (u := U) (U := U.calling g mk a) (Vm.Alike.refl U.vm) qK, EVS.blind g mk a qE⟩, gH_rc hK hT hr_o0 shm_0 rfl, fun U hU hW => ⟨rfl, hU, va_K.moved hW.alike hK, hE.call hS hFc hU hW⟩⟩ rfl rfl hl.1 rfl (lv_room (Nat.le_of_ble_eq_true rfl)) dX12_readLevel_49 ⟨(Nat.le_of_ble_eq_true rfl), (Nat.le_of_ble_eq_true rfl)⟩) hS (fun q _ h => hFc q h) hFc (fun u t H locs ht hvm hw62 hB _ _ hS => ?_)
      obtain ⟨u63, u64⟩ := u
      obtain ⟨hT, hF1, m65, m66⟩ := hB
      rw [ht] at hT hF1 m65 m66
      have m67 := (hF1.fld hr_o0 skm_0 (k := 13) (by decide) (by decide)).trans m50
      have m68 := m51.kept (hF1.arr hg1 skm_11 (by decide))
      have hF := hF.more hF1 (by decide)
      try dsimp only at hw62
      obtain ⟨h73, h74, hf75, hf76, hf77⟩ := hw62
      refine lv_aload_n hx hb dX12_readLevel_52 rfl (lv_at hl 0 rfl) ?_
      refine tw_ldcwS hx hb hown hE.s13 dX12_readLevel_53 ?_
      have hFc := gA_free hG hA hS
      refine va_calli (va_runV (As := [.ref (adK 13)]) (rest := []) ⟨hx, hb, hml, hown, hts⟩ (s_isWord l dC dI kA adK adV G H q wZ wN wH wB wC wL wK wU wV PI im PM PT lS lB lE lN o0 u63 u64 vt 13 hT hr_o0 m65 m66 (by have q8 := ti_all u63; omega) (by have q8 := ti_all u64; omega) (by have := (show u63.toInt = u63.toInt from rfl); have := (show u64.toInt = u64.toInt from rfl); omega) (by first | omega | decide) m68 hgz hgn hgh hgb hgc hgi hgu) (cwV 1 hts (goodIn_app (goodIn_r _ [57, 58, 59, 11] rfl (by decide +kernel)) (goodIn_ca (goodIn_r _ [24, 5, 12, 25, 26, 27, 28, 29, 30, 31, 32, 33, 34, 35, 36, 7, 37, 38, 39, 40, 41, 42, 43, 44, 45, 46, 47, 48, 49, 50, 51, 52, 53, 54, 55, 56] rfl (by decide +kernel)) (bs_in _ _))) rfl rfl rfl (by decide +kernel) ⟨(Nat.le_of_ble_eq_true rfl), (Nat.le_of_ble_eq_true rfl)⟩) ⟨fun a U g mk q => by obtain ⟨q0, q1, qK, qE⟩ := q; exact ⟨q0, q1, va_K.moved (u := U) (U := U.calling g mk a) (Vm.Alike.refl U.vm) qK, EVS.blind g mk a qE⟩, gH_rc hK hT hr_o0 shm_0 rfl, fun U hU hW => ⟨rfl, hU, va_K.moved hW.alike hK, hE.call hS hFc hU hW⟩⟩ rfl rfl hl.1 rfl (lv_room (Nat.le_of_ble_eq_true rfl)) dX12_readLevel_56 ⟨(Nat.le_of_ble_eq_true rfl), (Nat.le_of_ble_eq_true rfl)⟩) hS (fun q _ h => hFc q h) hFc (fun r78 u t H locs ht hvm hw79 hB _ _ hS => ?_)
      obtain ⟨hT, hF1⟩ := hB
      rw [ht] at hT hF1
      have m80 := (hF1.fld hr_o0 skm_0 (k := 13) (by decide) (by decide)).trans m67
      have m81 := m68.kept (hF1.arr hg1 skm_11 (by decide))
      have m84 := (hF1.fld hr_o0 skm_0 (k := 12) (by decide) (by decide)).trans m65
      have m85 := (hF1.fld hr_o0 skm_0 (k := 14) (by decide) (by decide)).trans m66
      have hF := hF.more hF1 (by decide)
      try dsimp only at hw79
      obtain ⟨h86, hi87, hf88⟩ := hw79
      refine lv_if_ne (tgt := 64) hx hb dX12_readLevel_59 (by decide) (fun c89 => ?_) (fun c89 => ?_)
      · have t90 : r78.toInt ≠ 0 := ti_ne c89 rfl (by decide)
        have t91 : u63.toInt - u64.toInt = ((sLn 13 : Nat) : Int) := hi87 ((bit_of ⟨by omega, by omega⟩).resolve_left c89)
        refine lv_aload_n hx hb dX12_readLevel_64 rfl (lv_at hl 0 rfl) ?_
        refine tw_get hx hb hts bF_X12 hown hK hT hr_o0 shm_0 rfl 22 (by decide) (ht_at hts 59 rfl) (fun _ h9 => h9) dX12_readLevel_65 (fun v9 m92 h9 => ?_)
        obtain ⟨rfl, hg93⟩ := h9 _ rfl
        refine lv_iload_n hx hb dX12_readLevel_68 rfl (lv_at hl 1 rfl) ?_
        refine lv_aload_n hx hb dX12_readLevel_69 rfl (lv_at hl 0 rfl) ?_
        refine lv_bipush (v := 95) hx hb dX12_readLevel_70 (by decide) ?_
        have hFc := gA_free hG hA hS
        refine va_calli (va_runV (As := [.int 95]) (rest := [.int kk, .ref (q 22)]) ⟨hx, hb, hml, hown, hts⟩ (s_number l dC dI kA adK adV G H q wZ wN wH wB wC wL wK wU wV PI im PM PT lS lB lE lN o0 95 u63 en vt N hT hr_o0 m84 m80 (by have q8 := ti_all u63; omega) (by have q8 := ti_all en; omega) (by have := (show u63.toInt = u63.toInt from rfl); have := (show en.toInt = en.toInt from rfl); omega) hN m81 hgz hgn hgh hgb hgc hgi hgu) (cwV 1 hts (goodIn_app (goodIn_r _ [16, 17, 18, 11] rfl (by decide +kernel)) (goodIn_ca (goodIn_r _ [2, 3, 4, 5, 6, 7, 8, 9, 10, 11, 12, 13, 14, 15] rfl (by decide +kernel)) (bs_in _ _))) rfl rfl rfl (by decide +kernel) ⟨(Nat.le_of_ble_eq_true rfl), (Nat.le_of_ble_eq_true rfl)⟩) ⟨fun a U g mk q => by obtain ⟨q0, q1, qK, qE⟩ := q; exact ⟨q0, q1, va_K.moved (u := U) (U := U.calling g mk a) (Vm.Alike.refl U.vm) qK, EVS.blind g mk a qE⟩, gH_rc hK hT hr_o0 shm_0 rfl, fun U hU hW => ⟨rfl, hU, va_K.moved hW.alike hK, hE.call hS hFc hU hW⟩⟩ rfl rfl hl.1 rfl (lv_room (Nat.le_of_ble_eq_true rfl)) dX12_readLevel_72 ⟨(Nat.le_of_ble_eq_true rfl), (Nat.le_of_ble_eq_true rfl)⟩) hS (fun q _ h => hFc q h) hFc (fun r94 u t H locs ht hvm hw95 hB _ _ hS => ?_)
        obtain ⟨u96, u97⟩ := u
        obtain ⟨hT, hF1, m98, m99⟩ := hB
        rw [ht] at hT hF1 m98 m99
        have m100 := (hF1.fld hr_o0 skm_0 (k := 13) (by decide) (by decide)).trans m80
        have m101 := m81.kept (hF1.arr hg1 skm_11 (by decide))
        have hF := hF.more hF1 (by decide)
        try dsimp only at hw95
        obtain ⟨h106, h107, h108, hf109, hf110, hf111⟩ := hw95
        refine tw_iast (i := kk) (x := r94) hx hb hK hT hG hS hg93 shm_23 rfl (vin_t (a := kk.toInt) rfl (by omega) (by omega)) (gi_all _) dX12_readLevel_75 (fun H locs hT oq m112 oi hS => ?_)
        have hF := hF.ast hg93 skm_23 oq (by decide)
        have m113 := (el_kept (oq _ (gne hr_o0 hg93 (by decide)))).trans m100
        have m114 := m101.kept (oq _ (gne hg1 hg93 (by decide)))
        have m117 := (el_kept (oq _ (gne hr_o0 hg93 (by decide)))).trans m98
        have m118 := (el_kept (oq _ (gne hr_o0 hg93 (by decide)))).trans m99
        refine lv_aload_n hx hb dX12_readLevel_76 rfl (lv_at hl 0 rfl) ?_
        refine tw_get hx hb hts bF_X12 hown hK hT hr_o0 shm_0 rfl 22 (by decide) (ht_at hts 59 rfl) (fun _ h9 => h9) dX12_readLevel_77 (fun v9 m119 h9 => ?_)
        obtain ⟨rfl, hg120⟩ := h9 _ rfl
        refine lv_iload_n hx hb dX12_readLevel_80 rfl (lv_at hl 1 rfl) ?_
        refine tw_iald (i := kk) hx hb hK hT hg93 shm_23 rfl (vin_t (a := kk.toInt) rfl (by omega) (by omega)) dX12_readLevel_81 (fun v9 m121 h9 => ?_)
        obtain ⟨x122, rfl, gx122, kx122⟩ := h9
        obtain rfl : r94 = x122 := (el_same m121 m112 rfl).symm
        refine lv_if_ge (tgt := 87) hx hb dX12_readLevel_82 (by decide) (fun c123 => ?_) (fun c123 => ?_)
        · have t124 : 0 ≤ r94.toInt := ti_le c123 (by decide) rfl
          refine lv_aload_n hx hb dX12_readLevel_87 rfl (lv_at hl 0 rfl) ?_
          refine tw_get hx hb hts bF_X12 hown hK hT hr_o0 shm_0 rfl 23 (by decide) (ht_at hts 60 rfl) (fun _ h9 => h9) dX12_readLevel_88 (fun v9 m125 h9 => ?_)
          obtain ⟨rfl, hg126⟩ := h9 _ rfl
          refine lv_iload_n hx hb dX12_readLevel_91 rfl (lv_at hl 1 rfl) ?_
          refine lv_aload_n hx hb dX12_readLevel_92 rfl (lv_at hl 0 rfl) ?_
          refine lv_bipush (v := 95) hx hb dX12_readLevel_93 (by decide) ?_
          have hFc := gA_free hG hA hS
          refine va_calli (va_runV (As := [.int 95]) (rest := [.int kk, .ref (q 23)]) ⟨hx, hb, hml, hown, hts⟩ (s_number l dC dI kA adK adV G H q wZ wN wH wB wC wL wK wU wV PI im PM PT lS lB lE lN o0 95 u96 en vt N hT hr_o0 m117 m113 (by have q8 := ti_all u96; omega) (by have q8 := ti_all en; omega) (by have := (show u96.toInt = u96.toInt from rfl); have := (show en.toInt = en.toInt from rfl); omega) hN m114 hgz hgn hgh hgb hgc hgi hgu) (cwV 1 hts (goodIn_app (goodIn_r _ [16, 17, 18, 11] rfl (by decide +kernel)) (goodIn_ca (goodIn_r _ [2, 3, 4, 5, 6, 7, 8, 9, 10, 11, 12, 13, 14, 15] rfl (by decide +kernel)) (bs_in _ _))) rfl rfl rfl (by decide +kernel) ⟨(Nat.le_of_ble_eq_true rfl), (Nat.le_of_ble_eq_true rfl)⟩) ⟨fun a U g mk q => by obtain ⟨q0, q1, qK, qE⟩ := q; exact ⟨q0, q1, va_K.moved (u := U) (U := U.calling g mk a) (Vm.Alike.refl U.vm) qK, EVS.blind g mk a qE⟩, gH_rc hK hT hr_o0 shm_0 rfl, fun U hU hW => ⟨rfl, hU, va_K.moved hW.alike hK, hE.call hS hFc hU hW⟩⟩ rfl rfl hl.1 rfl (lv_room (Nat.le_of_ble_eq_true rfl)) dX12_readLevel_95 ⟨(Nat.le_of_ble_eq_true rfl), (Nat.le_of_ble_eq_true rfl)⟩) hS (fun q _ h => hFc q h) hFc (fun r127 u t H locs ht hvm hw128 hB _ _ hS => ?_)
          obtain ⟨u129, u130⟩ := u
          obtain ⟨hT, hF1, m131, m132⟩ := hB
          rw [ht] at hT hF1 m131 m132
          have hF := hF.more hF1 (by decide)
          try dsimp only at hw128
          obtain ⟨h140, h141, h142, hf143, hf144, hf145⟩ := hw128
          refine tw_iast (i := kk) (x := r127) hx hb hK hT hG hS hg126 shm_24 rfl (vin_t (a := kk.toInt) rfl (by omega) (by omega)) (gi_all _) dX12_readLevel_98 (fun H locs hT oq m146 oi hS => ?_)
          have hF := hF.ast hg126 skm_24 oq (by decide)
          have m152 := (el_kept (oq _ (gne hr_o0 hg126 (by decide)))).trans m131
          have m153 := (el_kept (oq _ (gne hr_o0 hg126 (by decide)))).trans m132
          refine lv_aload_n hx hb dX12_readLevel_99 rfl (lv_at hl 0 rfl) ?_
          refine tw_get hx hb hts bF_X12 hown hK hT hr_o0 shm_0 rfl 23 (by decide) (ht_at hts 60 rfl) (fun _ h9 => h9) dX12_readLevel_100 (fun v9 m154 h9 => ?_)
          obtain ⟨rfl, hg155⟩ := h9 _ rfl
          refine lv_iload_n hx hb dX12_readLevel_103 rfl (lv_at hl 1 rfl) ?_
          refine tw_iald (i := kk) hx hb hK hT hg126 shm_24 rfl (vin_t (a := kk.toInt) rfl (by omega) (by omega)) dX12_readLevel_104 (fun v9 m156 h9 => ?_)
          obtain ⟨x157, rfl, gx157, kx157⟩ := h9
          obtain rfl : r127 = x157 := (el_same m156 m146 rfl).symm
          refine lv_if_lt (tgt := 112) hx hb dX12_readLevel_105 (by decide) (fun c158 => ?_) (fun c158 => ?_)
          · have t159 : r127.toInt < 0 := ti_lt c158 rfl (by decide)
            refine lv_iconst (v := 0) hx hb dX12_readLevel_112 (by decide) ?_
            exact W.zret (v := 0) hx hb hr (by decide) (fun t ht hW => ⟨⟨0, (u129, u130), rfl, (by exact ⟨(by have q8 := ti_all u129; omega), (by have q8 := ti_all u130; omega), (rg_t (a := 0) (by decide) (by first | decide | omega) (by first | decide | omega)), (by omega), (by have := tn_of (show u64.toInt = u64.toInt from rfl) (by omega); have := tn_of (show u63.toInt = u63.toInt from rfl) (by omega); have := tn_of (show en.toInt = en.toInt from rfl) (by omega); have w9 := (hf88.resolve_right (fun h8 => by have := h8.1; omega)).2; rw [← hf77] at w9; obtain ⟨k1, k2⟩ := pw_1 (t := (tx vt)) (n := N) (i := 13) (by decide) (by omega) w9; rw [← hf76] at k1 k2; have t9 : tR (kd (tx vt) N) (xn (tx vt) N) 20 (skp (tx vt) N u34.toNatClampNeg) 1 (skp (tx vt) N u63.toNatClampNeg) := Or.inl ⟨k1.trans (by decide), rfl, by unfold xn; rw [k2, hf76, hf77]; rfl⟩; exact Or.inr ⟨by decide, Or.inr ⟨_, (nR_1 (h := 900) (by decide) hf18 (by omega)), Or.inr ⟨_, (nR_1 (h := 900) (by decide) hf48 (by omega)), Or.inr ⟨_, t9, Or.inr ⟨_, (nR_1 (h := 95) (by decide) hf111 (by omega)), (nR_0 (h := 95) (by decide) hf145 (by omega) hf144)⟩⟩⟩⟩⟩)⟩), by (try dsimp only); rw [ht]; exact ⟨hT, hF, m152, m153⟩⟩, hS.F ht⟩) hS.2.2 dX12_readLevel_113
          · have t160 : 0 ≤ r127.toInt := ti_nlt c158 rfl (by decide)
            refine lv_iconst (v := 1) hx hb dX12_readLevel_108 (by decide) ?_
            refine lv_goto (tgt := 113) hx hb dX12_readLevel_109 (by decide) ?_
            exact W.zret (v := 1) hx hb hr (by decide) (fun t ht hW => ⟨⟨1, (u129, u130), rfl, (by exact ⟨(by have q8 := ti_all u129; omega), (by have q8 := ti_all u130; omega), (rg_t (a := 1) (by decide) (by first | decide | omega) (by first | decide | omega)), (by omega), (by have := tn_of (show u64.toInt = u64.toInt from rfl) (by omega); have := tn_of (show u63.toInt = u63.toInt from rfl) (by omega); have := tn_of (show en.toInt = en.toInt from rfl) (by omega); have w9 := (hf88.resolve_right (fun h8 => by have := h8.1; omega)).2; rw [← hf77] at w9; obtain ⟨k1, k2⟩ := pw_1 (t := (tx vt)) (n := N) (i := 13) (by decide) (by omega) w9; rw [← hf76] at k1 k2; have t9 : tR (kd (tx vt) N) (xn (tx vt) N) 20 (skp (tx vt) N u34.toNatClampNeg) 1 (skp (tx vt) N u63.toNatClampNeg) := Or.inl ⟨k1.trans (by decide), rfl, by unfold xn; rw [k2, hf76, hf77]; rfl⟩; exact Or.inl ⟨by decide, Or.inr ⟨_, (nR_1 (h := 900) (by decide) hf18 (by omega)), Or.inr ⟨_, (nR_1 (h := 900) (by decide) hf48 (by omega)), Or.inr ⟨_, t9, Or.inr ⟨_, (nR_1 (h := 95) (by decide) hf111 (by omega)), (nR_1 (h := 95) (by decide) hf145 (by omega))⟩⟩⟩⟩⟩)⟩), by (try dsimp only); rw [ht]; exact ⟨hT, hF, m152, m153⟩⟩, hS.F ht⟩) hS.2.2 dX12_readLevel_113
        · have t161 : r94.toInt < 0 := ti_nle c123 (by decide) rfl
          refine lv_iconst (v := 0) hx hb dX12_readLevel_85 (by decide) ?_
          exact W.zret (v := 0) hx hb hr (by decide) (fun t ht hW => ⟨⟨0, (u96, u97), rfl, (by exact ⟨(by have q8 := ti_all u96; omega), (by have q8 := ti_all u97; omega), (rg_t (a := 0) (by decide) (by first | decide | omega) (by first | decide | omega)), (by omega), (by have := tn_of (show u64.toInt = u64.toInt from rfl) (by omega); have := tn_of (show u63.toInt = u63.toInt from rfl) (by omega); have := tn_of (show en.toInt = en.toInt from rfl) (by omega); have w9 := (hf88.resolve_right (fun h8 => by have := h8.1; omega)).2; rw [← hf77] at w9; obtain ⟨k1, k2⟩ := pw_1 (t := (tx vt)) (n := N) (i := 13) (by decide) (by omega) w9; rw [← hf76] at k1 k2; have t9 : tR (kd (tx vt) N) (xn (tx vt) N) 20 (skp (tx vt) N u34.toNatClampNeg) 1 (skp (tx vt) N u63.toNatClampNeg) := Or.inl ⟨k1.trans (by decide), rfl, by unfold xn; rw [k2, hf76, hf77]; rfl⟩; exact Or.inr ⟨by decide, Or.inr ⟨_, (nR_1 (h := 900) (by decide) hf18 (by omega)), Or.inr ⟨_, (nR_1 (h := 900) (by decide) hf48 (by omega)), Or.inr ⟨_, t9, Or.inl ⟨(nR_0 (h := 95) (by decide) hf111 (by omega) hf110), rfl⟩⟩⟩⟩⟩)⟩), by (try dsimp only); rw [ht]; exact ⟨hT, hF, m117, m118⟩⟩, hS.F ht⟩) hS.2.2 dX12_readLevel_86
      · have t162 : r78.toInt = 0 := ti_eq c89 rfl (by decide)
        refine lv_iconst (v := 0) hx hb dX12_readLevel_62 (by decide) ?_
        exact W.zret (v := 0) hx hb hr (by decide) (fun t ht hW => ⟨⟨0, (u63, u64), rfl, (by exact ⟨(by have q8 := ti_all u63; omega), (by have q8 := ti_all u64; omega), (rg_t (a := 0) (by decide) (by first | decide | omega) (by first | decide | omega)), (by omega), (by have := tn_of (show u64.toInt = u64.toInt from rfl) (by omega); have := tn_of (show u63.toInt = u63.toInt from rfl) (by omega); have := tn_of (show en.toInt = en.toInt from rfl) (by omega); have w9 := (hf88.resolve_left (fun h8 => by have := h8.1; omega)).2; rw [← hf77] at w9; have k1 := pw_0 (t := (tx vt)) (n := N) (i := 13) (by decide) w9; rw [← hf76] at k1; exact Or.inr ⟨by decide, Or.inr ⟨_, (nR_1 (h := 900) (by decide) hf18 (by omega)), Or.inr ⟨_, (nR_1 (h := 900) (by decide) hf48 (by omega)), Or.inl ⟨Or.inr ⟨fun h7 => k1 (h7.trans (by decide)), rfl, hf76.symm⟩, rfl⟩⟩⟩⟩)⟩), by (try dsimp only); rw [ht]; exact ⟨hT, hF, m84, m85⟩⟩, hS.F ht⟩) hS.2.2 dX12_readLevel_63
    · have t163 : r32.toInt < 0 := ti_nle c59 (by decide) rfl
      refine lv_iconst (v := 0) hx hb dX12_readLevel_46 (by decide) ?_
      exact W.zret (v := 0) hx hb hr (by decide) (fun t ht hW => ⟨⟨0, (u34, u35), rfl, (by exact ⟨(by have q8 := ti_all u34; omega), (by have q8 := ti_all u35; omega), (rg_t (a := 0) (by decide) (by first | decide | omega) (by first | decide | omega)), (by omega), (Or.inr ⟨by decide, Or.inr ⟨_, (nR_1 (h := 900) (by decide) hf18 (by omega)), Or.inl ⟨(nR_0 (h := 900) (by decide) hf48 (by omega) hf47), rfl⟩⟩⟩)⟩), by (try dsimp only); rw [ht]; exact ⟨hT, hF, m53, m54⟩⟩, hS.F ht⟩) hS.2.2 dX12_readLevel_47
  · have t164 : r4.toInt < 0 := ti_nle c28 (by decide) rfl
    refine lv_iconst (v := 0) hx hb dX12_readLevel_22 (by decide) ?_
    exact W.zret (v := 0) hx hb hr (by decide) (fun t ht hW => ⟨⟨0, (u6, u7), rfl, (by exact ⟨(by have q8 := ti_all u6; omega), (by have q8 := ti_all u7; omega), (rg_t (a := 0) (by decide) (by first | decide | omega) (by first | decide | omega)), (by omega), (Or.inr ⟨by decide, Or.inl ⟨(nR_0 (h := 900) (by decide) hf18 (by omega) hf17), rfl⟩⟩)⟩), by (try dsimp only); rw [ht]; exact ⟨hT, hF, m22, m23⟩⟩, hS.F ht⟩) hS.2.2 dX12_readLevel_23
