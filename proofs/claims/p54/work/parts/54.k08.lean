def w_c_thingAt : List Cond := .code yX4_thingAt cX4_thingAt 3 (some .int) :: (HAppend.hAppend (α := List Cond) (β := List Cond) (γ := List Cond) [.code yX4_isLetter cX4_isLetter 1 (some .boolean), .methodLink RX4 81 yX4_isLetter, .static yX4_isLetter, .initialized RX4, .code yX4_isDigit cX4_isDigit 1 (some .boolean), .methodLink RX4 84 yX4_isDigit, .static yX4_isDigit, .code yX4_signThing cX4_signThing 1 (some .int), .methodLink RX4 93 yX4_signThing, .static yX4_signThing, .code yX4_numberThing cX4_numberThing 5 (some .int), .methodLink RX4 90 yX4_numberThing, .static yX4_numberThing, .code yX4_wordThing cX4_wordThing 4 (some .int), .code yX4_factThing cX4_factThing 3 (some .int), .code yX4_wordIs cX4_wordIs 5 (some .boolean), .code yJ0_length_8abf5 cJ0_length_8abf5 1 (some .int), .fieldLink RJ0 9 "java/lang/String" "value" "[B", .code yJ0_coder_7d493 cJ0_coder_7d493 1 (some .byte), .fieldLink RJ0 38 "java/lang/String" "COMPACT_STRINGS" "Z", .fieldLink RJ0 15 "java/lang/String" "coder" "B", .methodLink RJ0 335 yJ0_coder_7d493, .instanceMethod yJ0_coder_7d493, .selects RJ0 yJ0_coder_7d493 yJ0_coder_7d493, .initialized RJ0, .methodLink RX4 155 yJ0_length_8abf5, .instanceMethod yJ0_length_8abf5, .selects RJ0 yJ0_length_8abf5 yJ0_length_8abf5, .code yJ0_charAt_5068e cJ0_charAt_5068e 2 (some .char), .code yJ0_isLatin1_aae02 cJ0_isLatin1_aae02 1 (some .boolean), .methodLink RJ0 492 yJ0_isLatin1_aae02, .instanceMethod yJ0_isLatin1_aae02, .selects RJ0 yJ0_isLatin1_aae02 yJ0_isLatin1_aae02, .code yJ1_charAt_3b067 cJ1_charAt_3b067 2 (some .char), .code yJ0_checkIndex_df160 cJ0_checkIndex_df160 2 none, .fieldLink RJ0 1053 "jdk/internal/util/Preconditions" "SIOOBE_FORMATTER" "Ljava/util/function/BiFunction;", .code yJ3_checkIndex_8e157 cJ3_checkIndex_8e157 3 (some .int), .methodLink RJ0 1059 yJ3_checkIndex_8e157, .static yJ3_checkIndex_8e157, .initialized RJ3, .methodLink RJ1 9 yJ0_checkIndex_df160, .static yJ0_checkIndex_df160, .methodLink RJ0 495 yJ1_charAt_3b067, .static yJ1_charAt_3b067, .initialized RJ1, .methodLink RX4 161 yJ0_charAt_5068e, .instanceMethod yJ0_charAt_5068e, .selects RJ0 yJ0_charAt_5068e yJ0_charAt_5068e, .methodLink RX4 105 yX4_wordIs, .static yX4_wordIs, .methodLink RX4 97 yX4_factThing, .static yX4_factThing, .code yX4_lineThing cX4_lineThing 4 (some .int), .methodLink RX4 100 yX4_lineThing, .static yX4_lineThing, .methodLink RX4 87 yX4_wordThing, .static yX4_wordThing] bs2)
set_option maxHeartbeats 4000000 in
set_option maxRecDepth 100000 in
theorem c_thingAt (l : Launch) (dC : Nat → ClassId) (dI : Nat → Nat → Nat) (kA : Nat → ClassId) (adK adV : Nat → Nat) (G : gT) (H0 : Heap) (nC nS : Int) (tx : Nat) (fr : Int32) (en : Int32)  (hT : gH (dC, dI) kA (SHc nC nS) G H0) (hr_tx : G tx = some 16) (hq0 : 0 ≤ fr.toInt ∧ fr.toInt ≤ 399) (hq1 : 0 ≤ en.toInt ∧ en.toInt ≤ 400) (hfe : fr.toInt < en.toInt) (hdgx : (∃ x : Int32, el H0 tx fr.toNatClampNeg = some (.int x) ∧ 48 ≤ x.toInt ∧ x.toInt ≤ 57) → ∀ j : Nat, fr.toInt ≤ (j : Int) → (j : Int) < en.toInt → ∃ x : Int32, el H0 tx j = some (.int x) ∧ 48 ≤ x.toInt ∧ x.toInt ≤ 57) (hgC : 0 ≤ nC ∧ nC ≤ 40) (hgS : 0 ≤ nS ∧ nS ≤ 60) : Met l yX4_thingAt w_c_thingAt ({ frames := 7, cells := 0, slots := 0, locals := 155 }) (va_Pc [.ref tx, .int fr, .int en] (fun U => U.heap = H0 ∧ va_K (dC, dI) vwCl (tyl kA) U ∧ EVC adK adV (gA G H0.size) U U.heap)) (va_Qi (fun (r : Int32) (u : Unit) => (0 ≤ r.toInt ∧ r.toInt ≤ 100039)) (fun (_ : Unit) (t : State) => gH (dC, dI) kA (SHc nC nS) G t.heap ∧ gF (dC, dI) SKc G ([] : List (Nat × Nat)) H0 t.heap) (gA G H0.size)) 0 0 (gA G H0.size) := by
  refine Met.ofW (cc := cX4_thingAt) (maxL := 3) (ret := (some .int)) (by decide) rfl ?_
  intro p e s m args below meth c s₁ B hml hv
  obtain ⟨rfl, hH0, hK, hE⟩ := hv
  have hx := B.exec
  have hb := B.bytes
  have hr := B.returns
  have hts := atoms_spec (ws := w_c_thingAt) B.pre
  have hown : s.vm.findClass RX4 = some m.cls := findClass_of_methodNamed B.named
  have hlocks := B.notSynchronized
  subst hH0
  generalize hAe : gA G s.heap.size = A at hE ⊢
  have hA : ∀ q : Nat, s.heap.size ≤ q → A q := fun q h => by rw [← hAe]; exact Or.inr h
  have hG := gA_of hAe
  have hS : va_S A s.heap s.heap [] := va_S.rf
  have hF : gF (dC, dI) SKc G ([] : List (Nat × Nat)) s.heap s.heap := gF.rf
  have hl := lv_entry ([.ref tx, .int fr, .int en]) (n := 3) (Nat.le_of_ble_eq_true rfl)
  rw [lg_entry_eq]
  generalize (lg_sl ([.ref tx, .int fr, .int en]) ++ List.replicate (3 - (lg_sl ([.ref tx, .int fr, .int en])).length) Slot.unset).toArray = ls at hl ⊢
  have hl : lv_has ls 3 [(0, .ref tx), (1, .int fr), (2, .int en)] := hl
  refine lv_aload_n hx hb dX4_thingAt_0 rfl (lv_at hl 0 rfl) ?_
  refine lv_iload_n hx hb dX4_thingAt_1 rfl (lv_at hl 1 rfl) ?_
  refine tw_iald (i := fr) hx hb hK hT hr_tx shc_16 rfl (vin_t (a := fr.toInt) rfl (by omega) (by omega)) dX4_thingAt_2 (fun v9 m1 h9 => ?_)
  obtain ⟨x2, rfl, gx2, kx2⟩ := h9
  have hFc := gA_free hG hA hS
  refine va_calli (va_runS (As := [.int x2]) (rest := []) ⟨hx, hb, hml, hown, hts⟩ (c_isLetter l dC dI kA adK adV G s.heap nC nS x2 hT (by omega) (by omega)) (va_cwS 1 hts (goodIn_app (goodIn_r _ [2, 3, 4] rfl (by decide +kernel)) (goodIn_ca (goodIn_r _ [1] rfl (by decide +kernel)) (bs2_in _ _))) rfl rfl rfl (by decide +kernel) ⟨(Nat.le_of_ble_eq_true rfl), (Nat.le_of_ble_eq_true rfl)⟩) ⟨fun a U g mk q => by obtain ⟨q0, q1, qK, qE⟩ := q; exact ⟨q0, q1, va_K.moved (u := U) (U := U.calling g mk a) (Vm.Alike.refl U.vm) qK, EVC.blind g mk a qE⟩, fun U hU hW => ⟨rfl, hU, va_K.moved hW.alike hK, hE.call hS hFc hU hW⟩⟩ rfl rfl hl.1 rfl (lv_room (Nat.le_of_ble_eq_true rfl)) dX4_thingAt_3 ⟨(Nat.le_of_ble_eq_true rfl), (Nat.le_of_ble_eq_true rfl)⟩) hS (fun q _ h => hFc q h) hFc (fun r3 u t H locs ht hvm hw4 hB _ _ hS => ?_)
  obtain ⟨hT, hF1⟩ := hB
  rw [ht] at hT hF1
  have m5 := (el_kept (hF1.arr hr_tx skc_16 (by decide))).trans m1
  have hF := hF.more hF1 (by decide)
  try dsimp only at hw4
  obtain ⟨h6, hf7⟩ := hw4
  refine lv_if_eq (tgt := 16) hx hb dX4_thingAt_6 (by decide) (fun c8 => ?_) (fun c8 => ?_)
  · have t9 : r3.toInt = 0 := ti_eq c8 rfl (by decide)
    refine lv_aload_n hx hb dX4_thingAt_16 rfl (lv_at hl 0 rfl) ?_
    refine lv_iload_n hx hb dX4_thingAt_17 rfl (lv_at hl 1 rfl) ?_
    refine tw_iald (i := fr) hx hb hK hT hr_tx shc_16 rfl (vin_t (a := fr.toInt) rfl (by omega) (by omega)) dX4_thingAt_18 (fun v9 m10 h9 => ?_)
    obtain ⟨x11, rfl, gx11, kx11⟩ := h9
    obtain rfl : x2 = x11 := (el_same m10 m5 rfl).symm
    have hFc := gA_free hG hA hS
    refine va_calli (va_runS (As := [.int x2]) (rest := []) ⟨hx, hb, hml, hown, hts⟩ (c_isDigit l dC dI kA adK adV G H nC nS x2 hT (by omega) (by omega)) (va_cwS 1 hts (goodIn_app (goodIn_r _ [6, 7, 4] rfl (by decide +kernel)) (goodIn_ca (goodIn_r _ [5] rfl (by decide +kernel)) (bs2_in _ _))) rfl rfl rfl (by decide +kernel) ⟨(Nat.le_of_ble_eq_true rfl), (Nat.le_of_ble_eq_true rfl)⟩) ⟨fun a U g mk q => by obtain ⟨q0, q1, qK, qE⟩ := q; exact ⟨q0, q1, va_K.moved (u := U) (U := U.calling g mk a) (Vm.Alike.refl U.vm) qK, EVC.blind g mk a qE⟩, fun U hU hW => ⟨rfl, hU, va_K.moved hW.alike hK, hE.call hS hFc hU hW⟩⟩ rfl rfl hl.1 rfl (lv_room (Nat.le_of_ble_eq_true rfl)) dX4_thingAt_19 ⟨(Nat.le_of_ble_eq_true rfl), (Nat.le_of_ble_eq_true rfl)⟩) hS (fun q _ h => hFc q h) hFc (fun r12 u t H locs ht hvm hw13 hB _ _ hS => ?_)
    obtain ⟨hT, hF1⟩ := hB
    rw [ht] at hT hF1
    have m14 := (el_kept (hF1.arr hr_tx skc_16 (by decide))).trans m5
    have hF := hF.more hF1 (by decide)
    try dsimp only at hw13
    obtain ⟨h15, hf16⟩ := hw13
    refine lv_if_eq (tgt := 34) hx hb dX4_thingAt_22 (by decide) (fun c17 => ?_) (fun c17 => ?_)
    · have t18 : r12.toInt = 0 := ti_eq c17 rfl (by decide)
      refine lv_aload_n hx hb dX4_thingAt_34 rfl (lv_at hl 0 rfl) ?_
      refine lv_iload_n hx hb dX4_thingAt_35 rfl (lv_at hl 1 rfl) ?_
      refine tw_iald (i := fr) hx hb hK hT hr_tx shc_16 rfl (vin_t (a := fr.toInt) rfl (by omega) (by omega)) dX4_thingAt_36 (fun v9 m19 h9 => ?_)
      obtain ⟨x20, rfl, gx20, kx20⟩ := h9
      obtain rfl : x2 = x20 := (el_same m19 m14 rfl).symm
      have hFc := gA_free hG hA hS
      refine va_calli (va_runS (As := [.int x2]) (rest := []) ⟨hx, hb, hml, hown, hts⟩ (c_signThing l dC dI kA adK adV G H nC nS x2 hT (by omega) (by omega)) (va_cwS 1 hts (goodIn_app (goodIn_r _ [9, 10, 4] rfl (by decide +kernel)) (goodIn_ca (goodIn_r _ [8] rfl (by decide +kernel)) (bs2_in _ _))) rfl rfl rfl (by decide +kernel) ⟨(Nat.le_of_ble_eq_true rfl), (Nat.le_of_ble_eq_true rfl)⟩) ⟨fun a U g mk q => by obtain ⟨q0, q1, qK, qE⟩ := q; exact ⟨q0, q1, va_K.moved (u := U) (U := U.calling g mk a) (Vm.Alike.refl U.vm) qK, EVC.blind g mk a qE⟩, fun U hU hW => ⟨rfl, hU, va_K.moved hW.alike hK, hE.call hS hFc hU hW⟩⟩ rfl rfl hl.1 rfl (lv_room (Nat.le_of_ble_eq_true rfl)) dX4_thingAt_37 ⟨(Nat.le_of_ble_eq_true rfl), (Nat.le_of_ble_eq_true rfl)⟩) hS (fun q _ h => hFc q h) hFc (fun r21 u t H locs ht hvm hw22 hB _ _ hS => ?_)
      obtain ⟨hT, hF1⟩ := hB
      rw [ht] at hT hF1
      have hF := hF.more hF1 (by decide)
      try dsimp only at hw22
      have h24 := hw22
      exact W.iret (v := r21) hx hb hr (fun t ht hW => ⟨⟨r21, (), rfl, (by exact (by have q8 := ti_all r21; omega)), by (try dsimp only); rw [ht]; exact ⟨hT, hF⟩⟩, hS.F ht⟩) hS.2.2 dX4_thingAt_40
    · have t25 : r12.toInt ≠ 0 := ti_ne c17 rfl (by decide)
      refine lv_aload_n hx hb dX4_thingAt_25 rfl (lv_at hl 0 rfl) ?_
      refine lv_iload_n hx hb dX4_thingAt_26 rfl (lv_at hl 1 rfl) ?_
      refine lv_iload_n hx hb dX4_thingAt_27 rfl (lv_at hl 2 rfl) ?_
      have hFc := gA_free hG hA hS
      refine va_calli (va_runS (As := [.ref tx, .int fr, .int en]) (rest := []) ⟨hx, hb, hml, hown, hts⟩ (c_numberThing l dC dI kA adK adV G H nC nS tx fr en hT hr_tx (by have q8 := ti_all fr; omega) (by have q8 := ti_all en; omega) (by have := (show fr.toInt = fr.toInt from rfl); have := (show en.toInt = en.toInt from rfl); omega) (fun j h8 h7 => by obtain ⟨x9, e9, a9, b9⟩ := hdgx ⟨x2, by rw [tn_same (i := fr) (j := fr) rfl (show fr.toInt = fr.toInt from rfl) (by omega)]; exact (el_kept (hF.arr hr_tx skc_16 (by decide))).symm.trans m14, by omega, by omega⟩ j h8 h7; exact ⟨x9, (el_kept (hF.arr hr_tx skc_16 (by decide))).trans e9, a9, b9⟩) (by omega) (by omega)) (va_cwS 3 hts (goodIn_app (goodIn_r _ [12, 13, 4] rfl (by decide +kernel)) (goodIn_ca (goodIn_r _ [11] rfl (by decide +kernel)) (bs2_in _ _))) rfl rfl rfl (by decide +kernel) ⟨(Nat.le_of_ble_eq_true rfl), (Nat.le_of_ble_eq_true rfl)⟩) ⟨fun a U g mk q => by obtain ⟨q0, q1, qK, qE⟩ := q; exact ⟨q0, q1, va_K.moved (u := U) (U := U.calling g mk a) (Vm.Alike.refl U.vm) qK, EVC.blind g mk a qE⟩, fun U hU hW => ⟨rfl, hU, va_K.moved hW.alike hK, hE.call hS hFc hU hW⟩⟩ rfl rfl hl.1 rfl (lv_room (Nat.le_of_ble_eq_true rfl)) dX4_thingAt_28 ⟨(Nat.le_of_ble_eq_true rfl), (Nat.le_of_ble_eq_true rfl)⟩) hS (fun q _ h => hFc q h) hFc (fun r26 u t H locs ht hvm hw27 hB _ _ hS => ?_)
      obtain ⟨hT, hF1⟩ := hB
      rw [ht] at hT hF1
      have hF := hF.more hF1 (by decide)
      try dsimp only at hw27
      have h29 := hw27
      refine lv_goto (tgt := 40) hx hb dX4_thingAt_31 (by decide) ?_
      exact W.iret (v := r26) hx hb hr (fun t ht hW => ⟨⟨r26, (), rfl, (by exact (by have q8 := ti_all r26; omega)), by (try dsimp only); rw [ht]; exact ⟨hT, hF⟩⟩, hS.F ht⟩) hS.2.2 dX4_thingAt_40
  · have t30 : r3.toInt ≠ 0 := ti_ne c8 rfl (by decide)
    refine lv_aload_n hx hb dX4_thingAt_9 rfl (lv_at hl 0 rfl) ?_
    refine lv_iload_n hx hb dX4_thingAt_10 rfl (lv_at hl 1 rfl) ?_
    refine lv_iload_n hx hb dX4_thingAt_11 rfl (lv_at hl 2 rfl) ?_
    have hFc := gA_free hG hA hS
    refine va_calli (va_runS (As := [.ref tx, .int fr, .int en]) (rest := []) ⟨hx, hb, hml, hown, hts⟩ (c_wordThing l dC dI kA adK adV G H nC nS tx fr en hT hr_tx (by have q8 := ti_all fr; omega) (by have q8 := ti_all en; omega) (by have := (show fr.toInt = fr.toInt from rfl); have := (show en.toInt = en.toInt from rfl); omega) (by omega) (by omega)) (va_cwS 3 hts (goodIn_app (goodIn_r _ [56, 57, 4] rfl (by decide +kernel)) (goodIn_ca (goodIn_r _ [14, 15, 16, 17, 18, 19, 20, 21, 22, 23, 24, 25, 26, 27, 28, 29, 30, 31, 32, 33, 34, 35, 36, 37, 38, 39, 40, 41, 42, 43, 44, 45, 46, 47, 48, 49, 50, 4, 51, 52, 53, 54, 55] rfl (by decide +kernel)) (bs2_in _ _))) rfl rfl rfl (by decide +kernel) ⟨(Nat.le_of_ble_eq_true rfl), (Nat.le_of_ble_eq_true rfl)⟩) ⟨fun a U g mk q => by obtain ⟨q0, q1, qK, qE⟩ := q; exact ⟨q0, q1, va_K.moved (u := U) (U := U.calling g mk a) (Vm.Alike.refl U.vm) qK, EVC.blind g mk a qE⟩, fun U hU hW => ⟨rfl, hU, va_K.moved hW.alike hK, hE.call hS hFc hU hW⟩⟩ rfl rfl hl.1 rfl (lv_room (Nat.le_of_ble_eq_true rfl)) dX4_thingAt_12 ⟨(Nat.le_of_ble_eq_true rfl), (Nat.le_of_ble_eq_true rfl)⟩) hS (fun q _ h => hFc q h) hFc (fun r31 u t H locs ht hvm hw32 hB _ _ hS => ?_)
    obtain ⟨hT, hF1⟩ := hB
    rw [ht] at hT hF1
    have hF := hF.more hF1 (by decide)
    try dsimp only at hw32
    have h34 := hw32
    exact W.iret (v := r31) hx hb hr (fun t ht hW => ⟨⟨r31, (), rfl, (by exact (by have q8 := ti_all r31; omega)), by (try dsimp only); rw [ht]; exact ⟨hT, hF⟩⟩, hS.F ht⟩) hS.2.2 dX4_thingAt_15
def w_c_scan : List Cond := .code yX4_scan cX4_scan 6 none :: (HAppend.hAppend (α := List Cond) (β := List Cond) (γ := List Cond) [.code yX4_thingEnd cX4_thingEnd 6 (some .int), .code yX4_isLetter cX4_isLetter 1 (some .boolean), .methodLink RX4 81 yX4_isLetter, .static yX4_isLetter, .initialized RX4, .code yX4_isDigit cX4_isDigit 1 (some .boolean), .methodLink RX4 84 yX4_isDigit, .static yX4_isDigit, .methodLink RX4 74 yX4_thingEnd, .static yX4_thingEnd, .fieldLink RX4 11 "SeaLand$Law" "things" "[I", .code yX4_thingAt cX4_thingAt 3 (some .int), .code yX4_signThing cX4_signThing 1 (some .int), .methodLink RX4 93 yX4_signThing, .static yX4_signThing, .code yX4_numberThing cX4_numberThing 5 (some .int), .methodLink RX4 90 yX4_numberThing, .static yX4_numberThing, .code yX4_wordThing cX4_wordThing 4 (some .int), .code yX4_factThing cX4_factThing 3 (some .int), .code yX4_wordIs cX4_wordIs 5 (some .boolean), .code yJ0_length_8abf5 cJ0_length_8abf5 1 (some .int), .fieldLink RJ0 9 "java/lang/String" "value" "[B", .code yJ0_coder_7d493 cJ0_coder_7d493 1 (some .byte), .fieldLink RJ0 38 "java/lang/String" "COMPACT_STRINGS" "Z", .fieldLink RJ0 15 "java/lang/String" "coder" "B", .methodLink RJ0 335 yJ0_coder_7d493, .instanceMethod yJ0_coder_7d493, .selects RJ0 yJ0_coder_7d493 yJ0_coder_7d493, .initialized RJ0, .methodLink RX4 155 yJ0_length_8abf5, .instanceMethod yJ0_length_8abf5, .selects RJ0 yJ0_length_8abf5 yJ0_length_8abf5, .code yJ0_charAt_5068e cJ0_charAt_5068e 2 (some .char), .code yJ0_isLatin1_aae02 cJ0_isLatin1_aae02 1 (some .boolean), .methodLink RJ0 492 yJ0_isLatin1_aae02, .instanceMethod yJ0_isLatin1_aae02, .selects RJ0 yJ0_isLatin1_aae02 yJ0_isLatin1_aae02, .code yJ1_charAt_3b067 cJ1_charAt_3b067 2 (some .char), .code yJ0_checkIndex_df160 cJ0_checkIndex_df160 2 none, .fieldLink RJ0 1053 "jdk/internal/util/Preconditions" "SIOOBE_FORMATTER" "Ljava/util/function/BiFunction;", .code yJ3_checkIndex_8e157 cJ3_checkIndex_8e157 3 (some .int), .methodLink RJ0 1059 yJ3_checkIndex_8e157, .static yJ3_checkIndex_8e157, .initialized RJ3, .methodLink RJ1 9 yJ0_checkIndex_df160, .static yJ0_checkIndex_df160, .methodLink RJ0 495 yJ1_charAt_3b067, .static yJ1_charAt_3b067, .initialized RJ1, .methodLink RX4 161 yJ0_charAt_5068e, .instanceMethod yJ0_charAt_5068e, .selects RJ0 yJ0_charAt_5068e yJ0_charAt_5068e, .methodLink RX4 105 yX4_wordIs, .static yX4_wordIs, .methodLink RX4 97 yX4_factThing, .static yX4_factThing, .code yX4_lineThing cX4_lineThing 4 (some .int), .methodLink RX4 100 yX4_lineThing, .static yX4_lineThing, .methodLink RX4 87 yX4_wordThing, .static yX4_wordThing, .methodLink RX4 78 yX4_thingAt, .static yX4_thingAt, .fieldLink RX4 15 "SeaLand$Law" "begins" "[I"] bs2)
set_option maxHeartbeats 4000000 in
set_option maxRecDepth 100000 in
theorem c_scan (l : Launch) (dC : Nat → ClassId) (dI : Nat → Nat → Nat) (kA : Nat → ClassId) (adK adV : Nat → Nat) (G : gT) (H0 : Heap) (nC nS : Int) (o0 : Nat) (tx : Nat) (le : Int32) (th : Nat)  (hT : gH (dC, dI) kA (SHc nC nS) G H0) (hr_tx : G tx = some 16) (hr_o0 : G o0 = some 7) (hm_th : el H0 o0 (dI 7 0) = some (.ref th)) (hr_th : G th = some 40) (hq0 : 0 ≤ le.toInt ∧ le.toInt ≤ 400) (hgC : 0 ≤ nC ∧ nC ≤ 40) (hgS : 0 ≤ nS ∧ nS ≤ 60) : Met l yX4_scan w_c_scan ({ frames := 8, cells := 0, slots := 0, locals := 177 }) (va_Pc [.ref o0, .ref tx, .int le] (fun U => U.heap = H0 ∧ va_K (dC, dI) vwCl (tyl kA) U ∧ EVC adK adV (gA G H0.size) U U.heap)) (va_Qv (fun (u : Int32) => (0 ≤ u.toInt ∧ u.toInt ≤ 400)) (fun (tn : Int32) (t : State) => gH (dC, dI) kA (SHc nC nS) G t.heap ∧ gF (dC, dI) SKc G ([(40, 0), (41, 0)] : List (Nat × Nat)) H0 t.heap ∧ el t.heap th tn.toNatClampNeg = some (.int 21)) (gA G H0.size)) 0 0 (gA G H0.size) := by
  refine Met.ofW (cc := cX4_scan) (maxL := 6) (ret := none) (by decide) rfl ?_
  intro p e s m args below meth c s₁ B hml hv
  obtain ⟨rfl, hH0, hK, hE⟩ := hv
  have hx := B.exec
  have hb := B.bytes
  have hr := B.returns
  have hts := atoms_spec (ws := w_c_scan) B.pre
  have hown : s.vm.findClass RX4 = some m.cls := findClass_of_methodNamed B.named
  have hlocks := B.notSynchronized
  subst hH0
  generalize hAe : gA G s.heap.size = A at hE ⊢
  have hA : ∀ q : Nat, s.heap.size ≤ q → A q := fun q h => by rw [← hAe]; exact Or.inr h
  have hG := gA_of hAe
  have hS : va_S A s.heap s.heap [] := va_S.rf
  have hF : gF (dC, dI) SKc G ([(40, 0), (41, 0)] : List (Nat × Nat)) s.heap s.heap := gF.rf
  have hl := lv_entry ([.ref o0, .ref tx, .int le]) (n := 6) (Nat.le_of_ble_eq_true rfl)
  rw [lg_entry_eq]
  generalize (lg_sl ([.ref o0, .ref tx, .int le]) ++ List.replicate (6 - (lg_sl ([.ref o0, .ref tx, .int le])).length) Slot.unset).toArray = ls at hl ⊢
  have hl : lv_has ls 6 [(0, .ref o0), (1, .ref tx), (2, .int le)] := hl
  refine lv_iconst (v := 0) hx hb dX4_scan_0 (by decide) ?_
  refine lv_istore_n (lv' := [(3, .int 0), (0, .ref o0), (1, .ref tx), (2, .int le)]) hx hb dX4_scan_1 rfl hl (by decide) rfl (fun ls hl => ?_)
  refine lv_iconst (v := 0) hx hb dX4_scan_2 (by decide) ?_
  refine lv_istore (lv' := [(4, .int 0), (3, .int 0), (0, .ref o0), (1, .ref tx), (2, .int le)]) hx hb dX4_scan_3 hl (by decide) rfl (fun ls hl => ?_)
  refine lv_iconst (v := 0) hx hb dX4_scan_5 (by decide) ?_
  refine lv_istore (lv' := [(5, .int 0), (4, .int 0), (3, .int 0), (0, .ref o0), (1, .ref tx), (2, .int le)]) hx hb dX4_scan_6 hl (by decide) rfl (fun ls hl => ?_)
  have jn134 : ∀ (z127 : Int32), ∀ (z129 : Int32), ∀ (z131 : Int32), ((0 ≤ z127.toInt ∧ z127.toInt ≤ 400) ∧ (0 ≤ z129.toInt ∧ z129.toInt ≤ 400) ∧ (0 ≤ z131.toInt ∧ z131.toInt ≤ 400)) → ∀ (H : Heap) (locs : List Loc), gH (dC, dI) kA (SHc nC nS) G H → gF (dC, dI) SKc G ([(40, 0), (41, 0)] : List (Nat × Nat)) s.heap H → va_S A s.heap H locs → el H o0 (dI 7 0) = some (.ref th) → ∀ ls : Array Slot, lv_has ls 6 [(5, .int z127), (4, .int z129), (3, .int z131), (0, .ref o0), (1, .ref tx), (2, .int le)] → W p l e (headSpec w_c_scan ({ frames := 8, cells := 0, slots := 0, locals := 177 })).room s m #[.ref o0, .ref tx, .int le] below meth c H locs 0 0 (MQ below (va_Qv (fun (u : Int32) => (0 ≤ u.toInt ∧ u.toInt ≤ 400)) (fun (tn : Int32) (t : State) => gH (dC, dI) kA (SHc nC nS) G t.heap ∧ gF (dC, dI) SKc G ([(40, 0), (41, 0)] : List (Nat × Nat)) s.heap t.heap ∧ el t.heap th tn.toNatClampNeg = some (.int 21)) A) #[.ref o0, .ref tx, .int le] s 0 0 A) (F0 m 70 ls []) := by
    intro z127 z129 z131 ⟨h128, h130, h132⟩ H locs hT hF hS m133 ls hl
    refine lv_aload_n hx hb dX4_scan_70 rfl (lv_at hl 3 rfl) ?_
    refine tw_getM (v := .ref th) hx hb hts bF2_X4 hown hK hT hr_o0 shc_7 rfl 0 (by decide) (ht_at2 hts 10 rfl) (fun _ h9 => h9) m133 dX4_scan_71 ?_
    refine lv_iload_n hx hb dX4_scan_74 rfl (lv_at hl 2 rfl) ?_
    refine lv_bipush (v := 21) hx hb dX4_scan_75 (by decide) ?_
    refine tw_iast (i := z131) (x := 21) hx hb hK hT hG hS hr_th shc_40 rfl (vin_t (a := z131.toInt) rfl (by omega) (by omega)) (gi_of (show (21 : Int32).toInt = 21 from (by decide)) (by first | decide | omega) (by first | decide | omega)) dX4_scan_77 (fun H locs hT oq m135 oi hS => ?_)
    have hF := hF.ast hr_th skc_40 oq (by decide)
    refine lv_aload_n hx hb dX4_scan_78 rfl (lv_at hl 3 rfl) ?_
    refine tw_get hx hb hts bF2_X4 hown hK hT hr_o0 shc_7 rfl 1 (by decide) (ht_at2 hts 64 rfl) (fun _ h9 => h9) dX4_scan_79 (fun v9 m137 h9 => ?_)
    obtain ⟨b138, rfl, hg139⟩ := h9 _ rfl
    refine lv_iload_n hx hb dX4_scan_82 rfl (lv_at hl 2 rfl) ?_
    refine lv_iload_n hx hb dX4_scan_83 rfl (lv_at hl 5 rfl) ?_
    refine tw_iast (i := z131) (x := le) hx hb hK hT hG hS hg139 shc_41 rfl (vin_t (a := z131.toInt) rfl (by omega) (by omega)) (gi_all _) dX4_scan_84 (fun H locs hT oq m140 oi hS => ?_)
    have hF := hF.ast hg139 skc_41 oq (by decide)
    have m142 := (el_kept (oq _ (gne hr_th hg139 (by decide)))).trans m135
    exact W.vret hx hb hr (fun t ht hW => ⟨⟨z131, rfl, (by exact (by have q8 := ti_all z131; omega)), by (try dsimp only); rw [ht]; exact ⟨hT, hF, m142⟩⟩, hS.F ht⟩) hS.2.2 dX4_scan_85
  have key144 : ∀ (n144 i1 : Nat), i1 + n144 = 400 → 0 ≤ i1 → ∀ (z2 : Int32), ∀ (z4 : Int32), ((0 ≤ z2.toInt ∧ z2.toInt ≤ 400) ∧ (0 ≤ z4.toInt ∧ z4.toInt ≤ 400) ∧ (z4.toInt ≤ ((i1 : Nat) : Int))) → ∀ (H : Heap) (locs : List Loc), gH (dC, dI) kA (SHc nC nS) G H → gF (dC, dI) SKc G ([(40, 0), (41, 0)] : List (Nat × Nat)) s.heap H → va_S A s.heap H locs → el H o0 (dI 7 0) = some (.ref th) → ∀ ls : Array Slot, lv_has ls 6 [(5, .int (nI i1)), (4, .int z2), (3, .int z4), (0, .ref o0), (1, .ref tx), (2, .int le)] → W p l e (headSpec w_c_scan ({ frames := 8, cells := 0, slots := 0, locals := 177 })).room s m #[.ref o0, .ref tx, .int le] below meth c H locs 0 0 (MQ below (va_Qv (fun (u : Int32) => (0 ≤ u.toInt ∧ u.toInt ≤ 400)) (fun (tn : Int32) (t : State) => gH (dC, dI) kA (SHc nC nS) G t.heap ∧ gF (dC, dI) SKc G ([(40, 0), (41, 0)] : List (Nat × Nat)) s.heap t.heap ∧ el t.heap th tn.toNatClampNeg = some (.int 21)) A) #[.ref o0, .ref tx, .int le] s 0 0 A) (F0 m 8 ls []) := by
    intro n144
    induction n144 with
    | zero =>
      intro i1 hn144 hlo145 z2 z4 ⟨h3, h5, hj7⟩ H locs hT hF hS m6 ls hl
      obtain rfl : 400 = i1 := by omega
      refine lv_iload hx hb dX4_scan_8 (lv_at hl 0 rfl) ?_
      refine lv_iload_n hx hb dX4_scan_10 rfl (lv_at hl 5 rfl) ?_
      refine lv_icmp_ge (tgt := 70) hx hb dX4_scan_11 (by decide) (fun c146 => ?_) (fun c146 => (by exfalso; have q9 : ((400 : Nat) : Int) < le.toInt := ti_nle c146 rfl (nI_toInt (by omega)); omega))
      have t147 : le.toInt ≤ ((400 : Nat) : Int) := ti_le c146 rfl (nI_toInt (by omega))
      exact jn134 (nI 400) z2 z4 ⟨(rg_t (a := ((400 : Nat) : Int)) (nI_toInt (by omega)) (by omega) (by omega)), (by have q8 := ti_all z2; omega), (by have q9 := (show z4.toInt = z4.toInt from rfl); (try have q8 := ti_all z4); omega)⟩ _ _ hT hF hS m6 ls (lv_sub hl [0, 1, 2, 3, 4, 5] rfl)
    | succ n144 ih144 =>
      intro i1 hn144 hlo145 z2 z4 ⟨h3, h5, hj7⟩ H locs hT hF hS m6 ls hl
      have hlt147 : i1 < 400 := by omega
      refine lv_iload hx hb dX4_scan_8 (lv_at hl 0 rfl) ?_
      refine lv_iload_n hx hb dX4_scan_10 rfl (lv_at hl 5 rfl) ?_
      refine lv_icmp_ge (tgt := 70) hx hb dX4_scan_11 (by decide) (fun c148 => ?_) (fun c148 => ?_)
      · have t149 : le.toInt ≤ ((i1 : Nat) : Int) := ti_le c148 rfl (nI_toInt (by omega))
        exact jn134 (nI i1) z2 z4 ⟨(rg_t (a := ((i1 : Nat) : Int)) (nI_toInt (by omega)) (by omega) (by omega)), (by have q8 := ti_all z2; omega), (by have q9 := (show z4.toInt = z4.toInt from rfl); (try have q8 := ti_all z4); omega)⟩ _ _ hT hF hS m6 ls (lv_sub hl [0, 1, 2, 3, 4, 5] rfl)
      · have t150 : ((i1 : Nat) : Int) < le.toInt := ti_nle c148 rfl (nI_toInt (by omega))
        refine lv_iload hx hb dX4_scan_14 (lv_at hl 0 rfl) ?_
        refine lv_iload hx hb dX4_scan_16 (lv_at hl 1 rfl) ?_
        refine lv_icmp_lt (tgt := 64) hx hb dX4_scan_18 (by decide) (fun c151 => ?_) (fun c151 => ?_)
        · have t152 : ((i1 : Nat) : Int) < z2.toInt := ti_lt c151 (nI_toInt (by omega)) rfl
          refine lv_iinc (v := nI (i1 + 1)) (lv' := [(5, .int (nI (i1 + 1))), (4, .int z2), (3, .int z4), (0, .ref o0), (1, .ref tx), (2, .int le)]) hx hb dX4_scan_64 hl (k := 0) rfl (nI_add i1 1) (by decide) rfl (fun ls hl => ?_)
          refine lv_goto (tgt := 8) hx hb dX4_scan_67 (by decide) ?_
          exact ih144 (i1 + 1) (by omega) (by omega) z2 z4 ⟨(by have q8 := ti_all z2; omega), (by have q9 := (show z4.toInt = z4.toInt from rfl); (try have q8 := ti_all z4); omega), (by have := (show z4.toInt = z4.toInt from rfl); omega)⟩ _ _ hT hF hS m6 ls (lv_sub hl [0, 1, 2, 3, 4, 5] rfl)
        · have t153 : z2.toInt ≤ ((i1 : Nat) : Int) := ti_nlt c151 (nI_toInt (by omega)) rfl
          refine lv_aload_n hx hb dX4_scan_21 rfl (lv_at hl 4 rfl) ?_
          refine lv_iload hx hb dX4_scan_22 (lv_at hl 0 rfl) ?_
          refine tw_iald (i := (nI i1)) hx hb hK hT hr_tx shc_16 rfl (vp_in_nI (by omega) (by decide)) dX4_scan_24 (fun v9 m154 h9 => ?_)
          obtain ⟨x155, rfl, gx155, kx155⟩ := h9
          refine lv_bipush (v := 32) hx hb dX4_scan_25 (by decide) ?_
          refine lv_icmp_eq (tgt := 64) hx hb dX4_scan_27 (by decide) (fun c156 => ?_) (fun c156 => ?_)
          · have t157 : x155.toInt = 32 := ti_eq c156 rfl (by decide)
            refine lv_iinc (v := nI (i1 + 1)) (lv' := [(5, .int (nI (i1 + 1))), (4, .int z2), (3, .int z4), (0, .ref o0), (1, .ref tx), (2, .int le)]) hx hb dX4_scan_64 hl (k := 0) rfl (nI_add i1 1) (by decide) rfl (fun ls hl => ?_)
            refine lv_goto (tgt := 8) hx hb dX4_scan_67 (by decide) ?_
            exact ih144 (i1 + 1) (by omega) (by omega) z2 z4 ⟨(by have q8 := ti_all z2; omega), (by have q9 := (show z4.toInt = z4.toInt from rfl); (try have q8 := ti_all z4); omega), (by have := (show z4.toInt = z4.toInt from rfl); omega)⟩ _ _ hT hF hS m6 ls (lv_sub hl [0, 1, 2, 3, 4, 5] rfl)
          · have t158 : x155.toInt ≠ 32 := ti_ne c156 rfl (by decide)
            refine lv_aload_n hx hb dX4_scan_30 rfl (lv_at hl 4 rfl) ?_
            refine lv_iload hx hb dX4_scan_31 (lv_at hl 0 rfl) ?_
            refine lv_iload_n hx hb dX4_scan_33 rfl (lv_at hl 5 rfl) ?_
            have hFc := gA_free hG hA hS
            refine va_calli (va_runS (As := [.ref tx, .int (nI i1), .int le]) (rest := []) ⟨hx, hb, hml, hown, hts⟩ (c_thingEnd l dC dI kA adK adV G H nC nS tx (nI i1) le hT hr_tx (rg_t (a := ((i1 : Nat) : Int)) (nI_toInt (by omega)) (by omega) (by omega)) (by have q8 := ti_all le; omega) (by have := (show (nI i1).toInt = ((i1 : Nat) : Int) from (nI_toInt (by omega))); have := (show le.toInt = le.toInt from rfl); omega) (by omega) (by omega)) (va_cwS 3 hts (goodIn_app (goodIn_r _ [9, 10, 5] rfl (by decide +kernel)) (goodIn_ca (goodIn_r _ [1, 2, 3, 4, 5, 6, 7, 8] rfl (by decide +kernel)) (bs2_in _ _))) rfl rfl rfl (by decide +kernel) ⟨(Nat.le_of_ble_eq_true rfl), (Nat.le_of_ble_eq_true rfl)⟩) ⟨fun a U g mk q => by obtain ⟨q0, q1, qK, qE⟩ := q; exact ⟨q0, q1, va_K.moved (u := U) (U := U.calling g mk a) (Vm.Alike.refl U.vm) qK, EVC.blind g mk a qE⟩, fun U hU hW => ⟨rfl, hU, va_K.moved hW.alike hK, hE.call hS hFc hU hW⟩⟩ rfl rfl hl.1 rfl (lv_room (Nat.le_of_ble_eq_true rfl)) dX4_scan_34 ⟨(Nat.le_of_ble_eq_true rfl), (Nat.le_of_ble_eq_true rfl)⟩) hS (fun q _ h => hFc q h) hFc (fun r159 u t H locs ht hvm hw160 hB _ _ hS => ?_)
            obtain ⟨hT, hF1⟩ := hB
            rw [ht] at hT hF1
            have m161 := (hF1.fld hr_o0 skc_7 (k := 0) (by decide) (by decide)).trans m6
            have hF := hF.more hF1 (by decide)
            try dsimp only at hw160
            obtain ⟨h163, hf164, hf165⟩ := hw160
            have t166 : (nI i1).toInt = ((i1 : Nat) : Int) := nI_toInt (by omega)
            refine lv_istore (lv' := [(4, .int r159), (5, .int (nI i1)), (3, .int z4), (0, .ref o0), (1, .ref tx), (2, .int le)]) hx hb dX4_scan_37 hl (by decide) rfl (fun ls hl => ?_)
            refine lv_aload_n hx hb dX4_scan_39 rfl (lv_at hl 3 rfl) ?_
            refine tw_getM (v := .ref th) hx hb hts bF2_X4 hown hK hT hr_o0 shc_7 rfl 0 (by decide) (ht_at2 hts 10 rfl) (fun _ h9 => h9) m161 dX4_scan_40 ?_
            refine lv_iload_n hx hb dX4_scan_43 rfl (lv_at hl 2 rfl) ?_
            refine lv_aload_n hx hb dX4_scan_44 rfl (lv_at hl 4 rfl) ?_
            refine lv_iload hx hb dX4_scan_45 (lv_at hl 1 rfl) ?_
            refine lv_iload hx hb dX4_scan_47 (lv_at hl 0 rfl) ?_
            have hFc := gA_free hG hA hS
            refine va_calli (va_runS (As := [.ref tx, .int (nI i1), .int r159]) (rest := [.int z4, .ref th]) ⟨hx, hb, hml, hown, hts⟩ (c_thingAt l dC dI kA adK adV G H nC nS tx (nI i1) r159 hT hr_tx (rg_t (a := ((i1 : Nat) : Int)) (nI_toInt (by omega)) (by omega) (by omega)) (by have q8 := ti_all r159; omega) (by have := (show (nI i1).toInt = ((i1 : Nat) : Int) from (nI_toInt (by omega))); have := (show r159.toInt = r159.toInt from rfl); omega) (fun h9 j h8 h7 => by obtain ⟨x9, e9, ab9⟩ := h9; obtain ⟨y9, f9, g9⟩ := hf165 ⟨x9, (el_kept (hF1.arr hr_tx skc_16 (by decide))).symm.trans e9, ab9⟩ j h8 h7; exact ⟨y9, (el_kept (hF1.arr hr_tx skc_16 (by decide))).trans f9, g9⟩) (by omega) (by omega)) (va_cwS 3 hts (goodIn_app (goodIn_r _ [63, 64, 5] rfl (by decide +kernel)) (goodIn_ca (goodIn_r _ [12, 2, 3, 4, 5, 6, 7, 8, 13, 14, 15, 16, 17, 18, 19, 20, 21, 22, 23, 24, 25, 26, 27, 28, 29, 30, 31, 32, 33, 34, 35, 36, 37, 38, 39, 40, 41, 42, 43, 44, 45, 46, 47, 48, 49, 50, 51, 52, 53, 54, 55, 56, 57, 58, 59, 60, 61, 62] rfl (by decide +kernel)) (bs2_in _ _))) rfl rfl rfl (by decide +kernel) ⟨(Nat.le_of_ble_eq_true rfl), (Nat.le_of_ble_eq_true rfl)⟩) ⟨fun a U g mk q => by obtain ⟨q0, q1, qK, qE⟩ := q; exact ⟨q0, q1, va_K.moved (u := U) (U := U.calling g mk a) (Vm.Alike.refl U.vm) qK, EVC.blind g mk a qE⟩, fun U hU hW => ⟨rfl, hU, va_K.moved hW.alike hK, hE.call hS hFc hU hW⟩⟩ rfl rfl hl.1 rfl (lv_room (Nat.le_of_ble_eq_true rfl)) dX4_scan_49 ⟨(Nat.le_of_ble_eq_true rfl), (Nat.le_of_ble_eq_true rfl)⟩) hS (fun q _ h => hFc q h) hFc (fun r167 u t H locs ht hvm hw168 hB _ _ hS => ?_)
            obtain ⟨hT, hF1⟩ := hB
            rw [ht] at hT hF1
            have m169 := (hF1.fld hr_o0 skc_7 (k := 0) (by decide) (by decide)).trans m161
            have hF := hF.more hF1 (by decide)
            try dsimp only at hw168
            have h171 := hw168
            refine tw_iast (i := z4) (x := r167) hx hb hK hT hG hS hr_th shc_40 rfl (vin_t (a := z4.toInt) rfl (by omega) (by omega)) (gi_of (show r167.toInt = r167.toInt from rfl) (by omega) (by omega)) dX4_scan_52 (fun H locs hT oq m172 oi hS => ?_)
            have hF := hF.ast hr_th skc_40 oq (by decide)
            have m173 := (el_kept (oq _ (gne hr_o0 hr_th (by decide)))).trans m169
            refine lv_aload_n hx hb dX4_scan_53 rfl (lv_at hl 3 rfl) ?_
            refine tw_get hx hb hts bF2_X4 hown hK hT hr_o0 shc_7 rfl 1 (by decide) (ht_at2 hts 64 rfl) (fun _ h9 => h9) dX4_scan_54 (fun v9 m175 h9 => ?_)
            obtain ⟨b176, rfl, hg177⟩ := h9 _ rfl
            refine lv_iload_n hx hb dX4_scan_57 rfl (lv_at hl 2 rfl) ?_
            refine lv_iload hx hb dX4_scan_58 (lv_at hl 1 rfl) ?_
            refine tw_iast (i := z4) (x := (nI i1)) hx hb hK hT hG hS hg177 shc_41 rfl (vin_t (a := z4.toInt) rfl (by omega) (by omega)) (gi_all _) dX4_scan_60 (fun H locs hT oq m178 oi hS => ?_)
            have hF := hF.ast hg177 skc_41 oq (by decide)
            have m179 := (el_kept (oq _ (gne hr_o0 hg177 (by decide)))).trans m173
            obtain ⟨x183, ex183⟩ : ∃ y : Int32, y = z4 + 1 := ⟨_, rfl⟩
            have t184 : x183.toInt = z4.toInt + 1 := ti_add ex183 rfl (by decide) (by omega) (by omega)
            refine lv_iinc (v := x183) (lv' := [(3, .int x183), (4, .int r159), (5, .int (nI i1)), (0, .ref o0), (1, .ref tx), (2, .int le)]) hx hb dX4_scan_61 hl (k := 2) rfl (by first | (rw [ex183]; done) | (rw [ex183]; rfl)) (by decide) rfl (fun ls hl => ?_)
            refine lv_iinc (v := nI (i1 + 1)) (lv' := [(5, .int (nI (i1 + 1))), (3, .int x183), (4, .int r159), (0, .ref o0), (1, .ref tx), (2, .int le)]) hx hb dX4_scan_64 hl (k := 2) rfl (nI_add i1 1) (by decide) rfl (fun ls hl => ?_)
            refine lv_goto (tgt := 8) hx hb dX4_scan_67 (by decide) ?_
            exact ih144 (i1 + 1) (by omega) (by omega) r159 x183 ⟨(by have q8 := ti_all r159; omega), (by have q9 := (show x183.toInt = x183.toInt from rfl); (try have q8 := ti_all x183); omega), (by have := (show x183.toInt = x183.toInt from rfl); omega)⟩ _ _ hT hF hS m179 ls (lv_sub hl [0, 2, 1, 3, 4, 5] rfl)
  exact key144 (400 - 0) 0 (by omega) (Nat.le_refl _) 0 0 ⟨(rg_t (a := 0) (by decide) (by first | decide | omega) (by first | decide | omega)), (by have q9 := (show (0 : Int32).toInt = 0 from (by decide)); (try have q8 := ti_all (0 : Int32)); omega), (by have := (show (0 : Int32).toInt = 0 from (by decide)); omega)⟩ _ _ hT hF hS hm_th ls (lv_sub hl [0, 1, 2, 3, 4, 5] rfl)
def w_c_take : List Cond := .code yX4_take cX4_take 2 (some .boolean) :: (HAppend.hAppend (α := List Cond) (β := List Cond) (γ := List Cond) [.fieldLink RX4 11 "SeaLand$Law" "things" "[I", .fieldLink RX4 56 "SeaLand$Law" "at" "I"] bs2)
set_option maxHeartbeats 4000000 in
set_option maxRecDepth 100000 in
theorem c_take (l : Launch) (dC : Nat → ClassId) (dI : Nat → Nat → Nat) (kA : Nat → ClassId) (adK adV : Nat → Nat) (G : gT) (H0 : Heap) (nC nS : Int) (o0 : Nat) (tg : Int32) (th : Nat) (a0 : Int32) (tv ix_tv : Int32) (tn : Int32) (hT : gH (dC, dI) kA (SHc nC nS) G H0) (hr_o0 : G o0 = some 7) (hm_th : el H0 o0 (dI 7 0) = some (.ref th)) (hr_th : G th = some 40) (hm_a0 : el H0 o0 (dI 7 13) = some (.int a0)) (hq0 : 0 ≤ tn.toInt ∧ tn.toInt ≤ 400) (hq1 : 0 ≤ a0.toInt ∧ a0.toInt ≤ 400) (hat : a0.toInt ≤ tn.toInt) (htg : tg.toInt ≠ 21) (hx_tv : ix_tv.toInt = tn.toInt) (hm_tv : el H0 th ix_tv.toNatClampNeg = some (.int tv)) (hv_tv : 21 ≤ tv.toInt ∧ tv.toInt ≤ 21) (hgC : 0 ≤ nC ∧ nC ≤ 40) (hgS : 0 ≤ nS ∧ nS ≤ 60) : Met l yX4_take w_c_take ({ frames := 0, cells := 0, slots := 0, locals := 0 }) (va_Pc [.ref o0, .int tg] (fun U => U.heap = H0 ∧ va_K (dC, dI) vwCl (tyl kA) U ∧ EVC adK adV (gA G H0.size) U U.heap)) (va_Qi (fun (r : Int32) (u : Int32) => (0 ≤ u.toInt ∧ u.toInt ≤ 400) ∧ (0 ≤ r.toInt ∧ r.toInt ≤ 1) ∧ (a0.toInt ≤ u.toInt ∧ u.toInt ≤ tn.toInt)) (fun (a1 : Int32) (t : State) => gH (dC, dI) kA (SHc nC nS) G t.heap ∧ gF (dC, dI) SKc G ([(7, 13)] : List (Nat × Nat)) H0 t.heap ∧ el t.heap o0 (dI 7 13) = some (.int a1)) (gA G H0.size)) 0 0 (gA G H0.size) := by
  refine Met.ofW (cc := cX4_take) (maxL := 2) (ret := (some .boolean)) (by decide) rfl ?_
  intro p e s m args below meth c s₁ B hml hv
  obtain ⟨rfl, hH0, hK, hE⟩ := hv
  have hx := B.exec
  have hb := B.bytes
  have hr := B.returns
  have hts := atoms_spec (ws := w_c_take) B.pre
  have hown : s.vm.findClass RX4 = some m.cls := findClass_of_methodNamed B.named
  have hlocks := B.notSynchronized
  subst hH0
  generalize hAe : gA G s.heap.size = A at hE ⊢
  have hA : ∀ q : Nat, s.heap.size ≤ q → A q := fun q h => by rw [← hAe]; exact Or.inr h
  have hG := gA_of hAe
  have hS : va_S A s.heap s.heap [] := va_S.rf
  have hF : gF (dC, dI) SKc G ([(7, 13)] : List (Nat × Nat)) s.heap s.heap := gF.rf
  have hl := lv_entry ([.ref o0, .int tg]) (n := 2) (Nat.le_of_ble_eq_true rfl)
  rw [lg_entry_eq]
  generalize (lg_sl ([.ref o0, .int tg]) ++ List.replicate (2 - (lg_sl ([.ref o0, .int tg])).length) Slot.unset).toArray = ls at hl ⊢
  have hl : lv_has ls 2 [(0, .ref o0), (1, .int tg)] := hl
  refine lv_aload_n hx hb dX4_take_0 rfl (lv_at hl 0 rfl) ?_
  refine tw_getM (v := .ref th) hx hb hts bF2_X4 hown hK hT hr_o0 shc_7 rfl 0 (by decide) (ht_at2 hts 0 rfl) (fun _ h9 => h9) hm_th dX4_take_1 ?_
  refine lv_aload_n hx hb dX4_take_4 rfl (lv_at hl 0 rfl) ?_
  refine tw_getM (v := .int a0) hx hb hts bF2_X4 hown hK hT hr_o0 shc_7 rfl 13 (by decide) (ht_at2 hts 1 rfl) (fun _ h9 => h9) hm_a0 dX4_take_5 ?_
  refine tw_iald (i := a0) hx hb hK hT hr_th shc_40 rfl (vin_t (a := a0.toInt) rfl (by omega) (by omega)) dX4_take_8 (fun v9 m1 h9 => ?_)
  obtain ⟨x2, rfl, gx2, kx2⟩ := h9
  have t3 : a0.toInt = ix_tv.toInt → x2.toInt = tv.toInt := fun h8 => congrArg Int32.toInt (el_same m1 hm_tv h8)
  refine lv_iload_n hx hb dX4_take_9 rfl (lv_at hl 1 rfl) ?_
  have t4 : -2147483648 ≤ x2.toInt ∧ x2.toInt ≤ 2147483647 := ti_all x2
  have t5 : -2147483648 ≤ tg.toInt ∧ tg.toInt ≤ 2147483647 := ti_all tg
  refine lv_icmp_eq (tgt := 15) hx hb dX4_take_10 (by decide) (fun c6 => ?_) (fun c6 => ?_)
  · have t7 : x2.toInt = tg.toInt := ti_eq c6 rfl rfl
    refine lv_aload_n hx hb dX4_take_15 rfl (lv_at hl 0 rfl) ?_
    refine lv_dup hx hb dX4_take_16 rfl ?_
    refine tw_getM (v := .int a0) hx hb hts bF2_X4 hown hK hT hr_o0 shc_7 rfl 13 (by decide) (ht_at2 hts 1 rfl) (fun _ h9 => h9) hm_a0 dX4_take_17 ?_
    refine lv_iconst (v := 1) hx hb dX4_take_20 (by decide) ?_
    refine lv_iadd hx hb dX4_take_21 ?_
    refine lv_topi (fun x8 ex8 => ?_)
    have t9 : x8.toInt = a0.toInt + 1 := ti_add ex8 rfl (by decide) (by omega) (by omega)
    refine tw_put (v := .int x8) (ty := .int) hx hb hts bF2_X4 tyX4 tyX4_ok nmX4 hown hK hT hG hS hr_o0 shc_7 rfl 13 (by decide) (ht_at2 hts 1 rfl) (fun _ h9 => h9) rfl (by decide +kernel) rfl rfl (gl_at rfl (gi_of (show x8.toInt = x8.toInt from rfl) (by omega) (by omega))) dX4_take_22 (fun H locs hT oq m10 oj hS => ?_)
    have hF := hF.put hr_o0 skc_7 oq oj (by decide)
    refine lv_iconst (v := 1) hx hb dX4_take_25 (by decide) ?_
    exact W.zret (v := 1) hx hb hr (by decide) (fun t ht hW => ⟨⟨1, x8, rfl, (by exact ⟨(by have q8 := ti_all x8; omega), (rg_t (a := 1) (by decide) (by first | decide | omega) (by first | decide | omega)), (by omega)⟩), by (try dsimp only); rw [ht]; exact ⟨hT, hF, m10⟩⟩, hS.F ht⟩) hS.2.2 dX4_take_26
  · have t14 : x2.toInt ≠ tg.toInt := ti_ne c6 rfl rfl
    refine lv_iconst (v := 0) hx hb dX4_take_13 (by decide) ?_
    exact W.zret (v := 0) hx hb hr (by decide) (fun t ht hW => ⟨⟨0, a0, rfl, (by exact ⟨(by have q8 := ti_all a0; omega), (rg_t (a := 0) (by decide) (by first | decide | omega) (by first | decide | omega)), (by omega)⟩), by (try dsimp only); rw [ht]; exact ⟨hT, hF, hm_a0⟩⟩, hS.F ht⟩) hS.2.2 dX4_take_14
def w_c_takeNumber_firsts : List Cond := .code yX4_takeNumber cX4_takeNumber 4 (some .boolean) :: (HAppend.hAppend (α := List Cond) (β := List Cond) (γ := List Cond) [.fieldLink RX4 11 "SeaLand$Law" "things" "[I", .fieldLink RX4 56 "SeaLand$Law" "at" "I", .fieldLink RX4 60 "SeaLand$Law" "lines" "I"] bs2)
set_option maxHeartbeats 4000000 in
set_option maxRecDepth 100000 in
theorem c_takeNumber_firsts (l : Launch) (dC : Nat → ClassId) (dI : Nat → Nat → Nat) (kA : Nat → ClassId) (adK adV : Nat → Nat) (G : gT) (H0 : Heap) (nC nS : Int) (o0 : Nat) (mo : Int32) (ito : Nat) (th : Nat) (a0 : Int32) (ln : Int32) (tv ix_tv : Int32) (tn : Int32) (hT : gH (dC, dI) kA (SHc nC nS) G H0) (hr_ito : G ito = some 43) (hr_o0 : G o0 = some 7) (hm_th : el H0 o0 (dI 7 0) = some (.ref th)) (hr_th : G th = some 40) (hm_a0 : el H0 o0 (dI 7 13) = some (.int a0)) (hm_ln : el H0 o0 (dI 7 11) = some (.int ln)) (hq0 : 0 ≤ tn.toInt ∧ tn.toInt ≤ 400) (hq1 : 0 ≤ a0.toInt ∧ a0.toInt ≤ 400) (hat : a0.toInt ≤ tn.toInt) (hq3 : 0 ≤ ln.toInt ∧ ln.toInt ≤ 19) (hx_tv : ix_tv.toInt = tn.toInt) (hm_tv : el H0 th ix_tv.toNatClampNeg = some (.int tv)) (hv_tv : 21 ≤ tv.toInt ∧ tv.toInt ≤ 21) (hgC : 0 ≤ nC ∧ nC ≤ 40) (hgS : 0 ≤ nS ∧ nS ≤ 60) : Met l yX4_takeNumber w_c_takeNumber_firsts ({ frames := 0, cells := 0, slots := 0, locals := 0 }) (va_Pc [.ref o0, .int mo, .ref ito] (fun U => U.heap = H0 ∧ va_K (dC, dI) vwCl (tyl kA) U ∧ EVC adK adV (gA G H0.size) U U.heap)) (va_Qi (fun (r : Int32) (u : Int32) => (0 ≤ u.toInt ∧ u.toInt ≤ 400) ∧ (0 ≤ r.toInt ∧ r.toInt ≤ 1) ∧ (a0.toInt ≤ u.toInt ∧ u.toInt ≤ tn.toInt)) (fun (a1 : Int32) (t : State) => gH (dC, dI) kA (SHc nC nS) G t.heap ∧ gF (dC, dI) SKc G ([(7, 13), (43, 0)] : List (Nat × Nat)) H0 t.heap ∧ el t.heap o0 (dI 7 13) = some (.int a1)) (gA G H0.size)) 0 0 (gA G H0.size) := by
  refine Met.ofW (cc := cX4_takeNumber) (maxL := 4) (ret := (some .boolean)) (by decide) rfl ?_
  intro p e s m args below meth c s₁ B hml hv
  obtain ⟨rfl, hH0, hK, hE⟩ := hv
  have hx := B.exec
  have hb := B.bytes
  have hr := B.returns
  have hts := atoms_spec (ws := w_c_takeNumber_firsts) B.pre
  have hown : s.vm.findClass RX4 = some m.cls := findClass_of_methodNamed B.named
  have hlocks := B.notSynchronized
  subst hH0
  generalize hAe : gA G s.heap.size = A at hE ⊢
  have hA : ∀ q : Nat, s.heap.size ≤ q → A q := fun q h => by rw [← hAe]; exact Or.inr h
  have hG := gA_of hAe
  have hS : va_S A s.heap s.heap [] := va_S.rf
  have hF : gF (dC, dI) SKc G ([(7, 13), (43, 0)] : List (Nat × Nat)) s.heap s.heap := gF.rf
  have hl := lv_entry ([.ref o0, .int mo, .ref ito]) (n := 4) (Nat.le_of_ble_eq_true rfl)
  rw [lg_entry_eq]
  generalize (lg_sl ([.ref o0, .int mo, .ref ito]) ++ List.replicate (4 - (lg_sl ([.ref o0, .int mo, .ref ito])).length) Slot.unset).toArray = ls at hl ⊢
  have hl : lv_has ls 4 [(0, .ref o0), (1, .int mo), (2, .ref ito)] := hl
  refine lv_aload_n hx hb dX4_takeNumber_0 rfl (lv_at hl 0 rfl) ?_
  refine tw_getM (v := .ref th) hx hb hts bF2_X4 hown hK hT hr_o0 shc_7 rfl 0 (by decide) (ht_at2 hts 0 rfl) (fun _ h9 => h9) hm_th dX4_takeNumber_1 ?_
  refine lv_aload_n hx hb dX4_takeNumber_4 rfl (lv_at hl 0 rfl) ?_
  refine tw_getM (v := .int a0) hx hb hts bF2_X4 hown hK hT hr_o0 shc_7 rfl 13 (by decide) (ht_at2 hts 1 rfl) (fun _ h9 => h9) hm_a0 dX4_takeNumber_5 ?_
  refine tw_iald (i := a0) hx hb hK hT hr_th shc_40 rfl (vin_t (a := a0.toInt) rfl (by omega) (by omega)) dX4_takeNumber_8 (fun v9 m1 h9 => ?_)
  obtain ⟨x2, rfl, gx2, kx2⟩ := h9
  have t3 : a0.toInt = ix_tv.toInt → x2.toInt = tv.toInt := fun h8 => congrArg Int32.toInt (el_same m1 hm_tv h8)
  refine lv_bipush (v := 40) hx hb dX4_takeNumber_9 (by decide) ?_
  refine lv_isub hx hb dX4_takeNumber_11 ?_
  refine lv_topi (fun x4 ex4 => ?_)
  have t5 : -2147483648 ≤ x2.toInt ∧ x2.toInt ≤ 2147483647 := ti_all x2
  have t6 : x4.toInt = x2.toInt - 40 := ti_sub ex4 rfl (by decide) (by omega) (by omega)
  refine lv_istore_n (lv' := [(3, .int x4), (0, .ref o0), (1, .int mo), (2, .ref ito)]) hx hb dX4_takeNumber_12 rfl hl (by decide) rfl (fun ls hl => ?_)
  refine lv_iload_n hx hb dX4_takeNumber_13 rfl (lv_at hl 0 rfl) ?_
  refine lv_if_lt (tgt := 22) hx hb dX4_takeNumber_14 (by decide) (fun c7 => ?_) (fun c7 => ?_)
  · have t8 : x4.toInt < 0 := ti_lt c7 rfl (by decide)
    refine lv_iconst (v := 0) hx hb dX4_takeNumber_22 (by decide) ?_
    exact W.zret (v := 0) hx hb hr (by decide) (fun t ht hW => ⟨⟨0, a0, rfl, (by exact ⟨(by have q8 := ti_all a0; omega), (rg_t (a := 0) (by decide) (by first | decide | omega) (by first | decide | omega)), (by omega)⟩), by (try dsimp only); rw [ht]; exact ⟨hT, hF, hm_a0⟩⟩, hS.F ht⟩) hS.2.2 dX4_takeNumber_23
  · have t9 : 0 ≤ x4.toInt := ti_nlt c7 rfl (by decide)
    refine lv_iload_n hx hb dX4_takeNumber_17 rfl (lv_at hl 0 rfl) ?_
    refine lv_iload_n hx hb dX4_takeNumber_18 rfl (lv_at hl 2 rfl) ?_
    have t10 : -2147483648 ≤ mo.toInt ∧ mo.toInt ≤ 2147483647 := ti_all mo
    refine lv_icmp_le (tgt := 24) hx hb dX4_takeNumber_19 (by decide) (fun c11 => ?_) (fun c11 => ?_)
    · have t12 : x4.toInt ≤ mo.toInt := ti_le c11 rfl rfl
      refine lv_aload_n hx hb dX4_takeNumber_24 rfl (lv_at hl 3 rfl) ?_
      refine lv_aload_n hx hb dX4_takeNumber_25 rfl (lv_at hl 1 rfl) ?_
      refine tw_getM (v := .int ln) hx hb hts bF2_X4 hown hK hT hr_o0 shc_7 rfl 11 (by decide) (ht_at2 hts 2 rfl) (fun _ h9 => h9) hm_ln dX4_takeNumber_26 ?_
      refine lv_iload_n hx hb dX4_takeNumber_29 rfl (lv_at hl 0 rfl) ?_
      refine tw_iast (i := ln) (x := x4) hx hb hK hT hG hS hr_ito shc_43 rfl (vin_t (a := ln.toInt) rfl (by omega) (by omega)) (gi_all _) dX4_takeNumber_30 (fun H locs hT oq m13 oi hS => ?_)
      have hF := hF.ast hr_ito skc_43 oq (by decide)
      have m15 := (el_kept (oq _ (gne hr_o0 hr_ito (by decide)))).trans hm_a0
      refine lv_aload_n hx hb dX4_takeNumber_31 rfl (lv_at hl 1 rfl) ?_
      refine lv_dup hx hb dX4_takeNumber_32 rfl ?_
      refine tw_getM (v := .int a0) hx hb hts bF2_X4 hown hK hT hr_o0 shc_7 rfl 13 (by decide) (ht_at2 hts 1 rfl) (fun _ h9 => h9) m15 dX4_takeNumber_33 ?_
      refine lv_iconst (v := 1) hx hb dX4_takeNumber_36 (by decide) ?_
      refine lv_iadd hx hb dX4_takeNumber_37 ?_
      refine lv_topi (fun x19 ex19 => ?_)
      have t20 : x19.toInt = a0.toInt + 1 := ti_add ex19 rfl (by decide) (by omega) (by omega)
      refine tw_put (v := .int x19) (ty := .int) hx hb hts bF2_X4 tyX4 tyX4_ok nmX4 hown hK hT hG hS hr_o0 shc_7 rfl 13 (by decide) (ht_at2 hts 1 rfl) (fun _ h9 => h9) rfl (by decide +kernel) rfl rfl (gl_at rfl (gi_of (show x19.toInt = x19.toInt from rfl) (by omega) (by omega))) dX4_takeNumber_38 (fun H locs hT oq m21 oj hS => ?_)
      have hF := hF.put hr_o0 skc_7 oq oj (by decide)
      refine lv_iconst (v := 1) hx hb dX4_takeNumber_41 (by decide) ?_
      exact W.zret (v := 1) hx hb hr (by decide) (fun t ht hW => ⟨⟨1, x19, rfl, (by exact ⟨(by have q8 := ti_all x19; omega), (rg_t (a := 1) (by decide) (by first | decide | omega) (by first | decide | omega)), (by omega)⟩), by (try dsimp only); rw [ht]; exact ⟨hT, hF, m21⟩⟩, hS.F ht⟩) hS.2.2 dX4_takeNumber_42
    · have t27 : mo.toInt < x4.toInt := ti_nle c11 rfl rfl
      refine lv_iconst (v := 0) hx hb dX4_takeNumber_22 (by decide) ?_
      exact W.zret (v := 0) hx hb hr (by decide) (fun t ht hW => ⟨⟨0, a0, rfl, (by exact ⟨(by have q8 := ti_all a0; omega), (rg_t (a := 0) (by decide) (by first | decide | omega) (by first | decide | omega)), (by omega)⟩), by (try dsimp only); rw [ht]; exact ⟨hT, hF, hm_a0⟩⟩, hS.F ht⟩) hS.2.2 dX4_takeNumber_23
def w_c_takeNumber_seconds : List Cond := .code yX4_takeNumber cX4_takeNumber 4 (some .boolean) :: (HAppend.hAppend (α := List Cond) (β := List Cond) (γ := List Cond) [.fieldLink RX4 11 "SeaLand$Law" "things" "[I", .fieldLink RX4 56 "SeaLand$Law" "at" "I", .fieldLink RX4 60 "SeaLand$Law" "lines" "I"] bs2)
set_option maxHeartbeats 4000000 in
set_option maxRecDepth 100000 in
theorem c_takeNumber_seconds (l : Launch) (dC : Nat → ClassId) (dI : Nat → Nat → Nat) (kA : Nat → ClassId) (adK adV : Nat → Nat) (G : gT) (H0 : Heap) (nC nS : Int) (o0 : Nat) (mo : Int32) (ito : Nat) (th : Nat) (a0 : Int32) (ln : Int32) (tv ix_tv : Int32) (tn : Int32) (hT : gH (dC, dI) kA (SHc nC nS) G H0) (hr_ito : G ito = some 44) (hr_o0 : G o0 = some 7) (hm_th : el H0 o0 (dI 7 0) = some (.ref th)) (hr_th : G th = some 40) (hm_a0 : el H0 o0 (dI 7 13) = some (.int a0)) (hm_ln : el H0 o0 (dI 7 11) = some (.int ln)) (hq0 : 0 ≤ tn.toInt ∧ tn.toInt ≤ 400) (hq1 : 0 ≤ a0.toInt ∧ a0.toInt ≤ 400) (hat : a0.toInt ≤ tn.toInt) (hq3 : 0 ≤ ln.toInt ∧ ln.toInt ≤ 19) (hx_tv : ix_tv.toInt = tn.toInt) (hm_tv : el H0 th ix_tv.toNatClampNeg = some (.int tv)) (hv_tv : 21 ≤ tv.toInt ∧ tv.toInt ≤ 21) (hgC : 0 ≤ nC ∧ nC ≤ 40) (hgS : 0 ≤ nS ∧ nS ≤ 60) : Met l yX4_takeNumber w_c_takeNumber_seconds ({ frames := 0, cells := 0, slots := 0, locals := 0 }) (va_Pc [.ref o0, .int mo, .ref ito] (fun U => U.heap = H0 ∧ va_K (dC, dI) vwCl (tyl kA) U ∧ EVC adK adV (gA G H0.size) U U.heap)) (va_Qi (fun (r : Int32) (u : Int32) => (0 ≤ u.toInt ∧ u.toInt ≤ 400) ∧ (0 ≤ r.toInt ∧ r.toInt ≤ 1) ∧ (a0.toInt ≤ u.toInt ∧ u.toInt ≤ tn.toInt)) (fun (a1 : Int32) (t : State) => gH (dC, dI) kA (SHc nC nS) G t.heap ∧ gF (dC, dI) SKc G ([(7, 13), (44, 0)] : List (Nat × Nat)) H0 t.heap ∧ el t.heap o0 (dI 7 13) = some (.int a1)) (gA G H0.size)) 0 0 (gA G H0.size) := by
  refine Met.ofW (cc := cX4_takeNumber) (maxL := 4) (ret := (some .boolean)) (by decide) rfl ?_
  intro p e s m args below meth c s₁ B hml hv
  obtain ⟨rfl, hH0, hK, hE⟩ := hv
  have hx := B.exec
  have hb := B.bytes
  have hr := B.returns
  have hts := atoms_spec (ws := w_c_takeNumber_seconds) B.pre
  have hown : s.vm.findClass RX4 = some m.cls := findClass_of_methodNamed B.named
  have hlocks := B.notSynchronized
  subst hH0
  generalize hAe : gA G s.heap.size = A at hE ⊢
  have hA : ∀ q : Nat, s.heap.size ≤ q → A q := fun q h => by rw [← hAe]; exact Or.inr h
  have hG := gA_of hAe
  have hS : va_S A s.heap s.heap [] := va_S.rf
  have hF : gF (dC, dI) SKc G ([(7, 13), (44, 0)] : List (Nat × Nat)) s.heap s.heap := gF.rf
  have hl := lv_entry ([.ref o0, .int mo, .ref ito]) (n := 4) (Nat.le_of_ble_eq_true rfl)
  rw [lg_entry_eq]
  generalize (lg_sl ([.ref o0, .int mo, .ref ito]) ++ List.replicate (4 - (lg_sl ([.ref o0, .int mo, .ref ito])).length) Slot.unset).toArray = ls at hl ⊢
  have hl : lv_has ls 4 [(0, .ref o0), (1, .int mo), (2, .ref ito)] := hl
  refine lv_aload_n hx hb dX4_takeNumber_0 rfl (lv_at hl 0 rfl) ?_
  refine tw_getM (v := .ref th) hx hb hts bF2_X4 hown hK hT hr_o0 shc_7 rfl 0 (by decide) (ht_at2 hts 0 rfl) (fun _ h9 => h9) hm_th dX4_takeNumber_1 ?_
  refine lv_aload_n hx hb dX4_takeNumber_4 rfl (lv_at hl 0 rfl) ?_
  refine tw_getM (v := .int a0) hx hb hts bF2_X4 hown hK hT hr_o0 shc_7 rfl 13 (by decide) (ht_at2 hts 1 rfl) (fun _ h9 => h9) hm_a0 dX4_takeNumber_5 ?_
  refine tw_iald (i := a0) hx hb hK hT hr_th shc_40 rfl (vin_t (a := a0.toInt) rfl (by omega) (by omega)) dX4_takeNumber_8 (fun v9 m1 h9 => ?_)
  obtain ⟨x2, rfl, gx2, kx2⟩ := h9
  have t3 : a0.toInt = ix_tv.toInt → x2.toInt = tv.toInt := fun h8 => congrArg Int32.toInt (el_same m1 hm_tv h8)
  refine lv_bipush (v := 40) hx hb dX4_takeNumber_9 (by decide) ?_
  refine lv_isub hx hb dX4_takeNumber_11 ?_
  refine lv_topi (fun x4 ex4 => ?_)
  have t5 : -2147483648 ≤ x2.toInt ∧ x2.toInt ≤ 2147483647 := ti_all x2
  have t6 : x4.toInt = x2.toInt - 40 := ti_sub ex4 rfl (by decide) (by omega) (by omega)
  refine lv_istore_n (lv' := [(3, .int x4), (0, .ref o0), (1, .int mo), (2, .ref ito)]) hx hb dX4_takeNumber_12 rfl hl (by decide) rfl (fun ls hl => ?_)
  refine lv_iload_n hx hb dX4_takeNumber_13 rfl (lv_at hl 0 rfl) ?_
  refine lv_if_lt (tgt := 22) hx hb dX4_takeNumber_14 (by decide) (fun c7 => ?_) (fun c7 => ?_)
  · have t8 : x4.toInt < 0 := ti_lt c7 rfl (by decide)
    refine lv_iconst (v := 0) hx hb dX4_takeNumber_22 (by decide) ?_
    exact W.zret (v := 0) hx hb hr (by decide) (fun t ht hW => ⟨⟨0, a0, rfl, (by exact ⟨(by have q8 := ti_all a0; omega), (rg_t (a := 0) (by decide) (by first | decide | omega) (by first | decide | omega)), (by omega)⟩), by (try dsimp only); rw [ht]; exact ⟨hT, hF, hm_a0⟩⟩, hS.F ht⟩) hS.2.2 dX4_takeNumber_23
  · have t9 : 0 ≤ x4.toInt := ti_nlt c7 rfl (by decide)
    refine lv_iload_n hx hb dX4_takeNumber_17 rfl (lv_at hl 0 rfl) ?_
    refine lv_iload_n hx hb dX4_takeNumber_18 rfl (lv_at hl 2 rfl) ?_
    have t10 : -2147483648 ≤ mo.toInt ∧ mo.toInt ≤ 2147483647 := ti_all mo
    refine lv_icmp_le (tgt := 24) hx hb dX4_takeNumber_19 (by decide) (fun c11 => ?_) (fun c11 => ?_)
    · have t12 : x4.toInt ≤ mo.toInt := ti_le c11 rfl rfl
      refine lv_aload_n hx hb dX4_takeNumber_24 rfl (lv_at hl 3 rfl) ?_
      refine lv_aload_n hx hb dX4_takeNumber_25 rfl (lv_at hl 1 rfl) ?_
      refine tw_getM (v := .int ln) hx hb hts bF2_X4 hown hK hT hr_o0 shc_7 rfl 11 (by decide) (ht_at2 hts 2 rfl) (fun _ h9 => h9) hm_ln dX4_takeNumber_26 ?_
      refine lv_iload_n hx hb dX4_takeNumber_29 rfl (lv_at hl 0 rfl) ?_
      refine tw_iast (i := ln) (x := x4) hx hb hK hT hG hS hr_ito shc_44 rfl (vin_t (a := ln.toInt) rfl (by omega) (by omega)) (gi_all _) dX4_takeNumber_30 (fun H locs hT oq m13 oi hS => ?_)
      have hF := hF.ast hr_ito skc_44 oq (by decide)
      have m15 := (el_kept (oq _ (gne hr_o0 hr_ito (by decide)))).trans hm_a0
      refine lv_aload_n hx hb dX4_takeNumber_31 rfl (lv_at hl 1 rfl) ?_
      refine lv_dup hx hb dX4_takeNumber_32 rfl ?_
      refine tw_getM (v := .int a0) hx hb hts bF2_X4 hown hK hT hr_o0 shc_7 rfl 13 (by decide) (ht_at2 hts 1 rfl) (fun _ h9 => h9) m15 dX4_takeNumber_33 ?_
      refine lv_iconst (v := 1) hx hb dX4_takeNumber_36 (by decide) ?_
      refine lv_iadd hx hb dX4_takeNumber_37 ?_
      refine lv_topi (fun x19 ex19 => ?_)
      have t20 : x19.toInt = a0.toInt + 1 := ti_add ex19 rfl (by decide) (by omega) (by omega)
      refine tw_put (v := .int x19) (ty := .int) hx hb hts bF2_X4 tyX4 tyX4_ok nmX4 hown hK hT hG hS hr_o0 shc_7 rfl 13 (by decide) (ht_at2 hts 1 rfl) (fun _ h9 => h9) rfl (by decide +kernel) rfl rfl (gl_at rfl (gi_of (show x19.toInt = x19.toInt from rfl) (by omega) (by omega))) dX4_takeNumber_38 (fun H locs hT oq m21 oj hS => ?_)
      have hF := hF.put hr_o0 skc_7 oq oj (by decide)
      refine lv_iconst (v := 1) hx hb dX4_takeNumber_41 (by decide) ?_
      exact W.zret (v := 1) hx hb hr (by decide) (fun t ht hW => ⟨⟨1, x19, rfl, (by exact ⟨(by have q8 := ti_all x19; omega), (rg_t (a := 1) (by decide) (by first | decide | omega) (by first | decide | omega)), (by omega)⟩), by (try dsimp only); rw [ht]; exact ⟨hT, hF, m21⟩⟩, hS.F ht⟩) hS.2.2 dX4_takeNumber_42
    · have t27 : mo.toInt < x4.toInt := ti_nle c11 rfl rfl
      refine lv_iconst (v := 0) hx hb dX4_takeNumber_22 (by decide) ?_
      exact W.zret (v := 0) hx hb hr (by decide) (fun t ht hW => ⟨⟨0, a0, rfl, (by exact ⟨(by have q8 := ti_all a0; omega), (rg_t (a := 0) (by decide) (by first | decide | omega) (by first | decide | omega)), (by omega)⟩), by (try dsimp only); rw [ht]; exact ⟨hT, hF, hm_a0⟩⟩, hS.F ht⟩) hS.2.2 dX4_takeNumber_23
def w_c_takeNumber_froms : List Cond := .code yX4_takeNumber cX4_takeNumber 4 (some .boolean) :: (HAppend.hAppend (α := List Cond) (β := List Cond) (γ := List Cond) [.fieldLink RX4 11 "SeaLand$Law" "things" "[I", .fieldLink RX4 56 "SeaLand$Law" "at" "I", .fieldLink RX4 60 "SeaLand$Law" "lines" "I"] bs2)
set_option maxHeartbeats 4000000 in
set_option maxRecDepth 100000 in
theorem c_takeNumber_froms (l : Launch) (dC : Nat → ClassId) (dI : Nat → Nat → Nat) (kA : Nat → ClassId) (adK adV : Nat → Nat) (G : gT) (H0 : Heap) (nC nS : Int) (o0 : Nat) (mo : Int32) (ito : Nat) (th : Nat) (a0 : Int32) (ln : Int32) (tv ix_tv : Int32) (tn : Int32) (hT : gH (dC, dI) kA (SHc nC nS) G H0) (hr_ito : G ito = some 45) (hr_o0 : G o0 = some 7) (hm_th : el H0 o0 (dI 7 0) = some (.ref th)) (hr_th : G th = some 40) (hm_a0 : el H0 o0 (dI 7 13) = some (.int a0)) (hm_ln : el H0 o0 (dI 7 11) = some (.int ln)) (hq0 : 0 ≤ tn.toInt ∧ tn.toInt ≤ 400) (hq1 : 0 ≤ a0.toInt ∧ a0.toInt ≤ 400) (hat : a0.toInt ≤ tn.toInt) (hq3 : 0 ≤ ln.toInt ∧ ln.toInt ≤ 19) (hx_tv : ix_tv.toInt = tn.toInt) (hm_tv : el H0 th ix_tv.toNatClampNeg = some (.int tv)) (hv_tv : 21 ≤ tv.toInt ∧ tv.toInt ≤ 21) (hgC : 0 ≤ nC ∧ nC ≤ 40) (hgS : 0 ≤ nS ∧ nS ≤ 60) : Met l yX4_takeNumber w_c_takeNumber_froms ({ frames := 0, cells := 0, slots := 0, locals := 0 }) (va_Pc [.ref o0, .int mo, .ref ito] (fun U => U.heap = H0 ∧ va_K (dC, dI) vwCl (tyl kA) U ∧ EVC adK adV (gA G H0.size) U U.heap)) (va_Qi (fun (r : Int32) (u : Int32) => (0 ≤ u.toInt ∧ u.toInt ≤ 400) ∧ (0 ≤ r.toInt ∧ r.toInt ≤ 1) ∧ (a0.toInt ≤ u.toInt ∧ u.toInt ≤ tn.toInt)) (fun (a1 : Int32) (t : State) => gH (dC, dI) kA (SHc nC nS) G t.heap ∧ gF (dC, dI) SKc G ([(7, 13), (45, 0)] : List (Nat × Nat)) H0 t.heap ∧ el t.heap o0 (dI 7 13) = some (.int a1)) (gA G H0.size)) 0 0 (gA G H0.size) := by
  refine Met.ofW (cc := cX4_takeNumber) (maxL := 4) (ret := (some .boolean)) (by decide) rfl ?_
  intro p e s m args below meth c s₁ B hml hv
  obtain ⟨rfl, hH0, hK, hE⟩ := hv
  have hx := B.exec
  have hb := B.bytes
  have hr := B.returns
  have hts := atoms_spec (ws := w_c_takeNumber_froms) B.pre
  have hown : s.vm.findClass RX4 = some m.cls := findClass_of_methodNamed B.named
  have hlocks := B.notSynchronized
  subst hH0
  generalize hAe : gA G s.heap.size = A at hE ⊢
  have hA : ∀ q : Nat, s.heap.size ≤ q → A q := fun q h => by rw [← hAe]; exact Or.inr h
  have hG := gA_of hAe
  have hS : va_S A s.heap s.heap [] := va_S.rf
  have hF : gF (dC, dI) SKc G ([(7, 13), (45, 0)] : List (Nat × Nat)) s.heap s.heap := gF.rf
  have hl := lv_entry ([.ref o0, .int mo, .ref ito]) (n := 4) (Nat.le_of_ble_eq_true rfl)
  rw [lg_entry_eq]
  generalize (lg_sl ([.ref o0, .int mo, .ref ito]) ++ List.replicate (4 - (lg_sl ([.ref o0, .int mo, .ref ito])).length) Slot.unset).toArray = ls at hl ⊢
  have hl : lv_has ls 4 [(0, .ref o0), (1, .int mo), (2, .ref ito)] := hl
  refine lv_aload_n hx hb dX4_takeNumber_0 rfl (lv_at hl 0 rfl) ?_
  refine tw_getM (v := .ref th) hx hb hts bF2_X4 hown hK hT hr_o0 shc_7 rfl 0 (by decide) (ht_at2 hts 0 rfl) (fun _ h9 => h9) hm_th dX4_takeNumber_1 ?_
  refine lv_aload_n hx hb dX4_takeNumber_4 rfl (lv_at hl 0 rfl) ?_
  refine tw_getM (v := .int a0) hx hb hts bF2_X4 hown hK hT hr_o0 shc_7 rfl 13 (by decide) (ht_at2 hts 1 rfl) (fun _ h9 => h9) hm_a0 dX4_takeNumber_5 ?_
  refine tw_iald (i := a0) hx hb hK hT hr_th shc_40 rfl (vin_t (a := a0.toInt) rfl (by omega) (by omega)) dX4_takeNumber_8 (fun v9 m1 h9 => ?_)
  obtain ⟨x2, rfl, gx2, kx2⟩ := h9
  have t3 : a0.toInt = ix_tv.toInt → x2.toInt = tv.toInt := fun h8 => congrArg Int32.toInt (el_same m1 hm_tv h8)
  refine lv_bipush (v := 40) hx hb dX4_takeNumber_9 (by decide) ?_
  refine lv_isub hx hb dX4_takeNumber_11 ?_
  refine lv_topi (fun x4 ex4 => ?_)
  have t5 : -2147483648 ≤ x2.toInt ∧ x2.toInt ≤ 2147483647 := ti_all x2
  have t6 : x4.toInt = x2.toInt - 40 := ti_sub ex4 rfl (by decide) (by omega) (by omega)
  refine lv_istore_n (lv' := [(3, .int x4), (0, .ref o0), (1, .int mo), (2, .ref ito)]) hx hb dX4_takeNumber_12 rfl hl (by decide) rfl (fun ls hl => ?_)
  refine lv_iload_n hx hb dX4_takeNumber_13 rfl (lv_at hl 0 rfl) ?_
  refine lv_if_lt (tgt := 22) hx hb dX4_takeNumber_14 (by decide) (fun c7 => ?_) (fun c7 => ?_)
  · have t8 : x4.toInt < 0 := ti_lt c7 rfl (by decide)
    refine lv_iconst (v := 0) hx hb dX4_takeNumber_22 (by decide) ?_
    exact W.zret (v := 0) hx hb hr (by decide) (fun t ht hW => ⟨⟨0, a0, rfl, (by exact ⟨(by have q8 := ti_all a0; omega), (rg_t (a := 0) (by decide) (by first | decide | omega) (by first | decide | omega)), (by omega)⟩), by (try dsimp only); rw [ht]; exact ⟨hT, hF, hm_a0⟩⟩, hS.F ht⟩) hS.2.2 dX4_takeNumber_23
  · have t9 : 0 ≤ x4.toInt := ti_nlt c7 rfl (by decide)
    refine lv_iload_n hx hb dX4_takeNumber_17 rfl (lv_at hl 0 rfl) ?_
    refine lv_iload_n hx hb dX4_takeNumber_18 rfl (lv_at hl 2 rfl) ?_
    have t10 : -2147483648 ≤ mo.toInt ∧ mo.toInt ≤ 2147483647 := ti_all mo
    refine lv_icmp_le (tgt := 24) hx hb dX4_takeNumber_19 (by decide) (fun c11 => ?_) (fun c11 => ?_)
    · have t12 : x4.toInt ≤ mo.toInt := ti_le c11 rfl rfl
      refine lv_aload_n hx hb dX4_takeNumber_24 rfl (lv_at hl 3 rfl) ?_
      refine lv_aload_n hx hb dX4_takeNumber_25 rfl (lv_at hl 1 rfl) ?_
      refine tw_getM (v := .int ln) hx hb hts bF2_X4 hown hK hT hr_o0 shc_7 rfl 11 (by decide) (ht_at2 hts 2 rfl) (fun _ h9 => h9) hm_ln dX4_takeNumber_26 ?_
      refine lv_iload_n hx hb dX4_takeNumber_29 rfl (lv_at hl 0 rfl) ?_
      refine tw_iast (i := ln) (x := x4) hx hb hK hT hG hS hr_ito shc_45 rfl (vin_t (a := ln.toInt) rfl (by omega) (by omega)) (gi_all _) dX4_takeNumber_30 (fun H locs hT oq m13 oi hS => ?_)
      have hF := hF.ast hr_ito skc_45 oq (by decide)
      have m15 := (el_kept (oq _ (gne hr_o0 hr_ito (by decide)))).trans hm_a0
      refine lv_aload_n hx hb dX4_takeNumber_31 rfl (lv_at hl 1 rfl) ?_
      refine lv_dup hx hb dX4_takeNumber_32 rfl ?_
      refine tw_getM (v := .int a0) hx hb hts bF2_X4 hown hK hT hr_o0 shc_7 rfl 13 (by decide) (ht_at2 hts 1 rfl) (fun _ h9 => h9) m15 dX4_takeNumber_33 ?_
      refine lv_iconst (v := 1) hx hb dX4_takeNumber_36 (by decide) ?_
      refine lv_iadd hx hb dX4_takeNumber_37 ?_
      refine lv_topi (fun x19 ex19 => ?_)
      have t20 : x19.toInt = a0.toInt + 1 := ti_add ex19 rfl (by decide) (by omega) (by omega)
      refine tw_put (v := .int x19) (ty := .int) hx hb hts bF2_X4 tyX4 tyX4_ok nmX4 hown hK hT hG hS hr_o0 shc_7 rfl 13 (by decide) (ht_at2 hts 1 rfl) (fun _ h9 => h9) rfl (by decide +kernel) rfl rfl (gl_at rfl (gi_of (show x19.toInt = x19.toInt from rfl) (by omega) (by omega))) dX4_takeNumber_38 (fun H locs hT oq m21 oj hS => ?_)
      have hF := hF.put hr_o0 skc_7 oq oj (by decide)
      refine lv_iconst (v := 1) hx hb dX4_takeNumber_41 (by decide) ?_
      exact W.zret (v := 1) hx hb hr (by decide) (fun t ht hW => ⟨⟨1, x19, rfl, (by exact ⟨(by have q8 := ti_all x19; omega), (rg_t (a := 1) (by decide) (by first | decide | omega) (by first | decide | omega)), (by omega)⟩), by (try dsimp only); rw [ht]; exact ⟨hT, hF, m21⟩⟩, hS.F ht⟩) hS.2.2 dX4_takeNumber_42
    · have t27 : mo.toInt < x4.toInt := ti_nle c11 rfl rfl
      refine lv_iconst (v := 0) hx hb dX4_takeNumber_22 (by decide) ?_
      exact W.zret (v := 0) hx hb hr (by decide) (fun t ht hW => ⟨⟨0, a0, rfl, (by exact ⟨(by have q8 := ti_all a0; omega), (rg_t (a := 0) (by decide) (by first | decide | omega) (by first | decide | omega)), (by omega)⟩), by (try dsimp only); rw [ht]; exact ⟨hT, hF, hm_a0⟩⟩, hS.F ht⟩) hS.2.2 dX4_takeNumber_23
def w_c_takeNumber_tos : List Cond := .code yX4_takeNumber cX4_takeNumber 4 (some .boolean) :: (HAppend.hAppend (α := List Cond) (β := List Cond) (γ := List Cond) [.fieldLink RX4 11 "SeaLand$Law" "things" "[I", .fieldLink RX4 56 "SeaLand$Law" "at" "I", .fieldLink RX4 60 "SeaLand$Law" "lines" "I"] bs2)
set_option maxHeartbeats 4000000 in
set_option maxRecDepth 100000 in
theorem c_takeNumber_tos (l : Launch) (dC : Nat → ClassId) (dI : Nat → Nat → Nat) (kA : Nat → ClassId) (adK adV : Nat → Nat) (G : gT) (H0 : Heap) (nC nS : Int) (o0 : Nat) (mo : Int32) (ito : Nat) (th : Nat) (a0 : Int32) (ln : Int32) (tv ix_tv : Int32) (tn : Int32) (hT : gH (dC, dI) kA (SHc nC nS) G H0) (hr_ito : G ito = some 46) (hr_o0 : G o0 = some 7) (hm_th : el H0 o0 (dI 7 0) = some (.ref th)) (hr_th : G th = some 40) (hm_a0 : el H0 o0 (dI 7 13) = some (.int a0)) (hm_ln : el H0 o0 (dI 7 11) = some (.int ln)) (hq0 : 0 ≤ tn.toInt ∧ tn.toInt ≤ 400) (hq1 : 0 ≤ a0.toInt ∧ a0.toInt ≤ 400) (hat : a0.toInt ≤ tn.toInt) (hq3 : 0 ≤ ln.toInt ∧ ln.toInt ≤ 19) (hx_tv : ix_tv.toInt = tn.toInt) (hm_tv : el H0 th ix_tv.toNatClampNeg = some (.int tv)) (hv_tv : 21 ≤ tv.toInt ∧ tv.toInt ≤ 21) (hgC : 0 ≤ nC ∧ nC ≤ 40) (hgS : 0 ≤ nS ∧ nS ≤ 60) : Met l yX4_takeNumber w_c_takeNumber_tos ({ frames := 0, cells := 0, slots := 0, locals := 0 }) (va_Pc [.ref o0, .int mo, .ref ito] (fun U => U.heap = H0 ∧ va_K (dC, dI) vwCl (tyl kA) U ∧ EVC adK adV (gA G H0.size) U U.heap)) (va_Qi (fun (r : Int32) (u : Int32) => (0 ≤ u.toInt ∧ u.toInt ≤ 400) ∧ (0 ≤ r.toInt ∧ r.toInt ≤ 1) ∧ (a0.toInt ≤ u.toInt ∧ u.toInt ≤ tn.toInt)) (fun (a1 : Int32) (t : State) => gH (dC, dI) kA (SHc nC nS) G t.heap ∧ gF (dC, dI) SKc G ([(7, 13), (46, 0)] : List (Nat × Nat)) H0 t.heap ∧ el t.heap o0 (dI 7 13) = some (.int a1)) (gA G H0.size)) 0 0 (gA G H0.size) := by
  refine Met.ofW (cc := cX4_takeNumber) (maxL := 4) (ret := (some .boolean)) (by decide) rfl ?_
  intro p e s m args below meth c s₁ B hml hv
  obtain ⟨rfl, hH0, hK, hE⟩ := hv
  have hx := B.exec
  have hb := B.bytes
  have hr := B.returns
  have hts := atoms_spec (ws := w_c_takeNumber_tos) B.pre
  have hown : s.vm.findClass RX4 = some m.cls := findClass_of_methodNamed B.named
  have hlocks := B.notSynchronized
  subst hH0
  generalize hAe : gA G s.heap.size = A at hE ⊢
  have hA : ∀ q : Nat, s.heap.size ≤ q → A q := fun q h => by rw [← hAe]; exact Or.inr h
  have hG := gA_of hAe
  have hS : va_S A s.heap s.heap [] := va_S.rf
  have hF : gF (dC, dI) SKc G ([(7, 13), (46, 0)] : List (Nat × Nat)) s.heap s.heap := gF.rf
  have hl := lv_entry ([.ref o0, .int mo, .ref ito]) (n := 4) (Nat.le_of_ble_eq_true rfl)
  rw [lg_entry_eq]
  generalize (lg_sl ([.ref o0, .int mo, .ref ito]) ++ List.replicate (4 - (lg_sl ([.ref o0, .int mo, .ref ito])).length) Slot.unset).toArray = ls at hl ⊢
  have hl : lv_has ls 4 [(0, .ref o0), (1, .int mo), (2, .ref ito)] := hl
  refine lv_aload_n hx hb dX4_takeNumber_0 rfl (lv_at hl 0 rfl) ?_
  refine tw_getM (v := .ref th) hx hb hts bF2_X4 hown hK hT hr_o0 shc_7 rfl 0 (by decide) (ht_at2 hts 0 rfl) (fun _ h9 => h9) hm_th dX4_takeNumber_1 ?_
  refine lv_aload_n hx hb dX4_takeNumber_4 rfl (lv_at hl 0 rfl) ?_
  refine tw_getM (v := .int a0) hx hb hts bF2_X4 hown hK hT hr_o0 shc_7 rfl 13 (by decide) (ht_at2 hts 1 rfl) (fun _ h9 => h9) hm_a0 dX4_takeNumber_5 ?_
  refine tw_iald (i := a0) hx hb hK hT hr_th shc_40 rfl (vin_t (a := a0.toInt) rfl (by omega) (by omega)) dX4_takeNumber_8 (fun v9 m1 h9 => ?_)
  obtain ⟨x2, rfl, gx2, kx2⟩ := h9
  have t3 : a0.toInt = ix_tv.toInt → x2.toInt = tv.toInt := fun h8 => congrArg Int32.toInt (el_same m1 hm_tv h8)
  refine lv_bipush (v := 40) hx hb dX4_takeNumber_9 (by decide) ?_
  refine lv_isub hx hb dX4_takeNumber_11 ?_
  refine lv_topi (fun x4 ex4 => ?_)
  have t5 : -2147483648 ≤ x2.toInt ∧ x2.toInt ≤ 2147483647 := ti_all x2
  have t6 : x4.toInt = x2.toInt - 40 := ti_sub ex4 rfl (by decide) (by omega) (by omega)
  refine lv_istore_n (lv' := [(3, .int x4), (0, .ref o0), (1, .int mo), (2, .ref ito)]) hx hb dX4_takeNumber_12 rfl hl (by decide) rfl (fun ls hl => ?_)
  refine lv_iload_n hx hb dX4_takeNumber_13 rfl (lv_at hl 0 rfl) ?_
  refine lv_if_lt (tgt := 22) hx hb dX4_takeNumber_14 (by decide) (fun c7 => ?_) (fun c7 => ?_)
  · have t8 : x4.toInt < 0 := ti_lt c7 rfl (by decide)
    refine lv_iconst (v := 0) hx hb dX4_takeNumber_22 (by decide) ?_
    exact W.zret (v := 0) hx hb hr (by decide) (fun t ht hW => ⟨⟨0, a0, rfl, (by exact ⟨(by have q8 := ti_all a0; omega), (rg_t (a := 0) (by decide) (by first | decide | omega) (by first | decide | omega)), (by omega)⟩), by (try dsimp only); rw [ht]; exact ⟨hT, hF, hm_a0⟩⟩, hS.F ht⟩) hS.2.2 dX4_takeNumber_23
  · have t9 : 0 ≤ x4.toInt := ti_nlt c7 rfl (by decide)
    refine lv_iload_n hx hb dX4_takeNumber_17 rfl (lv_at hl 0 rfl) ?_
    refine lv_iload_n hx hb dX4_takeNumber_18 rfl (lv_at hl 2 rfl) ?_
    have t10 : -2147483648 ≤ mo.toInt ∧ mo.toInt ≤ 2147483647 := ti_all mo
    refine lv_icmp_le (tgt := 24) hx hb dX4_takeNumber_19 (by decide) (fun c11 => ?_) (fun c11 => ?_)
    · have t12 : x4.toInt ≤ mo.toInt := ti_le c11 rfl rfl
      refine lv_aload_n hx hb dX4_takeNumber_24 rfl (lv_at hl 3 rfl) ?_
      refine lv_aload_n hx hb dX4_takeNumber_25 rfl (lv_at hl 1 rfl) ?_
      refine tw_getM (v := .int ln) hx hb hts bF2_X4 hown hK hT hr_o0 shc_7 rfl 11 (by decide) (ht_at2 hts 2 rfl) (fun _ h9 => h9) hm_ln dX4_takeNumber_26 ?_
      refine lv_iload_n hx hb dX4_takeNumber_29 rfl (lv_at hl 0 rfl) ?_
      refine tw_iast (i := ln) (x := x4) hx hb hK hT hG hS hr_ito shc_46 rfl (vin_t (a := ln.toInt) rfl (by omega) (by omega)) (gi_all _) dX4_takeNumber_30 (fun H locs hT oq m13 oi hS => ?_)
      have hF := hF.ast hr_ito skc_46 oq (by decide)
      have m15 := (el_kept (oq _ (gne hr_o0 hr_ito (by decide)))).trans hm_a0
      refine lv_aload_n hx hb dX4_takeNumber_31 rfl (lv_at hl 1 rfl) ?_
      refine lv_dup hx hb dX4_takeNumber_32 rfl ?_
      refine tw_getM (v := .int a0) hx hb hts bF2_X4 hown hK hT hr_o0 shc_7 rfl 13 (by decide) (ht_at2 hts 1 rfl) (fun _ h9 => h9) m15 dX4_takeNumber_33 ?_
      refine lv_iconst (v := 1) hx hb dX4_takeNumber_36 (by decide) ?_
      refine lv_iadd hx hb dX4_takeNumber_37 ?_
      refine lv_topi (fun x19 ex19 => ?_)
      have t20 : x19.toInt = a0.toInt + 1 := ti_add ex19 rfl (by decide) (by omega) (by omega)
      refine tw_put (v := .int x19) (ty := .int) hx hb hts bF2_X4 tyX4 tyX4_ok nmX4 hown hK hT hG hS hr_o0 shc_7 rfl 13 (by decide) (ht_at2 hts 1 rfl) (fun _ h9 => h9) rfl (by decide +kernel) rfl rfl (gl_at rfl (gi_of (show x19.toInt = x19.toInt from rfl) (by omega) (by omega))) dX4_takeNumber_38 (fun H locs hT oq m21 oj hS => ?_)
      have hF := hF.put hr_o0 skc_7 oq oj (by decide)
      refine lv_iconst (v := 1) hx hb dX4_takeNumber_41 (by decide) ?_
      exact W.zret (v := 1) hx hb hr (by decide) (fun t ht hW => ⟨⟨1, x19, rfl, (by exact ⟨(by have q8 := ti_all x19; omega), (rg_t (a := 1) (by decide) (by first | decide | omega) (by first | decide | omega)), (by omega)⟩), by (try dsimp only); rw [ht]; exact ⟨hT, hF, m21⟩⟩, hS.F ht⟩) hS.2.2 dX4_takeNumber_42
    · have t27 : mo.toInt < x4.toInt := ti_nle c11 rfl rfl
      refine lv_iconst (v := 0) hx hb dX4_takeNumber_22 (by decide) ?_
      exact W.zret (v := 0) hx hb hr (by decide) (fun t ht hW => ⟨⟨0, a0, rfl, (by exact ⟨(by have q8 := ti_all a0; omega), (rg_t (a := 0) (by decide) (by first | decide | omega) (by first | decide | omega)), (by omega)⟩), by (try dsimp only); rw [ht]; exact ⟨hT, hF, hm_a0⟩⟩, hS.F ht⟩) hS.2.2 dX4_takeNumber_23
def w_c_lineKind : List Cond := .code yX4_lineKind cX4_lineKind 1 (some .int) :: (HAppend.hAppend (α := List Cond) (β := List Cond) (γ := List Cond) [] bs2)
set_option maxHeartbeats 4000000 in
set_option maxRecDepth 100000 in
theorem c_lineKind (l : Launch) (dC : Nat → ClassId) (dI : Nat → Nat → Nat) (kA : Nat → ClassId) (adK adV : Nat → Nat) (G : gT) (H0 : Heap) (nC nS : Int) (tg : Int32)  (hT : gH (dC, dI) kA (SHc nC nS) G H0) (hgC : 0 ≤ nC ∧ nC ≤ 40) (hgS : 0 ≤ nS ∧ nS ≤ 60) : Met l yX4_lineKind w_c_lineKind ({ frames := 0, cells := 0, slots := 0, locals := 0 }) (va_Pc [.int tg] (fun U => U.heap = H0 ∧ va_K (dC, dI) vwCl (tyl kA) U ∧ EVC adK adV (gA G H0.size) U U.heap)) (va_Qi (fun (r : Int32) (u : Unit) => (-1 ≤ r.toInt ∧ r.toInt ≤ 9) ∧ (r.toInt = -1 ∨ tg.toInt ≠ 21)) (fun (_ : Unit) (t : State) => gH (dC, dI) kA (SHc nC nS) G t.heap ∧ gF (dC, dI) SKc G ([] : List (Nat × Nat)) H0 t.heap) (gA G H0.size)) 0 0 (gA G H0.size) := by
  refine Met.ofW (cc := cX4_lineKind) (maxL := 1) (ret := (some .int)) (by decide) rfl ?_
  intro p e s m args below meth c s₁ B hml hv
  obtain ⟨rfl, hH0, hK, hE⟩ := hv
  have hx := B.exec
  have hb := B.bytes
  have hr := B.returns
  have hts := atoms_spec (ws := w_c_lineKind) B.pre
  have hown : s.vm.findClass RX4 = some m.cls := findClass_of_methodNamed B.named
  have hlocks := B.notSynchronized
  subst hH0
  generalize hAe : gA G s.heap.size = A at hE ⊢
  have hA : ∀ q : Nat, s.heap.size ≤ q → A q := fun q h => by rw [← hAe]; exact Or.inr h
  have hG := gA_of hAe
  have hS : va_S A s.heap s.heap [] := va_S.rf
  have hF : gF (dC, dI) SKc G ([] : List (Nat × Nat)) s.heap s.heap := gF.rf
  have hl := lv_entry ([.int tg]) (n := 1) (Nat.le_of_ble_eq_true rfl)
  rw [lg_entry_eq]
  generalize (lg_sl ([.int tg]) ++ List.replicate (1 - (lg_sl ([.int tg])).length) Slot.unset).toArray = ls at hl ⊢
  have hl : lv_has ls 1 [(0, .int tg)] := hl
  refine lv_iload_n hx hb dX4_lineKind_0 rfl (lv_at hl 0 rfl) ?_
  refine lv_iconst (v := 1) hx hb dX4_lineKind_1 (by decide) ?_
  have t1 : -2147483648 ≤ tg.toInt ∧ tg.toInt ≤ 2147483647 := ti_all tg
  refine lv_icmp_ne (tgt := 7) hx hb dX4_lineKind_2 (by decide) (fun c2 => ?_) (fun c2 => ?_)
  · have t3 : tg.toInt ≠ 1 := ti_ne c2 rfl (by decide)
    refine lv_bipush (v := 30) hx hb dX4_lineKind_7 (by decide) ?_
    refine lv_iload_n hx hb dX4_lineKind_9 rfl (lv_at hl 0 rfl) ?_
    refine lv_icmp_gt (tgt := 26) hx hb dX4_lineKind_10 (by decide) (fun c4 => ?_) (fun c4 => ?_)
    · have t5 : tg.toInt < 30 := ti_lt c4 rfl (by decide)
      refine lv_iconst (v := (-1)) hx hb dX4_lineKind_26 (by decide) ?_
      exact W.iret (v := (-1)) hx hb hr (fun t ht hW => ⟨⟨(-1), (), rfl, (by exact ⟨(rg_t (a := (-1)) (by decide) (by first | decide | omega) (by first | decide | omega)), (by have : (-1 : Int32).toInt = (-1) := (by decide); omega)⟩), by (try dsimp only); rw [ht]; exact ⟨hT, hF⟩⟩, hS.F ht⟩) hS.2.2 dX4_lineKind_27
    · have t6 : 30 ≤ tg.toInt := ti_nlt c4 rfl (by decide)
      refine lv_iload_n hx hb dX4_lineKind_13 rfl (lv_at hl 0 rfl) ?_
      refine lv_bipush (v := 39) hx hb dX4_lineKind_14 (by decide) ?_
      refine lv_icmp_gt (tgt := 26) hx hb dX4_lineKind_16 (by decide) (fun c7 => ?_) (fun c7 => ?_)
      · have t8 : 39 < tg.toInt := ti_lt c7 (by decide) rfl
        refine lv_iconst (v := (-1)) hx hb dX4_lineKind_26 (by decide) ?_
        exact W.iret (v := (-1)) hx hb hr (fun t ht hW => ⟨⟨(-1), (), rfl, (by exact ⟨(rg_t (a := (-1)) (by decide) (by first | decide | omega) (by first | decide | omega)), (by have : (-1 : Int32).toInt = (-1) := (by decide); omega)⟩), by (try dsimp only); rw [ht]; exact ⟨hT, hF⟩⟩, hS.F ht⟩) hS.2.2 dX4_lineKind_27
      · have t9 : tg.toInt ≤ 39 := ti_nlt c7 (by decide) rfl
        refine lv_iload_n hx hb dX4_lineKind_19 rfl (lv_at hl 0 rfl) ?_
        refine lv_bipush (v := 30) hx hb dX4_lineKind_20 (by decide) ?_
        refine lv_isub hx hb dX4_lineKind_22 ?_
        refine lv_topi (fun x10 ex10 => ?_)
        have t11 : x10.toInt = tg.toInt - 30 := ti_sub ex10 rfl (by decide) (by omega) (by omega)
        refine lv_goto (tgt := 27) hx hb dX4_lineKind_23 (by decide) ?_
        exact W.iret (v := x10) hx hb hr (fun t ht hW => ⟨⟨x10, (), rfl, (by exact ⟨(by have q8 := ti_all x10; omega), (by omega)⟩), by (try dsimp only); rw [ht]; exact ⟨hT, hF⟩⟩, hS.F ht⟩) hS.2.2 dX4_lineKind_27
  · have t12 : tg.toInt = 1 := ti_eq c2 rfl (by decide)
    refine lv_iconst (v := 1) hx hb dX4_lineKind_5 (by decide) ?_
    exact W.iret (v := 1) hx hb hr (fun t ht hW => ⟨⟨1, (), rfl, (by exact ⟨(rg_t (a := 1) (by decide) (by first | decide | omega) (by first | decide | omega)), (by have : (1 : Int32).toInt = 1 := (by decide); omega)⟩), by (try dsimp only); rw [ht]; exact ⟨hT, hF⟩⟩, hS.F ht⟩) hS.2.2 dX4_lineKind_6
def w_c_addStep : List Cond := .code yX4_addStep cX4_addStep 2 none :: (HAppend.hAppend (α := List Cond) (β := List Cond) (γ := List Cond) [.fieldLink RX4 63 "SeaLand$Law" "stepped" "I", .fieldLink RX4 39 "SeaLand$Law" "steps" "[I"] bs2)
set_option maxHeartbeats 4000000 in
set_option maxRecDepth 100000 in
theorem c_addStep (l : Launch) (dC : Nat → ClassId) (dI : Nat → Nat → Nat) (kA : Nat → ClassId) (adK adV : Nat → Nat) (G : gT) (H0 : Heap) (nC nS : Int) (o0 : Nat) (sp : Int32)  (hT : gH (dC, dI) kA (SHc nC nS) G H0) (hr_o0 : G o0 = some 7) (hq0 : 0 ≤ sp.toInt ∧ sp.toInt ≤ 2147483647) (hgC : 0 ≤ nC ∧ nC ≤ 40) (hgS : 0 ≤ nS ∧ nS ≤ 60) : Met l yX4_addStep w_c_addStep ({ frames := 0, cells := 0, slots := 0, locals := 0 }) (va_Pc [.ref o0, .int sp] (fun U => U.heap = H0 ∧ va_K (dC, dI) vwCl (tyl kA) U ∧ EVC adK adV (gA G H0.size) U U.heap)) (va_Qv (fun (u : Unit) => True) (fun (_ : Unit) (t : State) => gH (dC, dI) kA (SHc nC nS) G t.heap ∧ gF (dC, dI) SKc G ([(7, 12), (49, 0)] : List (Nat × Nat)) H0 t.heap) (gA G H0.size)) 0 0 (gA G H0.size) := by
  refine Met.ofW (cc := cX4_addStep) (maxL := 2) (ret := none) (by decide) rfl ?_
  intro p e s m args below meth c s₁ B hml hv
  obtain ⟨rfl, hH0, hK, hE⟩ := hv
  have hx := B.exec
  have hb := B.bytes
  have hr := B.returns
  have hts := atoms_spec (ws := w_c_addStep) B.pre
  have hown : s.vm.findClass RX4 = some m.cls := findClass_of_methodNamed B.named
  have hlocks := B.notSynchronized
  subst hH0
  generalize hAe : gA G s.heap.size = A at hE ⊢
  have hA : ∀ q : Nat, s.heap.size ≤ q → A q := fun q h => by rw [← hAe]; exact Or.inr h
  have hG := gA_of hAe
  have hS : va_S A s.heap s.heap [] := va_S.rf
  have hF : gF (dC, dI) SKc G ([(7, 12), (49, 0)] : List (Nat × Nat)) s.heap s.heap := gF.rf
  have hl := lv_entry ([.ref o0, .int sp]) (n := 2) (Nat.le_of_ble_eq_true rfl)
  rw [lg_entry_eq]
  generalize (lg_sl ([.ref o0, .int sp]) ++ List.replicate (2 - (lg_sl ([.ref o0, .int sp])).length) Slot.unset).toArray = ls at hl ⊢
  have hl : lv_has ls 2 [(0, .ref o0), (1, .int sp)] := hl
  refine lv_aload_n hx hb dX4_addStep_0 rfl (lv_at hl 0 rfl) ?_
  refine tw_get hx hb hts bF2_X4 hown hK hT hr_o0 shc_7 rfl 12 (by decide) (ht_at2 hts 0 rfl) (fun _ h9 => h9) dX4_addStep_1 (fun v9 m1 h9 => ?_)
  obtain ⟨x2, rfl, gx2, kx2⟩ := h9 _ rfl
  refine lv_sipush (v := 400) hx hb dX4_addStep_4 (by decide) ?_
  refine lv_icmp_ge (tgt := 30) hx hb dX4_addStep_7 (by decide) (fun c3 => ?_) (fun c3 => ?_)
  · have t4 : 400 ≤ x2.toInt := ti_le c3 (by decide) rfl
    exact W.vret hx hb hr (fun t ht hW => ⟨⟨(), rfl, (by exact trivial), by (try dsimp only); rw [ht]; exact ⟨hT, hF⟩⟩, hS.F ht⟩) hS.2.2 dX4_addStep_30
  · have t5 : x2.toInt < 400 := ti_nle c3 (by decide) rfl
    refine lv_aload_n hx hb dX4_addStep_10 rfl (lv_at hl 0 rfl) ?_
    refine tw_get hx hb hts bF2_X4 hown hK hT hr_o0 shc_7 rfl 9 (by decide) (ht_at2 hts 1 rfl) (fun _ h9 => h9) dX4_addStep_11 (fun v9 m6 h9 => ?_)
    obtain ⟨b7, rfl, hg8⟩ := h9 _ rfl
    refine lv_aload_n hx hb dX4_addStep_14 rfl (lv_at hl 0 rfl) ?_
    refine tw_getM (v := .int x2) hx hb hts bF2_X4 hown hK hT hr_o0 shc_7 rfl 12 (by decide) (ht_at2 hts 0 rfl) (fun _ h9 => h9) m1 dX4_addStep_15 ?_
    refine lv_iload_n hx hb dX4_addStep_18 rfl (lv_at hl 1 rfl) ?_
    refine tw_iast (i := x2) (x := sp) hx hb hK hT hG hS hg8 shc_49 rfl (vin_t (a := x2.toInt) rfl (by omega) (by omega)) (gi_of (show sp.toInt = sp.toInt from rfl) (by omega) (by omega)) dX4_addStep_19 (fun H locs hT oq m9 oi hS => ?_)
    have hF := hF.ast hg8 skc_49 oq (by decide)
    have m10 := (el_kept (oq _ (gne hr_o0 hg8 (by decide)))).trans m1
    refine lv_aload_n hx hb dX4_addStep_20 rfl (lv_at hl 0 rfl) ?_
    refine lv_dup hx hb dX4_addStep_21 rfl ?_
    refine tw_getM (v := .int x2) hx hb hts bF2_X4 hown hK hT hr_o0 shc_7 rfl 12 (by decide) (ht_at2 hts 0 rfl) (fun _ h9 => h9) m10 dX4_addStep_22 ?_
    refine lv_iconst (v := 1) hx hb dX4_addStep_25 (by decide) ?_
    refine lv_iadd hx hb dX4_addStep_26 ?_
    refine lv_topi (fun x12 ex12 => ?_)
    have t13 : x12.toInt = x2.toInt + 1 := ti_add ex12 rfl (by decide) (by omega) (by omega)
    refine tw_put (v := .int x12) (ty := .int) hx hb hts bF2_X4 tyX4 tyX4_ok nmX4 hown hK hT hG hS hr_o0 shc_7 rfl 12 (by decide) (ht_at2 hts 0 rfl) (fun _ h9 => h9) rfl (by decide +kernel) rfl rfl (gl_at rfl (gi_of (show x12.toInt = x12.toInt from rfl) (by omega) (by omega))) dX4_addStep_27 (fun H locs hT oq m14 oj hS => ?_)
    have hF := hF.put hr_o0 skc_7 oq oj (by decide)
    exact W.vret hx hb hr (fun t ht hW => ⟨⟨(), rfl, (by exact trivial), by (try dsimp only); rw [ht]; exact ⟨hT, hF⟩⟩, hS.F ht⟩) hS.2.2 dX4_addStep_30
def w_c_readPart : List Cond := .code yX4_readPart cX4_readPart 2 (some .boolean) :: (HAppend.hAppend (α := List Cond) (β := List Cond) (γ := List Cond) [.fieldLink RX4 11 "SeaLand$Law" "things" "[I", .fieldLink RX4 56 "SeaLand$Law" "at" "I", .code yX4_addStep cX4_addStep 2 none, .fieldLink RX4 63 "SeaLand$Law" "stepped" "I", .fieldLink RX4 39 "SeaLand$Law" "steps" "[I", .methodLink RX4 179 yX4_addStep, .instanceMethod yX4_addStep, .selects RX4 yX4_addStep yX4_addStep, .initialized RX4] bs2)
set_option maxHeartbeats 4000000 in
set_option maxRecDepth 100000 in
theorem c_readPart (l : Launch) (dC : Nat → ClassId) (dI : Nat → Nat → Nat) (kA : Nat → ClassId) (adK adV : Nat → Nat) (G : gT) (H0 : Heap) (nC nS : Int) (o0 : Nat) (th : Nat) (a0 : Int32) (tv ix_tv : Int32) (tn : Int32) (hT : gH (dC, dI) kA (SHc nC nS) G H0) (hr_o0 : G o0 = some 7) (hm_th : el H0 o0 (dI 7 0) = some (.ref th)) (hr_th : G th = some 40) (hm_a0 : el H0 o0 (dI 7 13) = some (.int a0)) (hq0 : 0 ≤ tn.toInt ∧ tn.toInt ≤ 400) (hq1 : 0 ≤ a0.toInt ∧ a0.toInt ≤ 400) (hat : a0.toInt ≤ tn.toInt) (hx_tv : ix_tv.toInt = tn.toInt) (hm_tv : el H0 th ix_tv.toNatClampNeg = some (.int tv)) (hv_tv : 21 ≤ tv.toInt ∧ tv.toInt ≤ 21) (hgC : 0 ≤ nC ∧ nC ≤ 40) (hgS : 0 ≤ nS ∧ nS ≤ 60) : Met l yX4_readPart w_c_readPart ({ frames := 1, cells := 0, slots := 0, locals := 21 }) (va_Pc [.ref o0] (fun U => U.heap = H0 ∧ va_K (dC, dI) vwCl (tyl kA) U ∧ EVC adK adV (gA G H0.size) U U.heap)) (va_Qi (fun (r : Int32) (u : Int32) => (0 ≤ u.toInt ∧ u.toInt ≤ 400) ∧ (0 ≤ r.toInt ∧ r.toInt ≤ 1) ∧ (a0.toInt ≤ u.toInt ∧ u.toInt ≤ tn.toInt)) (fun (a1 : Int32) (t : State) => gH (dC, dI) kA (SHc nC nS) G t.heap ∧ gF (dC, dI) SKc G ([(7, 12), (7, 13), (49, 0)] : List (Nat × Nat)) H0 t.heap ∧ el t.heap o0 (dI 7 13) = some (.int a1)) (gA G H0.size)) 0 0 (gA G H0.size) := by
  refine Met.ofW (cc := cX4_readPart) (maxL := 2) (ret := (some .boolean)) (by decide) rfl ?_
  intro p e s m args below meth c s₁ B hml hv
  obtain ⟨rfl, hH0, hK, hE⟩ := hv
  have hx := B.exec
  have hb := B.bytes
  have hr := B.returns
  have hts := atoms_spec (ws := w_c_readPart) B.pre
  have hown : s.vm.findClass RX4 = some m.cls := findClass_of_methodNamed B.named
  have hlocks := B.notSynchronized
  subst hH0
  generalize hAe : gA G s.heap.size = A at hE ⊢
  have hA : ∀ q : Nat, s.heap.size ≤ q → A q := fun q h => by rw [← hAe]; exact Or.inr h
  have hG := gA_of hAe
  have hS : va_S A s.heap s.heap [] := va_S.rf
  have hF : gF (dC, dI) SKc G ([(7, 12), (7, 13), (49, 0)] : List (Nat × Nat)) s.heap s.heap := gF.rf
  have hl := lv_entry ([.ref o0]) (n := 2) (Nat.le_of_ble_eq_true rfl)
  rw [lg_entry_eq]
  generalize (lg_sl ([.ref o0]) ++ List.replicate (2 - (lg_sl ([.ref o0])).length) Slot.unset).toArray = ls at hl ⊢
  have hl : lv_has ls 2 [(0, .ref o0)] := hl
  refine lv_aload_n hx hb dX4_readPart_0 rfl (lv_at hl 0 rfl) ?_
  refine tw_getM (v := .ref th) hx hb hts bF2_X4 hown hK hT hr_o0 shc_7 rfl 0 (by decide) (ht_at2 hts 0 rfl) (fun _ h9 => h9) hm_th dX4_readPart_1 ?_
  refine lv_aload_n hx hb dX4_readPart_4 rfl (lv_at hl 0 rfl) ?_
  refine tw_getM (v := .int a0) hx hb hts bF2_X4 hown hK hT hr_o0 shc_7 rfl 13 (by decide) (ht_at2 hts 1 rfl) (fun _ h9 => h9) hm_a0 dX4_readPart_5 ?_
  refine tw_iald (i := a0) hx hb hK hT hr_th shc_40 rfl (vin_t (a := a0.toInt) rfl (by omega) (by omega)) dX4_readPart_8 (fun v9 m1 h9 => ?_)
  obtain ⟨x2, rfl, gx2, kx2⟩ := h9
  have t3 : a0.toInt = ix_tv.toInt → x2.toInt = tv.toInt := fun h8 => congrArg Int32.toInt (el_same m1 hm_tv h8)
  refine lv_istore_n (lv' := [(1, .int x2), (0, .ref o0)]) hx hb dX4_readPart_9 rfl hl (by decide) rfl (fun ls hl => ?_)
  refine lv_iload_n hx hb dX4_readPart_10 rfl (lv_at hl 0 rfl) ?_
  refine lv_bipush (v := 10) hx hb dX4_readPart_11 (by decide) ?_
  have t4 : -2147483648 ≤ x2.toInt ∧ x2.toInt ≤ 2147483647 := ti_all x2
  refine lv_icmp_lt (tgt := 24) hx hb dX4_readPart_13 (by decide) (fun c5 => ?_) (fun c5 => ?_)
  · have t6 : x2.toInt < 10 := ti_lt c5 rfl (by decide)
    refine lv_aload_n hx hb dX4_readPart_24 rfl (lv_at hl 1 rfl) ?_
    refine lv_iload_n hx hb dX4_readPart_25 rfl (lv_at hl 0 rfl) ?_
    have hFc := gA_free hG hA hS
    refine va_callv (va_runV (As := [.int x2]) (rest := []) ⟨hx, hb, hml, hown, hts⟩ (c_addStep l dC dI kA adK adV G s.heap nC nS o0 x2 hT hr_o0 (by have q8 := ti_all x2; omega) (by omega) (by omega)) (cwV 1 hts (goodIn_app (goodIn_r _ [6, 7, 8, 9] rfl (by decide +kernel)) (goodIn_ca (goodIn_r _ [3, 4, 5] rfl (by decide +kernel)) (bs2_in _ _))) rfl rfl rfl (by decide +kernel) ⟨(Nat.le_of_ble_eq_true rfl), (Nat.le_of_ble_eq_true rfl)⟩) ⟨fun a U g mk q => by obtain ⟨q0, q1, qK, qE⟩ := q; exact ⟨q0, q1, va_K.moved (u := U) (U := U.calling g mk a) (Vm.Alike.refl U.vm) qK, EVC.blind g mk a qE⟩, gH_rc hK hT hr_o0 shc_7 rfl, fun U hU hW => ⟨rfl, hU, va_K.moved hW.alike hK, hE.call hS hFc hU hW⟩⟩ rfl rfl hl.1 rfl (lv_room (Nat.le_of_ble_eq_true rfl)) dX4_readPart_26 ⟨(Nat.le_of_ble_eq_true rfl), (Nat.le_of_ble_eq_true rfl)⟩) hS (fun q _ h => hFc q h) hFc (fun u t H locs ht hvm hw8 hB _ _ hS => ?_)
    obtain ⟨hT, hF1⟩ := hB
    rw [ht] at hT hF1
    have m10 := (hF1.fld hr_o0 skc_7 (k := 13) (by decide) (by decide)).trans hm_a0
    have hF := hF.more hF1 (by decide)
    try dsimp only at hw8
    refine lv_aload_n hx hb dX4_readPart_29 rfl (lv_at hl 1 rfl) ?_
    refine lv_dup hx hb dX4_readPart_30 rfl ?_
    refine tw_getM (v := .int a0) hx hb hts bF2_X4 hown hK hT hr_o0 shc_7 rfl 13 (by decide) (ht_at2 hts 1 rfl) (fun _ h9 => h9) m10 dX4_readPart_31 ?_
    refine lv_iconst (v := 1) hx hb dX4_readPart_34 (by decide) ?_
    refine lv_iadd hx hb dX4_readPart_35 ?_
    refine lv_topi (fun x13 ex13 => ?_)
    have t14 : x13.toInt = a0.toInt + 1 := ti_add ex13 rfl (by decide) (by omega) (by omega)
    refine tw_put (v := .int x13) (ty := .int) hx hb hts bF2_X4 tyX4 tyX4_ok nmX4 hown hK hT hG hS hr_o0 shc_7 rfl 13 (by decide) (ht_at2 hts 1 rfl) (fun _ h9 => h9) rfl (by decide +kernel) rfl rfl (gl_at rfl (gi_of (show x13.toInt = x13.toInt from rfl) (by omega) (by omega))) dX4_readPart_36 (fun H locs hT oq m15 oj hS => ?_)
    have hF := hF.put hr_o0 skc_7 oq oj (by decide)
    refine lv_iconst (v := 1) hx hb dX4_readPart_39 (by decide) ?_
    exact W.zret (v := 1) hx hb hr (by decide) (fun t ht hW => ⟨⟨1, x13, rfl, (by exact ⟨(by have q8 := ti_all x13; omega), (rg_t (a := 1) (by decide) (by first | decide | omega) (by first | decide | omega)), (by omega)⟩), by (try dsimp only); rw [ht]; exact ⟨hT, hF, m15⟩⟩, hS.F ht⟩) hS.2.2 dX4_readPart_40
  · have t19 : 10 ≤ x2.toInt := ti_nlt c5 rfl (by decide)
    refine lv_iload_n hx hb dX4_readPart_16 rfl (lv_at hl 0 rfl) ?_
    refine lv_bipush (v := 40) hx hb dX4_readPart_17 (by decide) ?_
    refine lv_icmp_ge (tgt := 24) hx hb dX4_readPart_19 (by decide) (fun c20 => ?_) (fun c20 => ?_)
    · have t21 : 40 ≤ x2.toInt := ti_le c20 (by decide) rfl
      refine lv_aload_n hx hb dX4_readPart_24 rfl (lv_at hl 1 rfl) ?_
      refine lv_iload_n hx hb dX4_readPart_25 rfl (lv_at hl 0 rfl) ?_
      have hFc := gA_free hG hA hS
      refine va_callv (va_runV (As := [.int x2]) (rest := []) ⟨hx, hb, hml, hown, hts⟩ (c_addStep l dC dI kA adK adV G s.heap nC nS o0 x2 hT hr_o0 (by have q8 := ti_all x2; omega) (by omega) (by omega)) (cwV 1 hts (goodIn_app (goodIn_r _ [6, 7, 8, 9] rfl (by decide +kernel)) (goodIn_ca (goodIn_r _ [3, 4, 5] rfl (by decide +kernel)) (bs2_in _ _))) rfl rfl rfl (by decide +kernel) ⟨(Nat.le_of_ble_eq_true rfl), (Nat.le_of_ble_eq_true rfl)⟩) ⟨fun a U g mk q => by obtain ⟨q0, q1, qK, qE⟩ := q; exact ⟨q0, q1, va_K.moved (u := U) (U := U.calling g mk a) (Vm.Alike.refl U.vm) qK, EVC.blind g mk a qE⟩, gH_rc hK hT hr_o0 shc_7 rfl, fun U hU hW => ⟨rfl, hU, va_K.moved hW.alike hK, hE.call hS hFc hU hW⟩⟩ rfl rfl hl.1 rfl (lv_room (Nat.le_of_ble_eq_true rfl)) dX4_readPart_26 ⟨(Nat.le_of_ble_eq_true rfl), (Nat.le_of_ble_eq_true rfl)⟩) hS (fun q _ h => hFc q h) hFc (fun u t H locs ht hvm hw23 hB _ _ hS => ?_)
      obtain ⟨hT, hF1⟩ := hB
      rw [ht] at hT hF1
      have m25 := (hF1.fld hr_o0 skc_7 (k := 13) (by decide) (by decide)).trans hm_a0
      have hF := hF.more hF1 (by decide)
      try dsimp only at hw23
      refine lv_aload_n hx hb dX4_readPart_29 rfl (lv_at hl 1 rfl) ?_
      refine lv_dup hx hb dX4_readPart_30 rfl ?_
      refine tw_getM (v := .int a0) hx hb hts bF2_X4 hown hK hT hr_o0 shc_7 rfl 13 (by decide) (ht_at2 hts 1 rfl) (fun _ h9 => h9) m25 dX4_readPart_31 ?_
      refine lv_iconst (v := 1) hx hb dX4_readPart_34 (by decide) ?_
      refine lv_iadd hx hb dX4_readPart_35 ?_
      refine lv_topi (fun x28 ex28 => ?_)
      have t29 : x28.toInt = a0.toInt + 1 := ti_add ex28 rfl (by decide) (by omega) (by omega)
      refine tw_put (v := .int x28) (ty := .int) hx hb hts bF2_X4 tyX4 tyX4_ok nmX4 hown hK hT hG hS hr_o0 shc_7 rfl 13 (by decide) (ht_at2 hts 1 rfl) (fun _ h9 => h9) rfl (by decide +kernel) rfl rfl (gl_at rfl (gi_of (show x28.toInt = x28.toInt from rfl) (by omega) (by omega))) dX4_readPart_36 (fun H locs hT oq m30 oj hS => ?_)
      have hF := hF.put hr_o0 skc_7 oq oj (by decide)
      refine lv_iconst (v := 1) hx hb dX4_readPart_39 (by decide) ?_
      exact W.zret (v := 1) hx hb hr (by decide) (fun t ht hW => ⟨⟨1, x28, rfl, (by exact ⟨(by have q8 := ti_all x28; omega), (rg_t (a := 1) (by decide) (by first | decide | omega) (by first | decide | omega)), (by omega)⟩), by (try dsimp only); rw [ht]; exact ⟨hT, hF, m30⟩⟩, hS.F ht⟩) hS.2.2 dX4_readPart_40
    · have t34 : x2.toInt < 40 := ti_nle c20 (by decide) rfl
      refine lv_iconst (v := 0) hx hb dX4_readPart_22 (by decide) ?_
      exact W.zret (v := 0) hx hb hr (by decide) (fun t ht hW => ⟨⟨0, a0, rfl, (by exact ⟨(by have q8 := ti_all a0; omega), (rg_t (a := 0) (by decide) (by first | decide | omega) (by first | decide | omega)), (by omega)⟩), by (try dsimp only); rw [ht]; exact ⟨hT, hF, hm_a0⟩⟩, hS.F ht⟩) hS.2.2 dX4_readPart_23
def w_c_readSum : List Cond := .code yX4_readSum cX4_readSum 3 (some .boolean) :: (HAppend.hAppend (α := List Cond) (β := List Cond) (γ := List Cond) [.code yX4_readPart cX4_readPart 2 (some .boolean), .fieldLink RX4 11 "SeaLand$Law" "things" "[I", .fieldLink RX4 56 "SeaLand$Law" "at" "I", .code yX4_addStep cX4_addStep 2 none, .fieldLink RX4 63 "SeaLand$Law" "stepped" "I", .fieldLink RX4 39 "SeaLand$Law" "steps" "[I", .methodLink RX4 179 yX4_addStep, .instanceMethod yX4_addStep, .selects RX4 yX4_addStep yX4_addStep, .initialized RX4, .methodLink RX4 192 yX4_readPart, .instanceMethod yX4_readPart, .selects RX4 yX4_readPart yX4_readPart, .code yX4_take cX4_take 2 (some .boolean), .methodLink RX4 70 yX4_take, .instanceMethod yX4_take, .selects RX4 yX4_take yX4_take] bs2)
set_option maxHeartbeats 4000000 in
set_option maxRecDepth 100000 in
theorem c_readSum (l : Launch) (dC : Nat → ClassId) (dI : Nat → Nat → Nat) (kA : Nat → ClassId) (adK adV : Nat → Nat) (G : gT) (H0 : Heap) (nC nS : Int) (o0 : Nat) (th : Nat) (a0 : Int32) (tv ix_tv : Int32) (tn : Int32) (hT : gH (dC, dI) kA (SHc nC nS) G H0) (hr_o0 : G o0 = some 7) (hm_th : el H0 o0 (dI 7 0) = some (.ref th)) (hr_th : G th = some 40) (hm_a0 : el H0 o0 (dI 7 13) = some (.int a0)) (hq0 : 0 ≤ tn.toInt ∧ tn.toInt ≤ 400) (hq1 : 0 ≤ a0.toInt ∧ a0.toInt ≤ 400) (hat : a0.toInt ≤ tn.toInt) (hx_tv : ix_tv.toInt = tn.toInt) (hm_tv : el H0 th ix_tv.toNatClampNeg = some (.int tv)) (hv_tv : 21 ≤ tv.toInt ∧ tv.toInt ≤ 21) (hgC : 0 ≤ nC ∧ nC ≤ 40) (hgS : 0 ≤ nS ∧ nS ≤ 60) : Met l yX4_readSum w_c_readSum ({ frames := 2, cells := 0, slots := 0, locals := 42 }) (va_Pc [.ref o0] (fun U => U.heap = H0 ∧ va_K (dC, dI) vwCl (tyl kA) U ∧ EVC adK adV (gA G H0.size) U U.heap)) (va_Qi (fun (r : Int32) (u : Int32) => (0 ≤ u.toInt ∧ u.toInt ≤ 400) ∧ (0 ≤ r.toInt ∧ r.toInt ≤ 1) ∧ (a0.toInt ≤ u.toInt ∧ u.toInt ≤ tn.toInt)) (fun (a1 : Int32) (t : State) => gH (dC, dI) kA (SHc nC nS) G t.heap ∧ gF (dC, dI) SKc G ([(7, 12), (7, 13), (49, 0)] : List (Nat × Nat)) H0 t.heap ∧ el t.heap o0 (dI 7 13) = some (.int a1)) (gA G H0.size)) 0 0 (gA G H0.size) := by
  refine Met.ofW (cc := cX4_readSum) (maxL := 3) (ret := (some .boolean)) (by decide) rfl ?_
  intro p e s m args below meth c s₁ B hml hv
  obtain ⟨rfl, hH0, hK, hE⟩ := hv
  have hx := B.exec
  have hb := B.bytes
  have hr := B.returns
  have hts := atoms_spec (ws := w_c_readSum) B.pre
  have hown : s.vm.findClass RX4 = some m.cls := findClass_of_methodNamed B.named
  have hlocks := B.notSynchronized
  subst hH0
  generalize hAe : gA G s.heap.size = A at hE ⊢
  have hA : ∀ q : Nat, s.heap.size ≤ q → A q := fun q h => by rw [← hAe]; exact Or.inr h
  have hG := gA_of hAe
  have hS : va_S A s.heap s.heap [] := va_S.rf
  have hF : gF (dC, dI) SKc G ([(7, 12), (7, 13), (49, 0)] : List (Nat × Nat)) s.heap s.heap := gF.rf
  have hl := lv_entry ([.ref o0]) (n := 3) (Nat.le_of_ble_eq_true rfl)
  rw [lg_entry_eq]
  generalize (lg_sl ([.ref o0]) ++ List.replicate (3 - (lg_sl ([.ref o0])).length) Slot.unset).toArray = ls at hl ⊢
  have hl : lv_has ls 3 [(0, .ref o0)] := hl
  refine lv_aload_n hx hb dX4_readSum_0 rfl (lv_at hl 0 rfl) ?_
  have hFc := gA_free hG hA hS
  refine va_calli (va_runV (As := []) (rest := []) ⟨hx, hb, hml, hown, hts⟩ (c_readPart l dC dI kA adK adV G s.heap nC nS o0 th a0 tv ix_tv ix_tv hT hr_o0 hm_th hr_th hm_a0 (by have q8 := ti_all ix_tv; omega) (by have q8 := ti_all a0; omega) (by have := (show a0.toInt = a0.toInt from rfl); have := (show ix_tv.toInt = ix_tv.toInt from rfl); omega) (by have q9 := (show ix_tv.toInt = ix_tv.toInt from rfl); have := (show ix_tv.toInt = ix_tv.toInt from rfl); omega) hm_tv (by have q8 := ti_all tv; omega) (by omega) (by omega)) (cwV 0 hts (goodIn_app (goodIn_r _ [11, 12, 13, 10] rfl (by decide +kernel)) (goodIn_ca (goodIn_r _ [1, 2, 3, 4, 5, 6, 7, 8, 9, 10] rfl (by decide +kernel)) (bs2_in _ _))) rfl rfl rfl (by decide +kernel) ⟨(Nat.le_of_ble_eq_true rfl), (Nat.le_of_ble_eq_true rfl)⟩) ⟨fun a U g mk q => by obtain ⟨q0, q1, qK, qE⟩ := q; exact ⟨q0, q1, va_K.moved (u := U) (U := U.calling g mk a) (Vm.Alike.refl U.vm) qK, EVC.blind g mk a qE⟩, gH_rc hK hT hr_o0 shc_7 rfl, fun U hU hW => ⟨rfl, hU, va_K.moved hW.alike hK, hE.call hS hFc hU hW⟩⟩ rfl rfl hl.1 rfl (lv_room (Nat.le_of_ble_eq_true rfl)) dX4_readSum_1 ⟨(Nat.le_of_ble_eq_true rfl), (Nat.le_of_ble_eq_true rfl)⟩) hS (fun q _ h => hFc q h) hFc (fun r1 u t H locs ht hvm hw2 hB _ _ hS => ?_)
  obtain ⟨u3, rfl⟩ : ∃ z, z = u := ⟨_, rfl⟩
  obtain ⟨hT, hF1, m4⟩ := hB
  rw [ht] at hT hF1 m4
  have m5 := (hF1.fld hr_o0 skc_7 (k := 0) (by decide) (by decide)).trans hm_th
  have m7 := (el_kept (hF1.arr hr_th skc_40 (by decide))).trans hm_tv
  have hF := hF.more hF1 (by decide)
  try dsimp only at hw2
  obtain ⟨h8, h9, hf10⟩ := hw2
  refine lv_istore_n (lv' := [(1, .int r1), (0, .ref o0)]) hx hb dX4_readSum_4 rfl hl (by decide) rfl (fun ls hl => ?_)
  refine lv_iconst (v := 0) hx hb dX4_readSum_5 (by decide) ?_
  refine lv_istore_n (lv' := [(2, .int 0), (1, .int r1), (0, .ref o0)]) hx hb dX4_readSum_6 rfl hl (by decide) rfl (fun ls hl => ?_)
  have key53 : ∀ (n53 i11 : Nat), i11 + n53 = 400 → 0 ≤ i11 → ∀ (z12 : Int32), ∀ (z16 : Int32), ((0 ≤ z12.toInt ∧ z12.toInt ≤ 1) ∧ (0 ≤ z16.toInt ∧ z16.toInt ≤ 400) ∧ (a0.toInt ≤ z16.toInt ∧ z16.toInt ≤ tn.toInt)) → ∀ (H : Heap) (locs : List Loc), gH (dC, dI) kA (SHc nC nS) G H → gF (dC, dI) SKc G ([(7, 12), (7, 13), (49, 0)] : List (Nat × Nat)) s.heap H → va_S A s.heap H locs → el H o0 (dI 7 0) = some (.ref th) → el H th ix_tv.toNatClampNeg = some (.int tv) → el H o0 (dI 7 13) = some (.int z16) → ∀ ls : Array Slot, lv_has ls 3 [(2, .int (nI i11)), (1, .int z12), (0, .ref o0)] → W p l e (headSpec w_c_readSum ({ frames := 2, cells := 0, slots := 0, locals := 42 })).room s m #[.ref o0] below meth c H locs 0 0 (MQ below (va_Qi (fun (r : Int32) (u : Int32) => (0 ≤ u.toInt ∧ u.toInt ≤ 400) ∧ (0 ≤ r.toInt ∧ r.toInt ≤ 1) ∧ (a0.toInt ≤ u.toInt ∧ u.toInt ≤ tn.toInt)) (fun (a1 : Int32) (t : State) => gH (dC, dI) kA (SHc nC nS) G t.heap ∧ gF (dC, dI) SKc G ([(7, 12), (7, 13), (49, 0)] : List (Nat × Nat)) s.heap t.heap ∧ el t.heap o0 (dI 7 13) = some (.int a1)) A) #[.ref o0] s 0 0 A) (F0 m 7 ls []) := by
    intro n53
    induction n53 with
    | zero =>
      intro i11 hn53 hlo54 z12 z16 ⟨h13, h17, hj19⟩ H locs hT hF hS m14 m15 m18 ls hl
      obtain rfl : 400 = i11 := by omega
      refine lv_iload_n hx hb dX4_readSum_7 rfl (lv_at hl 0 rfl) ?_
      refine lv_sipush (v := 400) hx hb dX4_readSum_8 (by decide) ?_
      refine lv_icmp_ge (tgt := 44) hx hb dX4_readSum_11 (by decide) (fun c55 => ?_) (fun c55 => (by exfalso; have q9 : ((400 : Nat) : Int) < 400 := ti_nle c55 (by decide) (nI_toInt (by omega)); omega))
      have t56 : 400 ≤ ((400 : Nat) : Int) := ti_le c55 (by decide) (nI_toInt (by omega))
      refine lv_iload_n hx hb dX4_readSum_44 rfl (lv_at hl 1 rfl) ?_
      exact W.zret (v := z12) hx hb hr (nar_b (by have q8 := ti_all z12; omega)) (fun t ht hW => ⟨⟨z12, z16, rfl, (by exact ⟨(by have q8 := ti_all z16; omega), (by have q8 := ti_all z12; omega), (by omega)⟩), by (try dsimp only); rw [ht]; exact ⟨hT, hF, m18⟩⟩, hS.F ht⟩) hS.2.2 dX4_readSum_45
    | succ n53 ih53 =>
      intro i11 hn53 hlo54 z12 z16 ⟨h13, h17, hj19⟩ H locs hT hF hS m14 m15 m18 ls hl
      have hlt56 : i11 < 400 := by omega
      refine lv_iload_n hx hb dX4_readSum_7 rfl (lv_at hl 0 rfl) ?_
      refine lv_sipush (v := 400) hx hb dX4_readSum_8 (by decide) ?_
      refine lv_icmp_ge (tgt := 44) hx hb dX4_readSum_11 (by decide) (fun c57 => (by exfalso; have q9 : 400 ≤ ((i11 : Nat) : Int) := ti_le c57 (by decide) (nI_toInt (by omega)); omega)) (fun c57 => ?_)
      have t58 : ((i11 : Nat) : Int) < 400 := ti_nle c57 (by decide) (nI_toInt (by omega))
      refine lv_iload_n hx hb dX4_readSum_14 rfl (lv_at hl 1 rfl) ?_
      refine lv_if_eq (tgt := 44) hx hb dX4_readSum_15 (by decide) (fun c59 => ?_) (fun c59 => ?_)
      · have t60 : z12.toInt = 0 := ti_eq c59 rfl (by decide)
        refine lv_iload_n hx hb dX4_readSum_44 rfl (lv_at hl 1 rfl) ?_
        exact W.zret (v := z12) hx hb hr (nar_b (by have q8 := ti_all z12; omega)) (fun t ht hW => ⟨⟨z12, z16, rfl, (by exact ⟨(by have q8 := ti_all z16; omega), (by have q8 := ti_all z12; omega), (by omega)⟩), by (try dsimp only); rw [ht]; exact ⟨hT, hF, m18⟩⟩, hS.F ht⟩) hS.2.2 dX4_readSum_45
      · have t61 : z12.toInt ≠ 0 := ti_ne c59 rfl (by decide)
        refine lv_aload_n hx hb dX4_readSum_18 rfl (lv_at hl 2 rfl) ?_
        refine lv_bipush (v := 10) hx hb dX4_readSum_19 (by decide) ?_
        have hFc := gA_free hG hA hS
        refine va_calli (va_runV (As := [.int 10]) (rest := []) ⟨hx, hb, hml, hown, hts⟩ (c_take l dC dI kA adK adV G H nC nS o0 10 th z16 tv ix_tv ix_tv hT hr_o0 m14 hr_th m18 (by have q8 := ti_all ix_tv; omega) (by have q8 := ti_all z16; omega) (by have := (show z16.toInt = z16.toInt from rfl); have := (show ix_tv.toInt = ix_tv.toInt from rfl); omega) (by have := (show (10 : Int32).toInt = 10 from (by decide)); omega) (by have q9 := (show ix_tv.toInt = ix_tv.toInt from rfl); have := (show ix_tv.toInt = ix_tv.toInt from rfl); omega) m15 (by have q8 := ti_all tv; omega) (by omega) (by omega)) (cwV 1 hts (goodIn_app (goodIn_r _ [15, 16, 17, 10] rfl (by decide +kernel)) (goodIn_ca (goodIn_r _ [14, 2, 3] rfl (by decide +kernel)) (bs2_in _ _))) rfl rfl rfl (by decide +kernel) ⟨(Nat.le_of_ble_eq_true rfl), (Nat.le_of_ble_eq_true rfl)⟩) ⟨fun a U g mk q => by obtain ⟨q0, q1, qK, qE⟩ := q; exact ⟨q0, q1, va_K.moved (u := U) (U := U.calling g mk a) (Vm.Alike.refl U.vm) qK, EVC.blind g mk a qE⟩, gH_rc hK hT hr_o0 shc_7 rfl, fun U hU hW => ⟨rfl, hU, va_K.moved hW.alike hK, hE.call hS hFc hU hW⟩⟩ rfl rfl hl.1 rfl (lv_room (Nat.le_of_ble_eq_true rfl)) dX4_readSum_21 ⟨(Nat.le_of_ble_eq_true rfl), (Nat.le_of_ble_eq_true rfl)⟩) hS (fun q _ h => hFc q h) hFc (fun r62 u t H locs ht hvm hw63 hB _ _ hS => ?_)
        obtain ⟨u64, rfl⟩ : ∃ z, z = u := ⟨_, rfl⟩
        obtain ⟨hT, hF1, m65⟩ := hB
        rw [ht] at hT hF1 m65
        have m66 := (hF1.fld hr_o0 skc_7 (k := 0) (by decide) (by decide)).trans m14
        have m67 := (el_kept (hF1.arr hr_th skc_40 (by decide))).trans m15
        have hF := hF.more hF1 (by decide)
        try dsimp only at hw63
        obtain ⟨h69, h70, hf71⟩ := hw63
        refine lv_if_eq (tgt := 44) hx hb dX4_readSum_24 (by decide) (fun c72 => ?_) (fun c72 => ?_)
        · have t73 : r62.toInt = 0 := ti_eq c72 rfl (by decide)
          refine lv_iload_n hx hb dX4_readSum_44 rfl (lv_at hl 1 rfl) ?_
          exact W.zret (v := z12) hx hb hr (nar_b (by have q8 := ti_all z12; omega)) (fun t ht hW => ⟨⟨z12, u64, rfl, (by exact ⟨(by have q8 := ti_all u64; omega), (by have q8 := ti_all z12; omega), (by omega)⟩), by (try dsimp only); rw [ht]; exact ⟨hT, hF, m65⟩⟩, hS.F ht⟩) hS.2.2 dX4_readSum_45
        · have t74 : r62.toInt ≠ 0 := ti_ne c72 rfl (by decide)
          refine lv_aload_n hx hb dX4_readSum_27 rfl (lv_at hl 2 rfl) ?_
          have hFc := gA_free hG hA hS
          refine va_calli (va_runV (As := []) (rest := []) ⟨hx, hb, hml, hown, hts⟩ (c_readPart l dC dI kA adK adV G H nC nS o0 th u64 tv ix_tv ix_tv hT hr_o0 m66 hr_th m65 (by have q8 := ti_all ix_tv; omega) (by have q8 := ti_all u64; omega) (by have := (show u64.toInt = u64.toInt from rfl); have := (show ix_tv.toInt = ix_tv.toInt from rfl); omega) (by have q9 := (show ix_tv.toInt = ix_tv.toInt from rfl); have := (show ix_tv.toInt = ix_tv.toInt from rfl); omega) m67 (by have q8 := ti_all tv; omega) (by omega) (by omega)) (cwV 0 hts (goodIn_app (goodIn_r _ [11, 12, 13, 10] rfl (by decide +kernel)) (goodIn_ca (goodIn_r _ [1, 2, 3, 4, 5, 6, 7, 8, 9, 10] rfl (by decide +kernel)) (bs2_in _ _))) rfl rfl rfl (by decide +kernel) ⟨(Nat.le_of_ble_eq_true rfl), (Nat.le_of_ble_eq_true rfl)⟩) ⟨fun a U g mk q => by obtain ⟨q0, q1, qK, qE⟩ := q; exact ⟨q0, q1, va_K.moved (u := U) (U := U.calling g mk a) (Vm.Alike.refl U.vm) qK, EVC.blind g mk a qE⟩, gH_rc hK hT hr_o0 shc_7 rfl, fun U hU hW => ⟨rfl, hU, va_K.moved hW.alike hK, hE.call hS hFc hU hW⟩⟩ rfl rfl hl.1 rfl (lv_room (Nat.le_of_ble_eq_true rfl)) dX4_readSum_28 ⟨(Nat.le_of_ble_eq_true rfl), (Nat.le_of_ble_eq_true rfl)⟩) hS (fun q _ h => hFc q h) hFc (fun r75 u t H locs ht hvm hw76 hB _ _ hS => ?_)
          obtain ⟨u77, rfl⟩ : ∃ z, z = u := ⟨_, rfl⟩
          obtain ⟨hT, hF1, m78⟩ := hB
          rw [ht] at hT hF1 m78
          have m79 := (hF1.fld hr_o0 skc_7 (k := 0) (by decide) (by decide)).trans m66
          have m80 := (el_kept (hF1.arr hr_th skc_40 (by decide))).trans m67
          have hF := hF.more hF1 (by decide)
          try dsimp only at hw76
          obtain ⟨h82, h83, hf84⟩ := hw76
          refine lv_istore_n (lv' := [(1, .int r75), (2, .int (nI i11)), (0, .ref o0)]) hx hb dX4_readSum_31 rfl hl (by decide) rfl (fun ls hl => ?_)
          refine lv_aload_n hx hb dX4_readSum_32 rfl (lv_at hl 2 rfl) ?_
          refine lv_bipush (v := 10) hx hb dX4_readSum_33 (by decide) ?_
          have hFc := gA_free hG hA hS
          refine va_callv (va_runV (As := [.int 10]) (rest := []) ⟨hx, hb, hml, hown, hts⟩ (c_addStep l dC dI kA adK adV G H nC nS o0 10 hT hr_o0 (rg_t (a := 10) (by decide) (by first | decide | omega) (by first | decide | omega)) (by omega) (by omega)) (cwV 1 hts (goodIn_app (goodIn_r _ [7, 8, 9, 10] rfl (by decide +kernel)) (goodIn_ca (goodIn_r _ [4, 5, 6] rfl (by decide +kernel)) (bs2_in _ _))) rfl rfl rfl (by decide +kernel) ⟨(Nat.le_of_ble_eq_true rfl), (Nat.le_of_ble_eq_true rfl)⟩) ⟨fun a U g mk q => by obtain ⟨q0, q1, qK, qE⟩ := q; exact ⟨q0, q1, va_K.moved (u := U) (U := U.calling g mk a) (Vm.Alike.refl U.vm) qK, EVC.blind g mk a qE⟩, gH_rc hK hT hr_o0 shc_7 rfl, fun U hU hW => ⟨rfl, hU, va_K.moved hW.alike hK, hE.call hS hFc hU hW⟩⟩ rfl rfl hl.1 rfl (lv_room (Nat.le_of_ble_eq_true rfl)) dX4_readSum_35 ⟨(Nat.le_of_ble_eq_true rfl), (Nat.le_of_ble_eq_true rfl)⟩) hS (fun q _ h => hFc q h) hFc (fun u t H locs ht hvm hw86 hB _ _ hS => ?_)
          obtain ⟨hT, hF1⟩ := hB
          rw [ht] at hT hF1
          have m87 := (hF1.fld hr_o0 skc_7 (k := 0) (by decide) (by decide)).trans m79
          have m88 := (el_kept (hF1.arr hr_th skc_40 (by decide))).trans m80
          have m89 := (hF1.fld hr_o0 skc_7 (k := 13) (by decide) (by decide)).trans m78
          have hF := hF.more hF1 (by decide)
          try dsimp only at hw86
          refine lv_iinc (v := nI (i11 + 1)) (lv' := [(2, .int (nI (i11 + 1))), (1, .int r75), (0, .ref o0)]) hx hb dX4_readSum_38 hl (k := 1) rfl (nI_add i11 1) (by decide) rfl (fun ls hl => ?_)
          refine lv_goto (tgt := 7) hx hb dX4_readSum_41 (by decide) ?_
          exact ih53 (i11 + 1) (by omega) (by omega) r75 u77 ⟨(by have q8 := ti_all r75; omega), (by have q8 := ti_all u77; omega), (by have := hx_tv; have := (show u77.toInt = u77.toInt from rfl); omega)⟩ _ _ hT hF hS m87 m88 m89 ls (lv_sub hl [0, 1, 2] rfl)
  exact key53 (400 - 0) 0 (by omega) (Nat.le_refl _) r1 u3 ⟨(by have q8 := ti_all r1; omega), (by have q8 := ti_all u3; omega), (by have := hx_tv; have := (show u3.toInt = u3.toInt from rfl); omega)⟩ _ _ hT hF hS m5 m7 m4 ls (lv_sub hl [0, 1, 2] rfl)
def w_c_readComparison : List Cond := .code yX4_readComparison cX4_readComparison 3 (some .boolean) :: (HAppend.hAppend (α := List Cond) (β := List Cond) (γ := List Cond) [.code yX4_readSum cX4_readSum 3 (some .boolean), .code yX4_readPart cX4_readPart 2 (some .boolean), .fieldLink RX4 11 "SeaLand$Law" "things" "[I", .fieldLink RX4 56 "SeaLand$Law" "at" "I", .code yX4_addStep cX4_addStep 2 none, .fieldLink RX4 63 "SeaLand$Law" "stepped" "I", .fieldLink RX4 39 "SeaLand$Law" "steps" "[I", .methodLink RX4 179 yX4_addStep, .instanceMethod yX4_addStep, .selects RX4 yX4_addStep yX4_addStep, .initialized RX4, .methodLink RX4 192 yX4_readPart, .instanceMethod yX4_readPart, .selects RX4 yX4_readPart yX4_readPart, .code yX4_take cX4_take 2 (some .boolean), .methodLink RX4 70 yX4_take, .instanceMethod yX4_take, .selects RX4 yX4_take yX4_take, .methodLink RX4 189 yX4_readSum, .instanceMethod yX4_readSum, .selects RX4 yX4_readSum yX4_readSum] bs2)
set_option maxHeartbeats 4000000 in
set_option maxRecDepth 100000 in
theorem c_readComparison (l : Launch) (dC : Nat → ClassId) (dI : Nat → Nat → Nat) (kA : Nat → ClassId) (adK adV : Nat → Nat) (G : gT) (H0 : Heap) (nC nS : Int) (o0 : Nat) (th : Nat) (a0 : Int32) (tv ix_tv : Int32) (tn : Int32) (hT : gH (dC, dI) kA (SHc nC nS) G H0) (hr_o0 : G o0 = some 7) (hm_th : el H0 o0 (dI 7 0) = some (.ref th)) (hr_th : G th = some 40) (hm_a0 : el H0 o0 (dI 7 13) = some (.int a0)) (hq0 : 0 ≤ tn.toInt ∧ tn.toInt ≤ 400) (hq1 : 0 ≤ a0.toInt ∧ a0.toInt ≤ 400) (hat : a0.toInt ≤ tn.toInt) (hx_tv : ix_tv.toInt = tn.toInt) (hm_tv : el H0 th ix_tv.toNatClampNeg = some (.int tv)) (hv_tv : 21 ≤ tv.toInt ∧ tv.toInt ≤ 21) (hgC : 0 ≤ nC ∧ nC ≤ 40) (hgS : 0 ≤ nS ∧ nS ≤ 60) : Met l yX4_readComparison w_c_readComparison ({ frames := 3, cells := 0, slots := 0, locals := 64 }) (va_Pc [.ref o0] (fun U => U.heap = H0 ∧ va_K (dC, dI) vwCl (tyl kA) U ∧ EVC adK adV (gA G H0.size) U U.heap)) (va_Qi (fun (r : Int32) (u : Int32) => (0 ≤ u.toInt ∧ u.toInt ≤ 400) ∧ (0 ≤ r.toInt ∧ r.toInt ≤ 1) ∧ (a0.toInt ≤ u.toInt ∧ u.toInt ≤ tn.toInt)) (fun (a1 : Int32) (t : State) => gH (dC, dI) kA (SHc nC nS) G t.heap ∧ gF (dC, dI) SKc G ([(7, 12), (7, 13), (49, 0)] : List (Nat × Nat)) H0 t.heap ∧ el t.heap o0 (dI 7 13) = some (.int a1)) (gA G H0.size)) 0 0 (gA G H0.size) := by
  refine Met.ofW (cc := cX4_readComparison) (maxL := 3) (ret := (some .boolean)) (by decide) rfl ?_
  intro p e s m args below meth c s₁ B hml hv
  obtain ⟨rfl, hH0, hK, hE⟩ := hv
  have hx := B.exec
  have hb := B.bytes
  have hr := B.returns
  have hts := atoms_spec (ws := w_c_readComparison) B.pre
  have hown : s.vm.findClass RX4 = some m.cls := findClass_of_methodNamed B.named
  have hlocks := B.notSynchronized
  subst hH0
  generalize hAe : gA G s.heap.size = A at hE ⊢
  have hA : ∀ q : Nat, s.heap.size ≤ q → A q := fun q h => by rw [← hAe]; exact Or.inr h
  have hG := gA_of hAe
  have hS : va_S A s.heap s.heap [] := va_S.rf
  have hF : gF (dC, dI) SKc G ([(7, 12), (7, 13), (49, 0)] : List (Nat × Nat)) s.heap s.heap := gF.rf
  have hl := lv_entry ([.ref o0]) (n := 3) (Nat.le_of_ble_eq_true rfl)
  rw [lg_entry_eq]
  generalize (lg_sl ([.ref o0]) ++ List.replicate (3 - (lg_sl ([.ref o0])).length) Slot.unset).toArray = ls at hl ⊢
  have hl : lv_has ls 3 [(0, .ref o0)] := hl
  refine lv_aload_n hx hb dX4_readComparison_0 rfl (lv_at hl 0 rfl) ?_
  have hFc := gA_free hG hA hS
  refine va_calli (va_runV (As := []) (rest := []) ⟨hx, hb, hml, hown, hts⟩ (c_readSum l dC dI kA adK adV G s.heap nC nS o0 th a0 tv ix_tv ix_tv hT hr_o0 hm_th hr_th hm_a0 (by have q8 := ti_all ix_tv; omega) (by have q8 := ti_all a0; omega) (by have := (show a0.toInt = a0.toInt from rfl); have := (show ix_tv.toInt = ix_tv.toInt from rfl); omega) (by have q9 := (show ix_tv.toInt = ix_tv.toInt from rfl); have := (show ix_tv.toInt = ix_tv.toInt from rfl); omega) hm_tv (by have q8 := ti_all tv; omega) (by omega) (by omega)) (cwV 0 hts (goodIn_app (goodIn_r _ [19, 20, 21, 11] rfl (by decide +kernel)) (goodIn_ca (goodIn_r _ [1, 2, 3, 4, 5, 6, 7, 8, 9, 10, 11, 12, 13, 14, 15, 16, 17, 18] rfl (by decide +kernel)) (bs2_in _ _))) rfl rfl rfl (by decide +kernel) ⟨(Nat.le_of_ble_eq_true rfl), (Nat.le_of_ble_eq_true rfl)⟩) ⟨fun a U g mk q => by obtain ⟨q0, q1, qK, qE⟩ := q; exact ⟨q0, q1, va_K.moved (u := U) (U := U.calling g mk a) (Vm.Alike.refl U.vm) qK, EVC.blind g mk a qE⟩, gH_rc hK hT hr_o0 shc_7 rfl, fun U hU hW => ⟨rfl, hU, va_K.moved hW.alike hK, hE.call hS hFc hU hW⟩⟩ rfl rfl hl.1 rfl (lv_room (Nat.le_of_ble_eq_true rfl)) dX4_readComparison_1 ⟨(Nat.le_of_ble_eq_true rfl), (Nat.le_of_ble_eq_true rfl)⟩) hS (fun q _ h => hFc q h) hFc (fun r1 u t H locs ht hvm hw2 hB _ _ hS => ?_)
  obtain ⟨u3, rfl⟩ : ∃ z, z = u := ⟨_, rfl⟩
  obtain ⟨hT, hF1, m4⟩ := hB
  rw [ht] at hT hF1 m4
  have m5 := (hF1.fld hr_o0 skc_7 (k := 0) (by decide) (by decide)).trans hm_th
  have m7 := (el_kept (hF1.arr hr_th skc_40 (by decide))).trans hm_tv
  have hF := hF.more hF1 (by decide)
  try dsimp only at hw2
  obtain ⟨h8, h9, hf10⟩ := hw2
  refine lv_if_ne (tgt := 9) hx hb dX4_readComparison_4 (by decide) (fun c11 => ?_) (fun c11 => ?_)
  · have t12 : r1.toInt ≠ 0 := ti_ne c11 rfl (by decide)
    refine lv_aload_n hx hb dX4_readComparison_9 rfl (lv_at hl 0 rfl) ?_
    refine tw_getM (v := .ref th) hx hb hts bF2_X4 hown hK hT hr_o0 shc_7 rfl 0 (by decide) (ht_at2 hts 2 rfl) (fun _ h9 => h9) m5 dX4_readComparison_10 ?_
    refine lv_aload_n hx hb dX4_readComparison_13 rfl (lv_at hl 0 rfl) ?_
    refine tw_getM (v := .int u3) hx hb hts bF2_X4 hown hK hT hr_o0 shc_7 rfl 13 (by decide) (ht_at2 hts 3 rfl) (fun _ h9 => h9) m4 dX4_readComparison_14 ?_
    refine tw_iald (i := u3) hx hb hK hT hr_th shc_40 rfl (vin_t (a := u3.toInt) rfl (by omega) (by omega)) dX4_readComparison_17 (fun v9 m13 h9 => ?_)
    obtain ⟨x14, rfl, gx14, kx14⟩ := h9
    have t15 : u3.toInt = ix_tv.toInt → x14.toInt = tv.toInt := fun h8 => congrArg Int32.toInt (el_same m13 m7 h8)
    refine lv_istore_n (lv' := [(1, .int x14), (0, .ref o0)]) hx hb dX4_readComparison_18 rfl hl (by decide) rfl (fun ls hl => ?_)
    refine lv_iload_n hx hb dX4_readComparison_19 rfl (lv_at hl 0 rfl) ?_
    refine lv_bipush (v := 11) hx hb dX4_readComparison_20 (by decide) ?_
    have t16 : -2147483648 ≤ x14.toInt ∧ x14.toInt ≤ 2147483647 := ti_all x14
    refine lv_icmp_eq (tgt := 33) hx hb dX4_readComparison_22 (by decide) (fun c17 => ?_) (fun c17 => ?_)
    · have t18 : x14.toInt = 11 := ti_eq c17 rfl (by decide)
      refine lv_aload_n hx hb dX4_readComparison_33 rfl (lv_at hl 1 rfl) ?_
      refine lv_dup hx hb dX4_readComparison_34 rfl ?_
      refine tw_getM (v := .int u3) hx hb hts bF2_X4 hown hK hT hr_o0 shc_7 rfl 13 (by decide) (ht_at2 hts 3 rfl) (fun _ h9 => h9) m4 dX4_readComparison_35 ?_
      refine lv_iconst (v := 1) hx hb dX4_readComparison_38 (by decide) ?_
      refine lv_iadd hx hb dX4_readComparison_39 ?_
      refine lv_topi (fun x19 ex19 => ?_)
      have t20 : x19.toInt = u3.toInt + 1 := ti_add ex19 rfl (by decide) (by omega) (by omega)
      refine tw_put (v := .int x19) (ty := .int) hx hb hts bF2_X4 tyX4 tyX4_ok nmX4 hown hK hT hG hS hr_o0 shc_7 rfl 13 (by decide) (ht_at2 hts 3 rfl) (fun _ h9 => h9) rfl (by decide +kernel) rfl rfl (gl_at rfl (gi_of (show x19.toInt = x19.toInt from rfl) (by omega) (by omega))) dX4_readComparison_40 (fun H locs hT oq m21 oj hS => ?_)
      have hF := hF.put hr_o0 skc_7 oq oj (by decide)
      have m22 := (oj 0 (by decide) (by decide)).trans m5
      have m23 := (el_kept (oq _ (gne hr_th hr_o0 (by decide)))).trans m7
      refine lv_aload_n hx hb dX4_readComparison_43 rfl (lv_at hl 1 rfl) ?_
      have hFc := gA_free hG hA hS
      refine va_calli (va_runV (As := []) (rest := []) ⟨hx, hb, hml, hown, hts⟩ (c_readSum l dC dI kA adK adV G H nC nS o0 th x19 tv ix_tv ix_tv hT hr_o0 m22 hr_th m21 (by have q8 := ti_all ix_tv; omega) (by have q8 := ti_all x19; omega) (by have := (show x19.toInt = x19.toInt from rfl); have := (show ix_tv.toInt = ix_tv.toInt from rfl); omega) (by have q9 := (show ix_tv.toInt = ix_tv.toInt from rfl); have := (show ix_tv.toInt = ix_tv.toInt from rfl); omega) m23 (by have q8 := ti_all tv; omega) (by omega) (by omega)) (cwV 0 hts (goodIn_app (goodIn_r _ [19, 20, 21, 11] rfl (by decide +kernel)) (goodIn_ca (goodIn_r _ [1, 2, 3, 4, 5, 6, 7, 8, 9, 10, 11, 12, 13, 14, 15, 16, 17, 18] rfl (by decide +kernel)) (bs2_in _ _))) rfl rfl rfl (by decide +kernel) ⟨(Nat.le_of_ble_eq_true rfl), (Nat.le_of_ble_eq_true rfl)⟩) ⟨fun a U g mk q => by obtain ⟨q0, q1, qK, qE⟩ := q; exact ⟨q0, q1, va_K.moved (u := U) (U := U.calling g mk a) (Vm.Alike.refl U.vm) qK, EVC.blind g mk a qE⟩, gH_rc hK hT hr_o0 shc_7 rfl, fun U hU hW => ⟨rfl, hU, va_K.moved hW.alike hK, hE.call hS hFc hU hW⟩⟩ rfl rfl hl.1 rfl (lv_room (Nat.le_of_ble_eq_true rfl)) dX4_readComparison_44 ⟨(Nat.le_of_ble_eq_true rfl), (Nat.le_of_ble_eq_true rfl)⟩) hS (fun q _ h => hFc q h) hFc (fun r25 u t H locs ht hvm hw26 hB _ _ hS => ?_)
      obtain ⟨u27, rfl⟩ : ∃ z, z = u := ⟨_, rfl⟩
      obtain ⟨hT, hF1, m28⟩ := hB
      rw [ht] at hT hF1 m28
      have hF := hF.more hF1 (by decide)
      try dsimp only at hw26
      obtain ⟨h33, h34, hf35⟩ := hw26
      refine lv_istore_n (lv' := [(2, .int r25), (1, .int x14), (0, .ref o0)]) hx hb dX4_readComparison_47 rfl hl (by decide) rfl (fun ls hl => ?_)
      refine lv_aload_n hx hb dX4_readComparison_48 rfl (lv_at hl 2 rfl) ?_
      refine lv_iload_n hx hb dX4_readComparison_49 rfl (lv_at hl 1 rfl) ?_
      have hFc := gA_free hG hA hS
      refine va_callv (va_runV (As := [.int x14]) (rest := []) ⟨hx, hb, hml, hown, hts⟩ (c_addStep l dC dI kA adK adV G H nC nS o0 x14 hT hr_o0 (by have q8 := ti_all x14; omega) (by omega) (by omega)) (cwV 1 hts (goodIn_app (goodIn_r _ [8, 9, 10, 11] rfl (by decide +kernel)) (goodIn_ca (goodIn_r _ [5, 6, 7] rfl (by decide +kernel)) (bs2_in _ _))) rfl rfl rfl (by decide +kernel) ⟨(Nat.le_of_ble_eq_true rfl), (Nat.le_of_ble_eq_true rfl)⟩) ⟨fun a U g mk q => by obtain ⟨q0, q1, qK, qE⟩ := q; exact ⟨q0, q1, va_K.moved (u := U) (U := U.calling g mk a) (Vm.Alike.refl U.vm) qK, EVC.blind g mk a qE⟩, gH_rc hK hT hr_o0 shc_7 rfl, fun U hU hW => ⟨rfl, hU, va_K.moved hW.alike hK, hE.call hS hFc hU hW⟩⟩ rfl rfl hl.1 rfl (lv_room (Nat.le_of_ble_eq_true rfl)) dX4_readComparison_50 ⟨(Nat.le_of_ble_eq_true rfl), (Nat.le_of_ble_eq_true rfl)⟩) hS (fun q _ h => hFc q h) hFc (fun u t H locs ht hvm hw37 hB _ _ hS => ?_)
      obtain ⟨hT, hF1⟩ := hB
      rw [ht] at hT hF1
      have m41 := (hF1.fld hr_o0 skc_7 (k := 13) (by decide) (by decide)).trans m28
      have hF := hF.more hF1 (by decide)
      try dsimp only at hw37
      refine lv_iload_n hx hb dX4_readComparison_53 rfl (lv_at hl 0 rfl) ?_
      exact W.zret (v := r25) hx hb hr (nar_b (by have q8 := ti_all r25; omega)) (fun t ht hW => ⟨⟨r25, u27, rfl, (by exact ⟨(by have q8 := ti_all u27; omega), (by have q8 := ti_all r25; omega), (by omega)⟩), by (try dsimp only); rw [ht]; exact ⟨hT, hF, m41⟩⟩, hS.F ht⟩) hS.2.2 dX4_readComparison_54
    · have t42 : x14.toInt ≠ 11 := ti_ne c17 rfl (by decide)
      refine lv_iload_n hx hb dX4_readComparison_25 rfl (lv_at hl 0 rfl) ?_
      refine lv_bipush (v := 12) hx hb dX4_readComparison_26 (by decide) ?_
      refine lv_icmp_eq (tgt := 33) hx hb dX4_readComparison_28 (by decide) (fun c43 => ?_) (fun c43 => ?_)
      · have t44 : x14.toInt = 12 := ti_eq c43 rfl (by decide)
        refine lv_aload_n hx hb dX4_readComparison_33 rfl (lv_at hl 1 rfl) ?_
        refine lv_dup hx hb dX4_readComparison_34 rfl ?_
        refine tw_getM (v := .int u3) hx hb hts bF2_X4 hown hK hT hr_o0 shc_7 rfl 13 (by decide) (ht_at2 hts 3 rfl) (fun _ h9 => h9) m4 dX4_readComparison_35 ?_
        refine lv_iconst (v := 1) hx hb dX4_readComparison_38 (by decide) ?_
        refine lv_iadd hx hb dX4_readComparison_39 ?_
        refine lv_topi (fun x45 ex45 => ?_)
        have t46 : x45.toInt = u3.toInt + 1 := ti_add ex45 rfl (by decide) (by omega) (by omega)
        refine tw_put (v := .int x45) (ty := .int) hx hb hts bF2_X4 tyX4 tyX4_ok nmX4 hown hK hT hG hS hr_o0 shc_7 rfl 13 (by decide) (ht_at2 hts 3 rfl) (fun _ h9 => h9) rfl (by decide +kernel) rfl rfl (gl_at rfl (gi_of (show x45.toInt = x45.toInt from rfl) (by omega) (by omega))) dX4_readComparison_40 (fun H locs hT oq m47 oj hS => ?_)
        have hF := hF.put hr_o0 skc_7 oq oj (by decide)
        have m48 := (oj 0 (by decide) (by decide)).trans m5
        have m49 := (el_kept (oq _ (gne hr_th hr_o0 (by decide)))).trans m7
        refine lv_aload_n hx hb dX4_readComparison_43 rfl (lv_at hl 1 rfl) ?_
        have hFc := gA_free hG hA hS
        refine va_calli (va_runV (As := []) (rest := []) ⟨hx, hb, hml, hown, hts⟩ (c_readSum l dC dI kA adK adV G H nC nS o0 th x45 tv ix_tv ix_tv hT hr_o0 m48 hr_th m47 (by have q8 := ti_all ix_tv; omega) (by have q8 := ti_all x45; omega) (by have := (show x45.toInt = x45.toInt from rfl); have := (show ix_tv.toInt = ix_tv.toInt from rfl); omega) (by have q9 := (show ix_tv.toInt = ix_tv.toInt from rfl); have := (show ix_tv.toInt = ix_tv.toInt from rfl); omega) m49 (by have q8 := ti_all tv; omega) (by omega) (by omega)) (cwV 0 hts (goodIn_app (goodIn_r _ [19, 20, 21, 11] rfl (by decide +kernel)) (goodIn_ca (goodIn_r _ [1, 2, 3, 4, 5, 6, 7, 8, 9, 10, 11, 12, 13, 14, 15, 16, 17, 18] rfl (by decide +kernel)) (bs2_in _ _))) rfl rfl rfl (by decide +kernel) ⟨(Nat.le_of_ble_eq_true rfl), (Nat.le_of_ble_eq_true rfl)⟩) ⟨fun a U g mk q => by obtain ⟨q0, q1, qK, qE⟩ := q; exact ⟨q0, q1, va_K.moved (u := U) (U := U.calling g mk a) (Vm.Alike.refl U.vm) qK, EVC.blind g mk a qE⟩, gH_rc hK hT hr_o0 shc_7 rfl, fun U hU hW => ⟨rfl, hU, va_K.moved hW.alike hK, hE.call hS hFc hU hW⟩⟩ rfl rfl hl.1 rfl (lv_room (Nat.le_of_ble_eq_true rfl)) dX4_readComparison_44 ⟨(Nat.le_of_ble_eq_true rfl), (Nat.le_of_ble_eq_true rfl)⟩) hS (fun q _ h => hFc q h) hFc (fun r51 u t H locs ht hvm hw52 hB _ _ hS => ?_)
        obtain ⟨u53, rfl⟩ : ∃ z, z = u := ⟨_, rfl⟩
        obtain ⟨hT, hF1, m54⟩ := hB
        rw [ht] at hT hF1 m54
        have hF := hF.more hF1 (by decide)
        try dsimp only at hw52
        obtain ⟨h59, h60, hf61⟩ := hw52
        refine lv_istore_n (lv' := [(2, .int r51), (1, .int x14), (0, .ref o0)]) hx hb dX4_readComparison_47 rfl hl (by decide) rfl (fun ls hl => ?_)
        refine lv_aload_n hx hb dX4_readComparison_48 rfl (lv_at hl 2 rfl) ?_
        refine lv_iload_n hx hb dX4_readComparison_49 rfl (lv_at hl 1 rfl) ?_
        have hFc := gA_free hG hA hS
        refine va_callv (va_runV (As := [.int x14]) (rest := []) ⟨hx, hb, hml, hown, hts⟩ (c_addStep l dC dI kA adK adV G H nC nS o0 x14 hT hr_o0 (by have q8 := ti_all x14; omega) (by omega) (by omega)) (cwV 1 hts (goodIn_app (goodIn_r _ [8, 9, 10, 11] rfl (by decide +kernel)) (goodIn_ca (goodIn_r _ [5, 6, 7] rfl (by decide +kernel)) (bs2_in _ _))) rfl rfl rfl (by decide +kernel) ⟨(Nat.le_of_ble_eq_true rfl), (Nat.le_of_ble_eq_true rfl)⟩) ⟨fun a U g mk q => by obtain ⟨q0, q1, qK, qE⟩ := q; exact ⟨q0, q1, va_K.moved (u := U) (U := U.calling g mk a) (Vm.Alike.refl U.vm) qK, EVC.blind g mk a qE⟩, gH_rc hK hT hr_o0 shc_7 rfl, fun U hU hW => ⟨rfl, hU, va_K.moved hW.alike hK, hE.call hS hFc hU hW⟩⟩ rfl rfl hl.1 rfl (lv_room (Nat.le_of_ble_eq_true rfl)) dX4_readComparison_50 ⟨(Nat.le_of_ble_eq_true rfl), (Nat.le_of_ble_eq_true rfl)⟩) hS (fun q _ h => hFc q h) hFc (fun u t H locs ht hvm hw63 hB _ _ hS => ?_)
        obtain ⟨hT, hF1⟩ := hB
        rw [ht] at hT hF1
        have m67 := (hF1.fld hr_o0 skc_7 (k := 13) (by decide) (by decide)).trans m54
        have hF := hF.more hF1 (by decide)
        try dsimp only at hw63
        refine lv_iload_n hx hb dX4_readComparison_53 rfl (lv_at hl 0 rfl) ?_
        exact W.zret (v := r51) hx hb hr (nar_b (by have q8 := ti_all r51; omega)) (fun t ht hW => ⟨⟨r51, u53, rfl, (by exact ⟨(by have q8 := ti_all u53; omega), (by have q8 := ti_all r51; omega), (by omega)⟩), by (try dsimp only); rw [ht]; exact ⟨hT, hF, m67⟩⟩, hS.F ht⟩) hS.2.2 dX4_readComparison_54
      · have t68 : x14.toInt ≠ 12 := ti_ne c43 rfl (by decide)
        refine lv_iconst (v := 0) hx hb dX4_readComparison_31 (by decide) ?_
        exact W.zret (v := 0) hx hb hr (by decide) (fun t ht hW => ⟨⟨0, u3, rfl, (by exact ⟨(by have q8 := ti_all u3; omega), (rg_t (a := 0) (by decide) (by first | decide | omega) (by first | decide | omega)), (by omega)⟩), by (try dsimp only); rw [ht]; exact ⟨hT, hF, m4⟩⟩, hS.F ht⟩) hS.2.2 dX4_readComparison_32
  · have t69 : r1.toInt = 0 := ti_eq c11 rfl (by decide)
    refine lv_iconst (v := 0) hx hb dX4_readComparison_7 (by decide) ?_
    exact W.zret (v := 0) hx hb hr (by decide) (fun t ht hW => ⟨⟨0, u3, rfl, (by exact ⟨(by have q8 := ti_all u3; omega), (rg_t (a := 0) (by decide) (by first | decide | omega) (by first | decide | omega)), (by omega)⟩), by (try dsimp only); rw [ht]; exact ⟨hT, hF, m4⟩⟩, hS.F ht⟩) hS.2.2 dX4_readComparison_8
