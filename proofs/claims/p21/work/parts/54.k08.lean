def w_c_thingAt : List Cond := .code yX4_thingAt cX4_thingAt 3 (some .int) :: (HAppend.hAppend (α := List Cond) (β := List Cond) (γ := List Cond) [.code yX4_isLetter cX4_isLetter 1 (some .boolean), .methodLink RX4 81 yX4_isLetter, .static yX4_isLetter, .initialized RX4, .code yX4_isDigit cX4_isDigit 1 (some .boolean), .methodLink RX4 84 yX4_isDigit, .static yX4_isDigit, .code yX4_signThing cX4_signThing 1 (some .int), .methodLink RX4 93 yX4_signThing, .static yX4_signThing, .code yX4_numberThing cX4_numberThing 5 (some .int), .methodLink RX4 90 yX4_numberThing, .static yX4_numberThing, .code yX4_wordThing cX4_wordThing 4 (some .int), .code yX4_factThing cX4_factThing 3 (some .int), .code yX4_wordIs cX4_wordIs 5 (some .boolean), .code yJ0_length_8abf5 cJ0_length_8abf5 1 (some .int), .fieldLink RJ0 9 "java/lang/String" "value" "[B", .code yJ0_coder_7d493 cJ0_coder_7d493 1 (some .byte), .fieldLink RJ0 38 "java/lang/String" "COMPACT_STRINGS" "Z", .fieldLink RJ0 15 "java/lang/String" "coder" "B", .methodLink RJ0 335 yJ0_coder_7d493, .instanceMethod yJ0_coder_7d493, .selects RJ0 yJ0_coder_7d493 yJ0_coder_7d493, .initialized RJ0, .methodLink RX4 155 yJ0_length_8abf5, .instanceMethod yJ0_length_8abf5, .selects RJ0 yJ0_length_8abf5 yJ0_length_8abf5, .code yJ0_charAt_5068e cJ0_charAt_5068e 2 (some .char), .code yJ0_isLatin1_aae02 cJ0_isLatin1_aae02 1 (some .boolean), .methodLink RJ0 492 yJ0_isLatin1_aae02, .instanceMethod yJ0_isLatin1_aae02, .selects RJ0 yJ0_isLatin1_aae02 yJ0_isLatin1_aae02, .code yJ1_charAt_3b067 cJ1_charAt_3b067 2 (some .char), .code yJ0_checkIndex_df160 cJ0_checkIndex_df160 2 none, .fieldLink RJ0 1053 "jdk/internal/util/Preconditions" "SIOOBE_FORMATTER" "Ljava/util/function/BiFunction;", .code yJ3_checkIndex_8e157 cJ3_checkIndex_8e157 3 (some .int), .methodLink RJ0 1059 yJ3_checkIndex_8e157, .static yJ3_checkIndex_8e157, .initialized RJ3, .methodLink RJ1 9 yJ0_checkIndex_df160, .static yJ0_checkIndex_df160, .methodLink RJ0 495 yJ1_charAt_3b067, .static yJ1_charAt_3b067, .initialized RJ1, .methodLink RX4 161 yJ0_charAt_5068e, .instanceMethod yJ0_charAt_5068e, .selects RJ0 yJ0_charAt_5068e yJ0_charAt_5068e, .methodLink RX4 105 yX4_wordIs, .static yX4_wordIs, .methodLink RX4 97 yX4_factThing, .static yX4_factThing, .code yX4_lineThing cX4_lineThing 4 (some .int), .methodLink RX4 100 yX4_lineThing, .static yX4_lineThing, .methodLink RX4 87 yX4_wordThing, .static yX4_wordThing] bs2)
set_option maxHeartbeats 4000000 in
set_option maxRecDepth 100000 in
theorem c_thingAt (l : Launch) (dC : Nat → ClassId) (dI : Nat → Nat → Nat) (kA : Nat → ClassId) (adK adV : Nat → Nat) (G : gT) (H0 : Heap) (nC nS : Int) (tx : Nat) (fr : Int32) (en : Int32) (vc : Nat → Int32) (N : Nat) (hT : gH (dC, dI) kA (SHc nC nS) G H0) (hr_tx : G tx = some 16) (hq0 : 0 ≤ fr.toInt ∧ fr.toInt ≤ 399) (hq1 : 0 ≤ en.toInt ∧ en.toInt ≤ 400) (hfe : fr.toInt < en.toInt) (hdgx : (∃ x : Int32, el H0 tx fr.toNatClampNeg = some (.int x) ∧ 48 ≤ x.toInt ∧ x.toInt ≤ 57) → ∀ j : Nat, fr.toInt ≤ (j : Int) → (j : Int) < en.toInt → ∃ x : Int32, el H0 tx j = some (.int x) ∧ 48 ≤ x.toInt ∧ x.toInt ≤ 57) (hte : fr.toNatClampNeg < N ∧ en.toNatClampNeg = te (tc vc) N fr.toNatClampNeg) (hc_vc : ct H0 tx 400 vc) (hgC : 0 ≤ nC ∧ nC ≤ 40) (hgS : 0 ≤ nS ∧ nS ≤ 60) : Met l yX4_thingAt w_c_thingAt ({ frames := 7, cells := 0, slots := 0, locals := 155 }) (va_Pc [.ref tx, .int fr, .int en] (fun U => U.heap = H0 ∧ va_K (dC, dI) vwCl (tyl kA) U ∧ EVC adK adV (gA G H0.size) U U.heap)) (va_Qi (fun (r : Int32) (u : Unit) => (0 ≤ r.toInt ∧ r.toInt ≤ 100039) ∧ (r.toInt = kd (tc vc) N fr.toNatClampNeg)) (fun (_ : Unit) (t : State) => gH (dC, dI) kA (SHc nC nS) G t.heap ∧ gF (dC, dI) SKc G ([] : List (Nat × Nat)) H0 t.heap) (gA G H0.size)) 0 0 (gA G H0.size) := by
  refine Met.ofW (cc := cX4_thingAt) (maxL := 3) (ret := (some .int)) (by decide) rfl ?_
  intro p e s m args below meth c s₁ B hml hv
  obtain ⟨rfl, hH0, hK, hE⟩ := hv
  have hx := B.exec
  have hb := B.bytes
  have hr := B.returns
  have hts := atoms_spec (ws := w_c_thingAt) B.pre
  have hown : s.vm.findClass RX4 = some m.cls := findClass_of_methodNamed B.named
  have hlocks := B.notSynchronized
  subst hH0
  generalize hAe : gA G s.heap.size = A at hE ⊢
  have hA : ∀ q : Nat, s.heap.size ≤ q → A q := fun q h => by rw [← hAe]; exact Or.inr h
  have hG := gA_of hAe
  have hS : va_S A s.heap s.heap [] := va_S.rf
  have hF : gF (dC, dI) SKc G ([] : List (Nat × Nat)) s.heap s.heap := gF.rf
  have hl := lv_entry ([.ref tx, .int fr, .int en]) (n := 3) (Nat.le_of_ble_eq_true rfl)
  rw [lg_entry_eq]
  generalize (lg_sl ([.ref tx, .int fr, .int en]) ++ List.replicate (3 - (lg_sl ([.ref tx, .int fr, .int en])).length) Slot.unset).toArray = ls at hl ⊢
  have hl : lv_has ls 3 [(0, .ref tx), (1, .int fr), (2, .int en)] := hl
  refine lv_aload_n hx hb dX4_thingAt_0 rfl (lv_at hl 0 rfl) ?_
  refine lv_iload_n hx hb dX4_thingAt_1 rfl (lv_at hl 1 rfl) ?_
  refine tw_iald (i := fr) hx hb hK hT hr_tx shc_16 rfl (vin_t (a := fr.toInt) rfl (by omega) (by omega)) dX4_thingAt_2 (fun v9 m1 h9 => ?_)
  obtain ⟨x2, rfl, gx2, kx2⟩ := h9
  have cx2 := hc_vc.at m1 (by have q9 := tn_of (show fr.toInt = fr.toInt from rfl) (by omega); omega)
  have t3 : (x2.toInt < 128 ∧ tc vc fr.toNatClampNeg = x2.toInt) ∨ (128 ≤ x2.toInt ∧ tc vc fr.toNatClampNeg = x2.toInt - 256) := tc_s cx2 (by omega) (by omega)
  have hFc := gA_free hG hA hS
  refine va_calli (va_runS (As := [.int x2]) (rest := []) ⟨hx, hb, hml, hown, hts⟩ (c_isLetter l dC dI kA adK adV G s.heap nC nS x2 hT (by omega) (by omega)) (va_cwS 1 hts (goodIn_app (goodIn_r _ [2, 3, 4] rfl (by decide +kernel)) (goodIn_ca (goodIn_r _ [1] rfl (by decide +kernel)) (bs2_in _ _))) rfl rfl rfl (by decide +kernel) ⟨(Nat.le_of_ble_eq_true rfl), (Nat.le_of_ble_eq_true rfl)⟩) ⟨fun a U g mk q => by obtain ⟨q0, q1, qK, qE⟩ := q; exact ⟨q0, q1, va_K.moved (u := U) (U := U.calling g mk a) (Vm.Alike.refl U.vm) qK, EVC.blind g mk a qE⟩, fun U hU hW => ⟨rfl, hU, va_K.moved hW.alike hK, hE.call hS hFc hU hW⟩⟩ rfl rfl hl.1 rfl (lv_room (Nat.le_of_ble_eq_true rfl)) dX4_thingAt_3 ⟨(Nat.le_of_ble_eq_true rfl), (Nat.le_of_ble_eq_true rfl)⟩) hS (fun q _ h => hFc q h) hFc (fun r4 u t H locs ht hvm hw5 hB _ _ hS => ?_)
  obtain ⟨hT, hF1⟩ := hB
  rw [ht] at hT hF1
  have m6 := hc_vc.kept (hF1.arr hr_tx skc_16 (by decide))
  have m7 := (el_kept (hF1.arr hr_tx skc_16 (by decide))).trans m1
  have hF := hF.more hF1 (by decide)
  try dsimp only at hw5
  obtain ⟨h8, hf9, hf10⟩ := hw5
  refine lv_if_eq (tgt := 16) hx hb dX4_thingAt_6 (by decide) (fun c11 => ?_) (fun c11 => ?_)
  · have t12 : r4.toInt = 0 := ti_eq c11 rfl (by decide)
    refine lv_aload_n hx hb dX4_thingAt_16 rfl (lv_at hl 0 rfl) ?_
    refine lv_iload_n hx hb dX4_thingAt_17 rfl (lv_at hl 1 rfl) ?_
    refine tw_iald (i := fr) hx hb hK hT hr_tx shc_16 rfl (vin_t (a := fr.toInt) rfl (by omega) (by omega)) dX4_thingAt_18 (fun v9 m13 h9 => ?_)
    obtain ⟨x14, rfl, gx14, kx14⟩ := h9
    have cx14 := m6.at m13 (by have q9 := tn_of (show fr.toInt = fr.toInt from rfl) (by omega); omega)
    obtain rfl : x2 = x14 := (el_same m13 m7 rfl).symm
    have hFc := gA_free hG hA hS
    refine va_calli (va_runS (As := [.int x2]) (rest := []) ⟨hx, hb, hml, hown, hts⟩ (c_isDigit l dC dI kA adK adV G H nC nS x2 hT (by omega) (by omega)) (va_cwS 1 hts (goodIn_app (goodIn_r _ [6, 7, 4] rfl (by decide +kernel)) (goodIn_ca (goodIn_r _ [5] rfl (by decide +kernel)) (bs2_in _ _))) rfl rfl rfl (by decide +kernel) ⟨(Nat.le_of_ble_eq_true rfl), (Nat.le_of_ble_eq_true rfl)⟩) ⟨fun a U g mk q => by obtain ⟨q0, q1, qK, qE⟩ := q; exact ⟨q0, q1, va_K.moved (u := U) (U := U.calling g mk a) (Vm.Alike.refl U.vm) qK, EVC.blind g mk a qE⟩, fun U hU hW => ⟨rfl, hU, va_K.moved hW.alike hK, hE.call hS hFc hU hW⟩⟩ rfl rfl hl.1 rfl (lv_room (Nat.le_of_ble_eq_true rfl)) dX4_thingAt_19 ⟨(Nat.le_of_ble_eq_true rfl), (Nat.le_of_ble_eq_true rfl)⟩) hS (fun q _ h => hFc q h) hFc (fun r15 u t H locs ht hvm hw16 hB _ _ hS => ?_)
    obtain ⟨hT, hF1⟩ := hB
    rw [ht] at hT hF1
    have m17 := m6.kept (hF1.arr hr_tx skc_16 (by decide))
    have m18 := (el_kept (hF1.arr hr_tx skc_16 (by decide))).trans m7
    have hF := hF.more hF1 (by decide)
    try dsimp only at hw16
    obtain ⟨h19, hf20⟩ := hw16
    refine lv_if_eq (tgt := 34) hx hb dX4_thingAt_22 (by decide) (fun c21 => ?_) (fun c21 => ?_)
    · have t22 : r15.toInt = 0 := ti_eq c21 rfl (by decide)
      refine lv_aload_n hx hb dX4_thingAt_34 rfl (lv_at hl 0 rfl) ?_
      refine lv_iload_n hx hb dX4_thingAt_35 rfl (lv_at hl 1 rfl) ?_
      refine tw_iald (i := fr) hx hb hK hT hr_tx shc_16 rfl (vin_t (a := fr.toInt) rfl (by omega) (by omega)) dX4_thingAt_36 (fun v9 m23 h9 => ?_)
      obtain ⟨x24, rfl, gx24, kx24⟩ := h9
      have cx24 := m17.at m23 (by have q9 := tn_of (show fr.toInt = fr.toInt from rfl) (by omega); omega)
      obtain rfl : x2 = x24 := (el_same m23 m18 rfl).symm
      have hFc := gA_free hG hA hS
      refine va_calli (va_runS (As := [.int x2]) (rest := []) ⟨hx, hb, hml, hown, hts⟩ (c_signThing l dC dI kA adK adV G H nC nS x2 hT (by omega) (by omega)) (va_cwS 1 hts (goodIn_app (goodIn_r _ [9, 10, 4] rfl (by decide +kernel)) (goodIn_ca (goodIn_r _ [8] rfl (by decide +kernel)) (bs2_in _ _))) rfl rfl rfl (by decide +kernel) ⟨(Nat.le_of_ble_eq_true rfl), (Nat.le_of_ble_eq_true rfl)⟩) ⟨fun a U g mk q => by obtain ⟨q0, q1, qK, qE⟩ := q; exact ⟨q0, q1, va_K.moved (u := U) (U := U.calling g mk a) (Vm.Alike.refl U.vm) qK, EVC.blind g mk a qE⟩, fun U hU hW => ⟨rfl, hU, va_K.moved hW.alike hK, hE.call hS hFc hU hW⟩⟩ rfl rfl hl.1 rfl (lv_room (Nat.le_of_ble_eq_true rfl)) dX4_thingAt_37 ⟨(Nat.le_of_ble_eq_true rfl), (Nat.le_of_ble_eq_true rfl)⟩) hS (fun q _ h => hFc q h) hFc (fun r25 u t H locs ht hvm hw26 hB _ _ hS => ?_)
      obtain ⟨hT, hF1⟩ := hB
      rw [ht] at hT hF1
      have hF := hF.more hF1 (by decide)
      try dsimp only at hw26
      obtain ⟨h29, hf30⟩ := hw26
      exact W.iret (v := r25) hx hb hr (fun t ht hW => ⟨⟨r25, (), rfl, (by exact ⟨(by have q8 := ti_all r25; omega), (by have := tn_of (show fr.toInt = fr.toInt from rfl) (by omega); have := tn_of (show en.toInt = en.toInt from rfl) (by omega); have t9 := hte.2; have l9 : ltB (tc vc fr.toNatClampNeg) = false := ltB_0 (by omega); have d9 : dgB (tc vc fr.toNatClampNeg) = false := dgB_0 (by omega); rw [kd_s hte.1 l9 d9]; have s9 := hf30; rcases (show tc vc fr.toNatClampNeg = x2.toInt ∨ (128 ≤ x2.toInt ∧ tc vc fr.toNatClampNeg = x2.toInt - 256) by omega) with e9 | e9; (rw [e9]; exact s9); rw [sgT_o (v := tc vc fr.toNatClampNeg) (by omega)]; rw [sgT_o (v := x2.toInt) (by omega)] at s9; exact s9)⟩), by (try dsimp only); rw [ht]; exact ⟨hT, hF⟩⟩, hS.F ht⟩) hS.2.2 dX4_thingAt_40
    · have t31 : r15.toInt ≠ 0 := ti_ne c21 rfl (by decide)
      refine lv_aload_n hx hb dX4_thingAt_25 rfl (lv_at hl 0 rfl) ?_
      refine lv_iload_n hx hb dX4_thingAt_26 rfl (lv_at hl 1 rfl) ?_
      refine lv_iload_n hx hb dX4_thingAt_27 rfl (lv_at hl 2 rfl) ?_
      have hFc := gA_free hG hA hS
      refine va_calli (va_runS (As := [.ref tx, .int fr, .int en]) (rest := []) ⟨hx, hb, hml, hown, hts⟩ (c_numberThing l dC dI kA adK adV G H nC nS tx fr en vc hT hr_tx (by have q8 := ti_all fr; omega) (by have q8 := ti_all en; omega) (by have := (show fr.toInt = fr.toInt from rfl); have := (show en.toInt = en.toInt from rfl); omega) (fun j h8 h7 => by obtain ⟨x9, e9, a9, b9⟩ := hdgx ⟨x2, by rw [tn_same (i := fr) (j := fr) rfl (show fr.toInt = fr.toInt from rfl) (by omega)]; exact (el_kept (hF.arr hr_tx skc_16 (by decide))).symm.trans m18, by omega, by omega⟩ j h8 h7; exact ⟨x9, (el_kept (hF.arr hr_tx skc_16 (by decide))).trans e9, a9, b9⟩) m17 (by omega) (by omega)) (va_cwS 3 hts (goodIn_app (goodIn_r _ [12, 13, 4] rfl (by decide +kernel)) (goodIn_ca (goodIn_r _ [11] rfl (by decide +kernel)) (bs2_in _ _))) rfl rfl rfl (by decide +kernel) ⟨(Nat.le_of_ble_eq_true rfl), (Nat.le_of_ble_eq_true rfl)⟩) ⟨fun a U g mk q => by obtain ⟨q0, q1, qK, qE⟩ := q; exact ⟨q0, q1, va_K.moved (u := U) (U := U.calling g mk a) (Vm.Alike.refl U.vm) qK, EVC.blind g mk a qE⟩, fun U hU hW => ⟨rfl, hU, va_K.moved hW.alike hK, hE.call hS hFc hU hW⟩⟩ rfl rfl hl.1 rfl (lv_room (Nat.le_of_ble_eq_true rfl)) dX4_thingAt_28 ⟨(Nat.le_of_ble_eq_true rfl), (Nat.le_of_ble_eq_true rfl)⟩) hS (fun q _ h => hFc q h) hFc (fun r32 u t H locs ht hvm hw33 hB _ _ hS => ?_)
      obtain ⟨hT, hF1⟩ := hB
      rw [ht] at hT hF1
      have hF := hF.more hF1 (by decide)
      try dsimp only at hw33
      obtain ⟨h36, hf37⟩ := hw33
      refine lv_goto (tgt := 40) hx hb dX4_thingAt_31 (by decide) ?_
      exact W.iret (v := r32) hx hb hr (fun t ht hW => ⟨⟨r32, (), rfl, (by exact ⟨(by have q8 := ti_all r32; omega), (by have := tn_of (show fr.toInt = fr.toInt from rfl) (by omega); have := tn_of (show en.toInt = en.toInt from rfl) (by omega); have t9 := hte.2; have l9 : ltB (tc vc fr.toNatClampNeg) = false := ltB_0 (by omega); have d9 : dgB (tc vc fr.toNatClampNeg) = true := dgB_1 (by omega); rw [te_d l9 d9] at t9; rw [kd_d hte.1 l9 d9, ← t9]; rcases hf37 with ⟨y1, y2⟩ | ⟨y1, y2⟩; (rw [if_pos y1]; exact y2); rw [if_neg (by omega)]; exact y2)⟩), by (try dsimp only); rw [ht]; exact ⟨hT, hF⟩⟩, hS.F ht⟩) hS.2.2 dX4_thingAt_40
  · have t38 : r4.toInt ≠ 0 := ti_ne c11 rfl (by decide)
    refine lv_aload_n hx hb dX4_thingAt_9 rfl (lv_at hl 0 rfl) ?_
    refine lv_iload_n hx hb dX4_thingAt_10 rfl (lv_at hl 1 rfl) ?_
    refine lv_iload_n hx hb dX4_thingAt_11 rfl (lv_at hl 2 rfl) ?_
    have hFc := gA_free hG hA hS
    refine va_calli (va_runS (As := [.ref tx, .int fr, .int en]) (rest := []) ⟨hx, hb, hml, hown, hts⟩ (c_wordThing l dC dI kA adK adV G H nC nS tx fr en vc hT hr_tx (by have q8 := ti_all fr; omega) (by have q8 := ti_all en; omega) (by have := (show fr.toInt = fr.toInt from rfl); have := (show en.toInt = en.toInt from rfl); omega) m6 (by omega) (by omega)) (va_cwS 3 hts (goodIn_app (goodIn_r _ [56, 57, 4] rfl (by decide +kernel)) (goodIn_ca (goodIn_r _ [14, 15, 16, 17, 18, 19, 20, 21, 22, 23, 24, 25, 26, 27, 28, 29, 30, 31, 32, 33, 34, 35, 36, 37, 38, 39, 40, 41, 42, 43, 44, 45, 46, 47, 48, 49, 50, 4, 51, 52, 53, 54, 55] rfl (by decide +kernel)) (bs2_in _ _))) rfl rfl rfl (by decide +kernel) ⟨(Nat.le_of_ble_eq_true rfl), (Nat.le_of_ble_eq_true rfl)⟩) ⟨fun a U g mk q => by obtain ⟨q0, q1, qK, qE⟩ := q; exact ⟨q0, q1, va_K.moved (u := U) (U := U.calling g mk a) (Vm.Alike.refl U.vm) qK, EVC.blind g mk a qE⟩, fun U hU hW => ⟨rfl, hU, va_K.moved hW.alike hK, hE.call hS hFc hU hW⟩⟩ rfl rfl hl.1 rfl (lv_room (Nat.le_of_ble_eq_true rfl)) dX4_thingAt_12 ⟨(Nat.le_of_ble_eq_true rfl), (Nat.le_of_ble_eq_true rfl)⟩) hS (fun q _ h => hFc q h) hFc (fun r39 u t H locs ht hvm hw40 hB _ _ hS => ?_)
    obtain ⟨hT, hF1⟩ := hB
    rw [ht] at hT hF1
    have hF := hF.more hF1 (by decide)
    try dsimp only at hw40
    obtain ⟨h43, hf44⟩ := hw40
    exact W.iret (v := r39) hx hb hr (fun t ht hW => ⟨⟨r39, (), rfl, (by exact ⟨(by have q8 := ti_all r39; omega), (by have := tn_of (show fr.toInt = fr.toInt from rfl) (by omega); have := tn_of (show en.toInt = en.toInt from rfl) (by omega); have t9 := hte.2; have l9 : ltB (tc vc fr.toNatClampNeg) = true := ltB_1 (by omega); rw [te_w l9] at t9; rw [kd_w hte.1 l9, ← t9]; exact hf44)⟩), by (try dsimp only); rw [ht]; exact ⟨hT, hF⟩⟩, hS.F ht⟩) hS.2.2 dX4_thingAt_15
def w_c_scan : List Cond := .code yX4_scan cX4_scan 6 none :: (HAppend.hAppend (α := List Cond) (β := List Cond) (γ := List Cond) [.fieldLink RX4 11 "SeaLand$Law" "things" "[I", .fieldLink RX4 15 "SeaLand$Law" "begins" "[I", .code yX4_thingEnd cX4_thingEnd 6 (some .int), .code yX4_isLetter cX4_isLetter 1 (some .boolean), .methodLink RX4 81 yX4_isLetter, .static yX4_isLetter, .initialized RX4, .code yX4_isDigit cX4_isDigit 1 (some .boolean), .methodLink RX4 84 yX4_isDigit, .static yX4_isDigit, .methodLink RX4 74 yX4_thingEnd, .static yX4_thingEnd, .code yX4_thingAt cX4_thingAt 3 (some .int), .code yX4_signThing cX4_signThing 1 (some .int), .methodLink RX4 93 yX4_signThing, .static yX4_signThing, .code yX4_numberThing cX4_numberThing 5 (some .int), .methodLink RX4 90 yX4_numberThing, .static yX4_numberThing, .code yX4_wordThing cX4_wordThing 4 (some .int), .code yX4_factThing cX4_factThing 3 (some .int), .code yX4_wordIs cX4_wordIs 5 (some .boolean), .code yJ0_length_8abf5 cJ0_length_8abf5 1 (some .int), .fieldLink RJ0 9 "java/lang/String" "value" "[B", .code yJ0_coder_7d493 cJ0_coder_7d493 1 (some .byte), .fieldLink RJ0 38 "java/lang/String" "COMPACT_STRINGS" "Z", .fieldLink RJ0 15 "java/lang/String" "coder" "B", .methodLink RJ0 335 yJ0_coder_7d493, .instanceMethod yJ0_coder_7d493, .selects RJ0 yJ0_coder_7d493 yJ0_coder_7d493, .initialized RJ0, .methodLink RX4 155 yJ0_length_8abf5, .instanceMethod yJ0_length_8abf5, .selects RJ0 yJ0_length_8abf5 yJ0_length_8abf5, .code yJ0_charAt_5068e cJ0_charAt_5068e 2 (some .char), .code yJ0_isLatin1_aae02 cJ0_isLatin1_aae02 1 (some .boolean), .methodLink RJ0 492 yJ0_isLatin1_aae02, .instanceMethod yJ0_isLatin1_aae02, .selects RJ0 yJ0_isLatin1_aae02 yJ0_isLatin1_aae02, .code yJ1_charAt_3b067 cJ1_charAt_3b067 2 (some .char), .code yJ0_checkIndex_df160 cJ0_checkIndex_df160 2 none, .fieldLink RJ0 1053 "jdk/internal/util/Preconditions" "SIOOBE_FORMATTER" "Ljava/util/function/BiFunction;", .code yJ3_checkIndex_8e157 cJ3_checkIndex_8e157 3 (some .int), .methodLink RJ0 1059 yJ3_checkIndex_8e157, .static yJ3_checkIndex_8e157, .initialized RJ3, .methodLink RJ1 9 yJ0_checkIndex_df160, .static yJ0_checkIndex_df160, .methodLink RJ0 495 yJ1_charAt_3b067, .static yJ1_charAt_3b067, .initialized RJ1, .methodLink RX4 161 yJ0_charAt_5068e, .instanceMethod yJ0_charAt_5068e, .selects RJ0 yJ0_charAt_5068e yJ0_charAt_5068e, .methodLink RX4 105 yX4_wordIs, .static yX4_wordIs, .methodLink RX4 97 yX4_factThing, .static yX4_factThing, .code yX4_lineThing cX4_lineThing 4 (some .int), .methodLink RX4 100 yX4_lineThing, .static yX4_lineThing, .methodLink RX4 87 yX4_wordThing, .static yX4_wordThing, .methodLink RX4 78 yX4_thingAt, .static yX4_thingAt] bs2)
set_option maxHeartbeats 4000000 in
set_option maxRecDepth 100000 in
theorem c_scan (l : Launch) (dC : Nat → ClassId) (dI : Nat → Nat → Nat) (kA : Nat → ClassId) (adK adV : Nat → Nat) (G : gT) (H0 : Heap) (nC nS : Int) (o0 : Nat) (tx : Nat) (le : Int32) (th : Nat) (bg9 : Nat) (vc : Nat → Int32) (vT : Nat → Int32) (vB : Nat → Int32) (N : Nat) (hT : gH (dC, dI) kA (SHc nC nS) G H0) (hr_tx : G tx = some 16) (hr_o0 : G o0 = some 152) (hm_th : el H0 o0 (dI 7 0) = some (.ref th)) (hr_th : G th = some 153) (hm_bg9 : el H0 o0 (dI 7 1) = some (.ref bg9)) (hr_bg9 : G bg9 = some 154) (hq0 : 0 ≤ le.toInt ∧ le.toInt ≤ 400) (hN : le.toInt = ((N : Nat) : Int)) (hc_vc : ct H0 tx 400 vc) (hc_vT : ct H0 th 401 vT) (hc_vB : ct H0 bg9 401 vB) (hgC : 0 ≤ nC ∧ nC ≤ 40) (hgS : 0 ≤ nS ∧ nS ≤ 60) : Met l yX4_scan w_c_scan ({ frames := 8, cells := 0, slots := 0, locals := 177 }) (va_Pc [.ref o0, .ref tx, .int le] (fun U => U.heap = H0 ∧ va_K (dC, dI) vwCl (tyl kA) U ∧ EVC adK adV (gA G H0.size) U U.heap)) (va_Qv (fun (u : Int32 × (Nat → Int32) × (Nat → Int32)) => match u with | (tn, vT1, vB1) => (0 ≤ tn.toInt ∧ tn.toInt ≤ 400) ∧ (psn (tc vc) N tn.toNatClampNeg = N ∧ ∀ m : Nat, m ≤ tn.toNatClampNeg → (vT1 m).toInt = kd (tc vc) N (psn (tc vc) N m) ∧ (vB1 m).toInt = ((psn (tc vc) N m : Nat) : Int))) (fun (u : Int32 × (Nat → Int32) × (Nat → Int32)) (t : State) => match u with | (tn, vT1, vB1) => gH (dC, dI) kA (SHc nC nS) G t.heap ∧ gF (dC, dI) SKc G ([(153, 0), (154, 0)] : List (Nat × Nat)) H0 t.heap ∧ el t.heap th tn.toNatClampNeg = some (.int 21) ∧ ct t.heap th 401 vT1 ∧ ct t.heap bg9 401 vB1) (gA G H0.size)) 0 0 (gA G H0.size) := by
  refine Met.ofW (cc := cX4_scan) (maxL := 6) (ret := none) (by decide) rfl ?_
  intro p e s m args below meth c s₁ B hml hv
  obtain ⟨rfl, hH0, hK, hE⟩ := hv
  have hx := B.exec
  have hb := B.bytes
  have hr := B.returns
  have hts := atoms_spec (ws := w_c_scan) B.pre
  have hown : s.vm.findClass RX4 = some m.cls := findClass_of_methodNamed B.named
  have hlocks := B.notSynchronized
  subst hH0
  generalize hAe : gA G s.heap.size = A at hE ⊢
  have hA : ∀ q : Nat, s.heap.size ≤ q → A q := fun q h => by rw [← hAe]; exact Or.inr h
  have hG := gA_of hAe
  have hS : va_S A s.heap s.heap [] := va_S.rf
  have hF : gF (dC, dI) SKc G ([(153, 0), (154, 0)] : List (Nat × Nat)) s.heap s.heap := gF.rf
  have hl := lv_entry ([.ref o0, .ref tx, .int le]) (n := 6) (Nat.le_of_ble_eq_true rfl)
  rw [lg_entry_eq]
  generalize (lg_sl ([.ref o0, .ref tx, .int le]) ++ List.replicate (6 - (lg_sl ([.ref o0, .ref tx, .int le])).length) Slot.unset).toArray = ls at hl ⊢
  have hl : lv_has ls 6 [(0, .ref o0), (1, .ref tx), (2, .int le)] := hl
  refine lv_iconst (v := 0) hx hb dX4_scan_0 (by decide) ?_
  refine lv_istore_n (lv' := [(3, .int 0), (0, .ref o0), (1, .ref tx), (2, .int le)]) hx hb dX4_scan_1 rfl hl (by decide) rfl (fun ls hl => ?_)
  refine lv_iconst (v := 0) hx hb dX4_scan_2 (by decide) ?_
  refine lv_istore (lv' := [(4, .int 0), (3, .int 0), (0, .ref o0), (1, .ref tx), (2, .int le)]) hx hb dX4_scan_3 hl (by decide) rfl (fun ls hl => ?_)
  refine lv_iconst (v := 0) hx hb dX4_scan_5 (by decide) ?_
  refine lv_istore (lv' := [(5, .int 0), (4, .int 0), (3, .int 0), (0, .ref o0), (1, .ref tx), (2, .int le)]) hx hb dX4_scan_6 hl (by decide) rfl (fun ls hl => ?_)
  have key80 : ∀ (n80 i1 : Nat), i1 + n80 = 400 → 0 ≤ i1 → ∀ (z2 : Int32), ∀ (z4 : Int32), ∀ (V7 : Nat → Int32), ∀ (V9 : Nat → Int32), ((0 ≤ z2.toInt ∧ z2.toInt ≤ 400) ∧ (0 ≤ z4.toInt ∧ z4.toInt ≤ 400) ∧ ((psn (tc vc) N z4.toNatClampNeg = skp (tc vc) N (max i1 z2.toNatClampNeg)) ∧ (z2.toNatClampNeg ≤ N ∧ i1 ≤ N) ∧ ∀ m : Nat, m < z4.toNatClampNeg → (V7 m).toInt = kd (tc vc) N (psn (tc vc) N m) ∧ (V9 m).toInt = ((psn (tc vc) N m : Nat) : Int)) ∧ (z4.toInt ≤ ((i1 : Nat) : Int))) → ∀ (H : Heap) (locs : List Loc), gH (dC, dI) kA (SHc nC nS) G H → gF (dC, dI) SKc G ([(153, 0), (154, 0)] : List (Nat × Nat)) s.heap H → va_S A s.heap H locs → ct H tx 400 vc → ct H th 401 V7 → ct H bg9 401 V9 → el H o0 (dI 7 0) = some (.ref th) → el H o0 (dI 7 1) = some (.ref bg9) → ∀ ls : Array Slot, lv_has ls 6 [(5, .int (nI i1)), (4, .int z2), (3, .int z4), (0, .ref o0), (1, .ref tx), (2, .int le)] → W p l e (headSpec w_c_scan ({ frames := 8, cells := 0, slots := 0, locals := 177 })).room s m #[.ref o0, .ref tx, .int le] below meth c H locs 0 0 (MQ below (va_Qv (fun (u : Int32 × (Nat → Int32) × (Nat → Int32)) => match u with | (tn, vT1, vB1) => (0 ≤ tn.toInt ∧ tn.toInt ≤ 400) ∧ (psn (tc vc) N tn.toNatClampNeg = N ∧ ∀ m : Nat, m ≤ tn.toNatClampNeg → (vT1 m).toInt = kd (tc vc) N (psn (tc vc) N m) ∧ (vB1 m).toInt = ((psn (tc vc) N m : Nat) : Int))) (fun (u : Int32 × (Nat → Int32) × (Nat → Int32)) (t : State) => match u with | (tn, vT1, vB1) => gH (dC, dI) kA (SHc nC nS) G t.heap ∧ gF (dC, dI) SKc G ([(153, 0), (154, 0)] : List (Nat × Nat)) s.heap t.heap ∧ el t.heap th tn.toNatClampNeg = some (.int 21) ∧ ct t.heap th 401 vT1 ∧ ct t.heap bg9 401 vB1) A) #[.ref o0, .ref tx, .int le] s 0 0 A) (F0 m 8 ls []) := by
    intro n80
    induction n80 with
    | zero =>
      intro i1 hn80 hlo81 z2 z4 V7 V9 ⟨h3, h5, hj13, hj14⟩ H locs hT hF hS m6 m8 m10 m11 m12 ls hl
      obtain rfl : 400 = i1 := by omega
      refine lv_iload hx hb dX4_scan_8 (lv_at hl 0 rfl) ?_
      refine lv_iload_n hx hb dX4_scan_10 rfl (lv_at hl 5 rfl) ?_
      refine lv_icmp_ge (tgt := 70) hx hb dX4_scan_11 (by decide) (fun c82 => ?_) (fun c82 => (by exfalso; have q9 : ((400 : Nat) : Int) < le.toInt := ti_nle c82 rfl (nI_toInt (by omega)); omega))
      have t83 : le.toInt ≤ ((400 : Nat) : Int) := ti_le c82 rfl (nI_toInt (by omega))
      refine lv_aload_n hx hb dX4_scan_70 rfl (lv_at hl 3 rfl) ?_
      refine tw_getM (v := .ref th) hx hb hts bF2_X4 hown hK hT hr_o0 shc_152 rfl 0 (by decide) (ht_at2 hts 0 rfl) (fun _ h9 => h9) m11 dX4_scan_71 ?_
      refine lv_iload_n hx hb dX4_scan_74 rfl (lv_at hl 2 rfl) ?_
      refine lv_bipush (v := 21) hx hb dX4_scan_75 (by decide) ?_
      refine tw_iast (i := z4) (x := 21) hx hb hK hT hG hS hr_th shc_153 rfl (vin_t (a := z4.toInt) rfl (by omega) (by omega)) (gi_of (show (21 : Int32).toInt = 21 from (by decide)) (by first | decide | omega) (by first | decide | omega)) dX4_scan_77 (fun H locs hT oq m84 oi hS => ?_)
      have hF := hF.ast hr_th skc_153 oq (by decide)
      have m86 := m8.put m84 oi
      have m87 := m10.kept (oq _ (gne hr_bg9 hr_th (by decide)))
      have m89 := (el_kept (oq _ (gne hr_o0 hr_th (by decide)))).trans m12
      refine lv_aload_n hx hb dX4_scan_78 rfl (lv_at hl 3 rfl) ?_
      refine tw_getM (v := .ref bg9) hx hb hts bF2_X4 hown hK hT hr_o0 shc_152 rfl 1 (by decide) (ht_at2 hts 1 rfl) (fun _ h9 => h9) m89 dX4_scan_79 ?_
      refine lv_iload_n hx hb dX4_scan_82 rfl (lv_at hl 2 rfl) ?_
      refine lv_iload_n hx hb dX4_scan_83 rfl (lv_at hl 5 rfl) ?_
      refine tw_iast (i := z4) (x := le) hx hb hK hT hG hS hr_bg9 shc_154 rfl (vin_t (a := z4.toInt) rfl (by omega) (by omega)) (gi_all _) dX4_scan_84 (fun H locs hT oq m90 oi hS => ?_)
      have hF := hF.ast hr_bg9 skc_154 oq (by decide)
      have m92 := m86.kept (oq _ (gne hr_th hr_bg9 (by decide)))
      have m93 := m87.put m90 oi
      have m96 := (el_kept (oq _ (gne hr_th hr_bg9 (by decide)))).trans m84
      exact W.vret hx hb hr (fun t ht hW => ⟨⟨(z4, (cu V7 z4.toNatClampNeg (21 : Int32)), (cu V9 z4.toNatClampNeg le)), rfl, (by exact ⟨(by have q8 := ti_all z4; omega), (by have := tn_of (show z4.toInt = z4.toInt from rfl) (by omega); have := tn_of (show z2.toInt = z2.toInt from rfl) (by omega); have := tn_of (show le.toInt = le.toInt from rfl) (by omega); have p9 : psn (tc vc) N z4.toNatClampNeg = N := (by rw [hj13.1, show max 400 z2.toNatClampNeg = N from by omega]; exact skp_n); exact ⟨p9, fun m h9 => by by_cases q9 : m = z4.toNatClampNeg; (rw [cu_s q9, cu_s q9, q9, p9, kd_e (Nat.le_refl N)]; exact ⟨by decide, by omega⟩); rw [cu_o q9, cu_o q9]; exact hj13.2.2 m (by omega)⟩)⟩), by (try dsimp only); rw [ht]; exact ⟨hT, hF, m96, m92, m93⟩⟩, hS.F ht⟩) hS.2.2 dX4_scan_85
    | succ n80 ih80 =>
      intro i1 hn80 hlo81 z2 z4 V7 V9 ⟨h3, h5, hj13, hj14⟩ H locs hT hF hS m6 m8 m10 m11 m12 ls hl
      have hlt96 : i1 < 400 := by omega
      refine lv_iload hx hb dX4_scan_8 (lv_at hl 0 rfl) ?_
      refine lv_iload_n hx hb dX4_scan_10 rfl (lv_at hl 5 rfl) ?_
      refine lv_icmp_ge (tgt := 70) hx hb dX4_scan_11 (by decide) (fun c97 => ?_) (fun c97 => ?_)
      · have t98 : le.toInt ≤ ((i1 : Nat) : Int) := ti_le c97 rfl (nI_toInt (by omega))
        refine lv_aload_n hx hb dX4_scan_70 rfl (lv_at hl 3 rfl) ?_
        refine tw_getM (v := .ref th) hx hb hts bF2_X4 hown hK hT hr_o0 shc_152 rfl 0 (by decide) (ht_at2 hts 0 rfl) (fun _ h9 => h9) m11 dX4_scan_71 ?_
        refine lv_iload_n hx hb dX4_scan_74 rfl (lv_at hl 2 rfl) ?_
        refine lv_bipush (v := 21) hx hb dX4_scan_75 (by decide) ?_
        refine tw_iast (i := z4) (x := 21) hx hb hK hT hG hS hr_th shc_153 rfl (vin_t (a := z4.toInt) rfl (by omega) (by omega)) (gi_of (show (21 : Int32).toInt = 21 from (by decide)) (by first | decide | omega) (by first | decide | omega)) dX4_scan_77 (fun H locs hT oq m99 oi hS => ?_)
        have hF := hF.ast hr_th skc_153 oq (by decide)
        have m101 := m8.put m99 oi
        have m102 := m10.kept (oq _ (gne hr_bg9 hr_th (by decide)))
        have m104 := (el_kept (oq _ (gne hr_o0 hr_th (by decide)))).trans m12
        refine lv_aload_n hx hb dX4_scan_78 rfl (lv_at hl 3 rfl) ?_
        refine tw_getM (v := .ref bg9) hx hb hts bF2_X4 hown hK hT hr_o0 shc_152 rfl 1 (by decide) (ht_at2 hts 1 rfl) (fun _ h9 => h9) m104 dX4_scan_79 ?_
        refine lv_iload_n hx hb dX4_scan_82 rfl (lv_at hl 2 rfl) ?_
        refine lv_iload_n hx hb dX4_scan_83 rfl (lv_at hl 5 rfl) ?_
        refine tw_iast (i := z4) (x := le) hx hb hK hT hG hS hr_bg9 shc_154 rfl (vin_t (a := z4.toInt) rfl (by omega) (by omega)) (gi_all _) dX4_scan_84 (fun H locs hT oq m105 oi hS => ?_)
        have hF := hF.ast hr_bg9 skc_154 oq (by decide)
        have m107 := m101.kept (oq _ (gne hr_th hr_bg9 (by decide)))
        have m108 := m102.put m105 oi
        have m111 := (el_kept (oq _ (gne hr_th hr_bg9 (by decide)))).trans m99
        exact W.vret hx hb hr (fun t ht hW => ⟨⟨(z4, (cu V7 z4.toNatClampNeg (21 : Int32)), (cu V9 z4.toNatClampNeg le)), rfl, (by exact ⟨(by have q8 := ti_all z4; omega), (by have := tn_of (show z4.toInt = z4.toInt from rfl) (by omega); have := tn_of (show z2.toInt = z2.toInt from rfl) (by omega); have := tn_of (show le.toInt = le.toInt from rfl) (by omega); have p9 : psn (tc vc) N z4.toNatClampNeg = N := (by rw [hj13.1, show max i1 z2.toNatClampNeg = N from by omega]; exact skp_n); exact ⟨p9, fun m h9 => by by_cases q9 : m = z4.toNatClampNeg; (rw [cu_s q9, cu_s q9, q9, p9, kd_e (Nat.le_refl N)]; exact ⟨by decide, by omega⟩); rw [cu_o q9, cu_o q9]; exact hj13.2.2 m (by omega)⟩)⟩), by (try dsimp only); rw [ht]; exact ⟨hT, hF, m111, m107, m108⟩⟩, hS.F ht⟩) hS.2.2 dX4_scan_85
      · have t112 : ((i1 : Nat) : Int) < le.toInt := ti_nle c97 rfl (nI_toInt (by omega))
        refine lv_iload hx hb dX4_scan_14 (lv_at hl 0 rfl) ?_
        refine lv_iload hx hb dX4_scan_16 (lv_at hl 1 rfl) ?_
        refine lv_icmp_lt (tgt := 64) hx hb dX4_scan_18 (by decide) (fun c113 => ?_) (fun c113 => ?_)
        · have t114 : ((i1 : Nat) : Int) < z2.toInt := ti_lt c113 (nI_toInt (by omega)) rfl
          refine lv_iinc (v := nI (i1 + 1)) (lv' := [(5, .int (nI (i1 + 1))), (4, .int z2), (3, .int z4), (0, .ref o0), (1, .ref tx), (2, .int le)]) hx hb dX4_scan_64 hl (k := 0) rfl (nI_add i1 1) (by decide) rfl (fun ls hl => ?_)
          refine lv_goto (tgt := 8) hx hb dX4_scan_67 (by decide) ?_
          exact ih80 (i1 + 1) (by omega) (by omega) z2 z4 V7 V9 ⟨(by have q8 := ti_all z2; omega), (by have q9 := (show z4.toInt = z4.toInt from rfl); (try have q8 := ti_all z4); omega), (by have := tn_of (show z4.toInt = z4.toInt from rfl) (by omega); have := tn_of (show z2.toInt = z2.toInt from rfl) (by omega); refine ⟨?_, ⟨by omega, by omega⟩, hj13.2.2⟩; rw [hj13.1, show max i1 z2.toNatClampNeg = max (i1 + 1) z2.toNatClampNeg from by omega]), (by have := (show z4.toInt = z4.toInt from rfl); omega)⟩ _ _ hT hF hS m6 m8 m10 m11 m12 ls (lv_sub hl [0, 1, 2, 3, 4, 5] rfl)
        · have t115 : z2.toInt ≤ ((i1 : Nat) : Int) := ti_nlt c113 (nI_toInt (by omega)) rfl
          refine lv_aload_n hx hb dX4_scan_21 rfl (lv_at hl 4 rfl) ?_
          refine lv_iload hx hb dX4_scan_22 (lv_at hl 0 rfl) ?_
          refine tw_iald (i := (nI i1)) hx hb hK hT hr_tx shc_16 rfl (vp_in_nI (by omega) (by decide)) dX4_scan_24 (fun v9 m116 h9 => ?_)
          obtain ⟨x117, rfl, gx117, kx117⟩ := h9
          have cx117 := m6.at m116 (by have q9 := tn_of (show (nI i1).toInt = ((i1 : Nat) : Int) from (nI_toInt (by omega))) (by omega); omega)
          have t118 : (x117.toInt < 128 ∧ tc vc i1 = x117.toInt) ∨ (128 ≤ x117.toInt ∧ tc vc i1 = x117.toInt - 256) := tc_s (cx117.trans (by rw [tn_nI (by omega)])) (by omega) (by omega)
          refine lv_bipush (v := 32) hx hb dX4_scan_25 (by decide) ?_
          refine lv_icmp_eq (tgt := 64) hx hb dX4_scan_27 (by decide) (fun c119 => ?_) (fun c119 => ?_)
          · have t120 : x117.toInt = 32 := ti_eq c119 rfl (by decide)
            refine lv_iinc (v := nI (i1 + 1)) (lv' := [(5, .int (nI (i1 + 1))), (4, .int z2), (3, .int z4), (0, .ref o0), (1, .ref tx), (2, .int le)]) hx hb dX4_scan_64 hl (k := 0) rfl (nI_add i1 1) (by decide) rfl (fun ls hl => ?_)
            refine lv_goto (tgt := 8) hx hb dX4_scan_67 (by decide) ?_
            exact ih80 (i1 + 1) (by omega) (by omega) z2 z4 V7 V9 ⟨(by have q8 := ti_all z2; omega), (by have q9 := (show z4.toInt = z4.toInt from rfl); (try have q8 := ti_all z4); omega), (by have := tn_of (show z4.toInt = z4.toInt from rfl) (by omega); have := tn_of (show z2.toInt = z2.toInt from rfl) (by omega); refine ⟨?_, ⟨by omega, by omega⟩, hj13.2.2⟩; rw [hj13.1, show max i1 z2.toNatClampNeg = i1 from by omega, show max (i1 + 1) z2.toNatClampNeg = i1 + 1 from by omega]; exact skp_s (by omega) (by omega)), (by have := (show z4.toInt = z4.toInt from rfl); omega)⟩ _ _ hT hF hS m6 m8 m10 m11 m12 ls (lv_sub hl [0, 1, 2, 3, 4, 5] rfl)
          · have t121 : x117.toInt ≠ 32 := ti_ne c119 rfl (by decide)
            refine lv_aload_n hx hb dX4_scan_30 rfl (lv_at hl 4 rfl) ?_
            refine lv_iload hx hb dX4_scan_31 (lv_at hl 0 rfl) ?_
            refine lv_iload_n hx hb dX4_scan_33 rfl (lv_at hl 5 rfl) ?_
            have hFc := gA_free hG hA hS
            refine va_calli (va_runS (As := [.ref tx, .int (nI i1), .int le]) (rest := []) ⟨hx, hb, hml, hown, hts⟩ (c_thingEnd l dC dI kA adK adV G H nC nS tx (nI i1) le vc N hT hr_tx (rg_t (a := ((i1 : Nat) : Int)) (nI_toInt (by omega)) (by omega) (by omega)) (by have q8 := ti_all le; omega) (by have := (show (nI i1).toInt = ((i1 : Nat) : Int) from (nI_toInt (by omega))); have := (show le.toInt = le.toInt from rfl); omega) hN m6 (by omega) (by omega)) (va_cwS 3 hts (goodIn_app (goodIn_r _ [11, 12, 7] rfl (by decide +kernel)) (goodIn_ca (goodIn_r _ [3, 4, 5, 6, 7, 8, 9, 10] rfl (by decide +kernel)) (bs2_in _ _))) rfl rfl rfl (by decide +kernel) ⟨(Nat.le_of_ble_eq_true rfl), (Nat.le_of_ble_eq_true rfl)⟩) ⟨fun a U g mk q => by obtain ⟨q0, q1, qK, qE⟩ := q; exact ⟨q0, q1, va_K.moved (u := U) (U := U.calling g mk a) (Vm.Alike.refl U.vm) qK, EVC.blind g mk a qE⟩, fun U hU hW => ⟨rfl, hU, va_K.moved hW.alike hK, hE.call hS hFc hU hW⟩⟩ rfl rfl hl.1 rfl (lv_room (Nat.le_of_ble_eq_true rfl)) dX4_scan_34 ⟨(Nat.le_of_ble_eq_true rfl), (Nat.le_of_ble_eq_true rfl)⟩) hS (fun q _ h => hFc q h) hFc (fun r122 u t H locs ht hvm hw123 hB _ _ hS => ?_)
            obtain ⟨hT, hF1⟩ := hB
            rw [ht] at hT hF1
            have m124 := m6.kept (hF1.arr hr_tx skc_16 (by decide))
            have m125 := m8.kept (hF1.arr hr_th skc_153 (by decide))
            have m126 := m10.kept (hF1.arr hr_bg9 skc_154 (by decide))
            have m127 := (hF1.fld hr_o0 skc_152 (k := 0) (by decide) (by decide)).trans m11
            have m128 := (hF1.fld hr_o0 skc_152 (k := 1) (by decide) (by decide)).trans m12
            have hF := hF.more hF1 (by decide)
            try dsimp only at hw123
            obtain ⟨h130, hf131, hf132, hf133⟩ := hw123
            have t134 : (nI i1).toInt = ((i1 : Nat) : Int) := nI_toInt (by omega)
            refine lv_istore (lv' := [(4, .int r122), (5, .int (nI i1)), (3, .int z4), (0, .ref o0), (1, .ref tx), (2, .int le)]) hx hb dX4_scan_37 hl (by decide) rfl (fun ls hl => ?_)
            refine lv_aload_n hx hb dX4_scan_39 rfl (lv_at hl 3 rfl) ?_
            refine tw_getM (v := .ref th) hx hb hts bF2_X4 hown hK hT hr_o0 shc_152 rfl 0 (by decide) (ht_at2 hts 0 rfl) (fun _ h9 => h9) m127 dX4_scan_40 ?_
            refine lv_iload_n hx hb dX4_scan_43 rfl (lv_at hl 2 rfl) ?_
            refine lv_aload_n hx hb dX4_scan_44 rfl (lv_at hl 4 rfl) ?_
            refine lv_iload hx hb dX4_scan_45 (lv_at hl 1 rfl) ?_
            refine lv_iload hx hb dX4_scan_47 (lv_at hl 0 rfl) ?_
            have hFc := gA_free hG hA hS
            refine va_calli (va_runS (As := [.ref tx, .int (nI i1), .int r122]) (rest := [.int z4, .ref th]) ⟨hx, hb, hml, hown, hts⟩ (c_thingAt l dC dI kA adK adV G H nC nS tx (nI i1) r122 vc N hT hr_tx (rg_t (a := ((i1 : Nat) : Int)) (nI_toInt (by omega)) (by omega) (by omega)) (by have q8 := ti_all r122; omega) (by have := (show (nI i1).toInt = ((i1 : Nat) : Int) from (nI_toInt (by omega))); have := (show r122.toInt = r122.toInt from rfl); omega) (fun h9 j h8 h7 => by obtain ⟨x9, e9, ab9⟩ := h9; obtain ⟨y9, f9, g9⟩ := hf132 ⟨x9, (el_kept (hF1.arr hr_tx skc_16 (by decide))).symm.trans e9, ab9⟩ j h8 h7; exact ⟨y9, (el_kept (hF1.arr hr_tx skc_16 (by decide))).trans f9, g9⟩) ⟨by rw [tn_nI (by omega)]; omega, hf133⟩ m124 (by omega) (by omega)) (va_cwS 3 hts (goodIn_app (goodIn_r _ [64, 65, 7] rfl (by decide +kernel)) (goodIn_ca (goodIn_r _ [13, 4, 5, 6, 7, 8, 9, 10, 14, 15, 16, 17, 18, 19, 20, 21, 22, 23, 24, 25, 26, 27, 28, 29, 30, 31, 32, 33, 34, 35, 36, 37, 38, 39, 40, 41, 42, 43, 44, 45, 46, 47, 48, 49, 50, 51, 52, 53, 54, 55, 56, 57, 58, 59, 60, 61, 62, 63] rfl (by decide +kernel)) (bs2_in _ _))) rfl rfl rfl (by decide +kernel) ⟨(Nat.le_of_ble_eq_true rfl), (Nat.le_of_ble_eq_true rfl)⟩) ⟨fun a U g mk q => by obtain ⟨q0, q1, qK, qE⟩ := q; exact ⟨q0, q1, va_K.moved (u := U) (U := U.calling g mk a) (Vm.Alike.refl U.vm) qK, EVC.blind g mk a qE⟩, fun U hU hW => ⟨rfl, hU, va_K.moved hW.alike hK, hE.call hS hFc hU hW⟩⟩ rfl rfl hl.1 rfl (lv_room (Nat.le_of_ble_eq_true rfl)) dX4_scan_49 ⟨(Nat.le_of_ble_eq_true rfl), (Nat.le_of_ble_eq_true rfl)⟩) hS (fun q _ h => hFc q h) hFc (fun r135 u t H locs ht hvm hw136 hB _ _ hS => ?_)
            obtain ⟨hT, hF1⟩ := hB
            rw [ht] at hT hF1
            have m137 := m124.kept (hF1.arr hr_tx skc_16 (by decide))
            have m138 := m125.kept (hF1.arr hr_th skc_153 (by decide))
            have m139 := m126.kept (hF1.arr hr_bg9 skc_154 (by decide))
            have m140 := (hF1.fld hr_o0 skc_152 (k := 0) (by decide) (by decide)).trans m127
            have m141 := (hF1.fld hr_o0 skc_152 (k := 1) (by decide) (by decide)).trans m128
            have hF := hF.more hF1 (by decide)
            try dsimp only at hw136
            obtain ⟨h143, hf144⟩ := hw136
            refine tw_iast (i := z4) (x := r135) hx hb hK hT hG hS hr_th shc_153 rfl (vin_t (a := z4.toInt) rfl (by omega) (by omega)) (gi_of (show r135.toInt = r135.toInt from rfl) (by omega) (by omega)) dX4_scan_52 (fun H locs hT oq m145 oi hS => ?_)
            have hF := hF.ast hr_th skc_153 oq (by decide)
            have m146 := m137.kept (oq _ (gne hr_tx hr_th (by decide)))
            have m147 := m138.put m145 oi
            have m148 := m139.kept (oq _ (gne hr_bg9 hr_th (by decide)))
            have m149 := (el_kept (oq _ (gne hr_o0 hr_th (by decide)))).trans m140
            have m150 := (el_kept (oq _ (gne hr_o0 hr_th (by decide)))).trans m141
            refine lv_aload_n hx hb dX4_scan_53 rfl (lv_at hl 3 rfl) ?_
            refine tw_getM (v := .ref bg9) hx hb hts bF2_X4 hown hK hT hr_o0 shc_152 rfl 1 (by decide) (ht_at2 hts 1 rfl) (fun _ h9 => h9) m150 dX4_scan_54 ?_
            refine lv_iload_n hx hb dX4_scan_57 rfl (lv_at hl 2 rfl) ?_
            refine lv_iload hx hb dX4_scan_58 (lv_at hl 1 rfl) ?_
            refine tw_iast (i := z4) (x := (nI i1)) hx hb hK hT hG hS hr_bg9 shc_154 rfl (vin_t (a := z4.toInt) rfl (by omega) (by omega)) (gi_all _) dX4_scan_60 (fun H locs hT oq m152 oi hS => ?_)
            have hF := hF.ast hr_bg9 skc_154 oq (by decide)
            have m153 := m146.kept (oq _ (gne hr_tx hr_bg9 (by decide)))
            have m154 := m147.kept (oq _ (gne hr_th hr_bg9 (by decide)))
            have m155 := m148.put m152 oi
            have m156 := (el_kept (oq _ (gne hr_o0 hr_bg9 (by decide)))).trans m149
            have m157 := (el_kept (oq _ (gne hr_o0 hr_bg9 (by decide)))).trans m150
            obtain ⟨x160, ex160⟩ : ∃ y : Int32, y = z4 + 1 := ⟨_, rfl⟩
            have t161 : x160.toInt = z4.toInt + 1 := ti_add ex160 rfl (by decide) (by omega) (by omega)
            refine lv_iinc (v := x160) (lv' := [(3, .int x160), (4, .int r122), (5, .int (nI i1)), (0, .ref o0), (1, .ref tx), (2, .int le)]) hx hb dX4_scan_61 hl (k := 2) rfl (by first | (rw [ex160]; done) | (rw [ex160]; rfl)) (by decide) rfl (fun ls hl => ?_)
            refine lv_iinc (v := nI (i1 + 1)) (lv' := [(5, .int (nI (i1 + 1))), (3, .int x160), (4, .int r122), (0, .ref o0), (1, .ref tx), (2, .int le)]) hx hb dX4_scan_64 hl (k := 2) rfl (nI_add i1 1) (by decide) rfl (fun ls hl => ?_)
            refine lv_goto (tgt := 8) hx hb dX4_scan_67 (by decide) ?_
            exact ih80 (i1 + 1) (by omega) (by omega) r122 x160 (cu V7 z4.toNatClampNeg r135) (cu V9 z4.toNatClampNeg (nI i1)) ⟨(by have q8 := ti_all r122; omega), (by have q9 := (show x160.toInt = x160.toInt from rfl); (try have q8 := ti_all x160); omega), (by have := tn_of (show x160.toInt = x160.toInt from rfl) (by omega); have := tn_of (show r122.toInt = r122.toInt from rfl) (by omega); have := tn_of (show z4.toInt = z4.toInt from rfl) (by omega); have := tn_of (show z2.toInt = z2.toInt from rfl) (by omega); have n9 : x160.toNatClampNeg = z4.toNatClampNeg + 1 := (by omega); have i9 : (nI i1).toNatClampNeg = i1 := tn_nI (by omega); have e9 := hf133; have k9 := hf144; rw [i9] at e9 k9; have b9 := te_b (t := (tc vc)) (n := N) (b := i1) (by omega); have p9 : psn (tc vc) N z4.toNatClampNeg = i1 := (by rw [hj13.1, show max i1 z2.toNatClampNeg = i1 from by omega]; exact skp_i (by omega) (by omega)); rw [n9]; refine ⟨?_, ⟨by omega, by omega⟩, fun m h9 => ?_⟩; (show xn (tc vc) N (psn (tc vc) N z4.toNatClampNeg) = _; rw [p9, show max (i1 + 1) r122.toNatClampNeg = r122.toNatClampNeg from by omega, e9]; rfl); by_cases q9 : m = z4.toNatClampNeg; (rw [cu_s q9, cu_s q9, q9, p9]; exact ⟨k9, nI_toInt (by omega)⟩); rw [cu_o q9, cu_o q9]; exact hj13.2.2 m (by omega)), (by have := (show x160.toInt = x160.toInt from rfl); omega)⟩ _ _ hT hF hS m153 m154 m155 m156 m157 ls (lv_sub hl [0, 2, 1, 3, 4, 5] rfl)
  exact key80 (400 - 0) 0 (by omega) (Nat.le_refl _) 0 0 vT vB ⟨(rg_t (a := 0) (by decide) (by first | decide | omega) (by first | decide | omega)), (by have q9 := (show (0 : Int32).toInt = 0 from (by decide)); (try have q8 := ti_all (0 : Int32)); omega), (by have z0 : (0 : Int32).toNatClampNeg = 0 := (by decide); rw [z0]; exact ⟨rfl, by omega, fun m h9 => absurd h9 (Nat.not_lt_zero m)⟩), (by have := (show (0 : Int32).toInt = 0 from (by decide)); omega)⟩ _ _ hT hF hS hc_vc hc_vT hc_vB hm_th hm_bg9 ls (lv_sub hl [0, 1, 2, 3, 4, 5] rfl)
def w_c_take : List Cond := .code yX4_take cX4_take 2 (some .boolean) :: (HAppend.hAppend (α := List Cond) (β := List Cond) (γ := List Cond) [.fieldLink RX4 11 "SeaLand$Law" "things" "[I", .fieldLink RX4 56 "SeaLand$Law" "at" "I"] bs2)
set_option maxHeartbeats 4000000 in
set_option maxRecDepth 100000 in
theorem c_take (l : Launch) (dC : Nat → ClassId) (dI : Nat → Nat → Nat) (kA : Nat → ClassId) (adK adV : Nat → Nat) (G : gT) (H0 : Heap) (nC nS : Int) (o0 : Nat) (tg : Int32) (th : Nat) (a0 : Int32) (vT : Nat → Int32) (tv ix_tv : Int32) (tn : Int32) (K : Nat → Int) (X pS : Nat → Nat) (hT : gH (dC, dI) kA (SHc nC nS) G H0) (hr_o0 : G o0 = some 152) (hm_th : el H0 o0 (dI 7 0) = some (.ref th)) (hr_th : G th = some 153) (hm_a0 : el H0 o0 (dI 7 13) = some (.int a0)) (hq0 : 0 ≤ tn.toInt ∧ tn.toInt ≤ 400) (hq1 : 0 ≤ a0.toInt ∧ a0.toInt ≤ 400) (hat : a0.toInt ≤ tn.toInt) (htg : tg.toInt ≠ 21) (hKK : ∀ m : Nat, m ≤ tn.toNatClampNeg → (vT m).toInt = K (pS m)) (hXX : ∀ m : Nat, m < tn.toNatClampNeg → pS (m + 1) = X (pS m)) (hc_vT : ct H0 th 401 vT) (hx_tv : ix_tv.toInt = tn.toInt) (hm_tv : el H0 th ix_tv.toNatClampNeg = some (.int tv)) (hv_tv : 21 ≤ tv.toInt ∧ tv.toInt ≤ 21) (hgC : 0 ≤ nC ∧ nC ≤ 40) (hgS : 0 ≤ nS ∧ nS ≤ 60) : Met l yX4_take w_c_take ({ frames := 0, cells := 0, slots := 0, locals := 0 }) (va_Pc [.ref o0, .int tg] (fun U => U.heap = H0 ∧ va_K (dC, dI) vwCl (tyl kA) U ∧ EVC adK adV (gA G H0.size) U U.heap)) (va_Qi (fun (r : Int32) (u : Int32) => (0 ≤ u.toInt ∧ u.toInt ≤ 400) ∧ (0 ≤ r.toInt ∧ r.toInt ≤ 1) ∧ (a0.toInt ≤ u.toInt ∧ u.toInt ≤ tn.toInt) ∧ (tR K X tg.toInt (pS a0.toNatClampNeg) r.toInt (pS u.toNatClampNeg)) ∧ ((r.toInt = 1 ∧ u.toInt = a0.toInt + 1) ∨ (r.toInt = 0 ∧ u.toInt = a0.toInt))) (fun (a1 : Int32) (t : State) => gH (dC, dI) kA (SHc nC nS) G t.heap ∧ gF (dC, dI) SKc G ([(152, 13)] : List (Nat × Nat)) H0 t.heap ∧ el t.heap o0 (dI 7 13) = some (.int a1)) (gA G H0.size)) 0 0 (gA G H0.size) := by
  refine Met.ofW (cc := cX4_take) (maxL := 2) (ret := (some .boolean)) (by decide) rfl ?_
  intro p e s m args below meth c s₁ B hml hv
  obtain ⟨rfl, hH0, hK, hE⟩ := hv
  have hx := B.exec
  have hb := B.bytes
  have hr := B.returns
  have hts := atoms_spec (ws := w_c_take) B.pre
  have hown : s.vm.findClass RX4 = some m.cls := findClass_of_methodNamed B.named
  have hlocks := B.notSynchronized
  subst hH0
  generalize hAe : gA G s.heap.size = A at hE ⊢
  have hA : ∀ q : Nat, s.heap.size ≤ q → A q := fun q h => by rw [← hAe]; exact Or.inr h
  have hG := gA_of hAe
  have hS : va_S A s.heap s.heap [] := va_S.rf
  have hF : gF (dC, dI) SKc G ([(152, 13)] : List (Nat × Nat)) s.heap s.heap := gF.rf
  have hl := lv_entry ([.ref o0, .int tg]) (n := 2) (Nat.le_of_ble_eq_true rfl)
  rw [lg_entry_eq]
  generalize (lg_sl ([.ref o0, .int tg]) ++ List.replicate (2 - (lg_sl ([.ref o0, .int tg])).length) Slot.unset).toArray = ls at hl ⊢
  have hl : lv_has ls 2 [(0, .ref o0), (1, .int tg)] := hl
  refine lv_aload_n hx hb dX4_take_0 rfl (lv_at hl 0 rfl) ?_
  refine tw_getM (v := .ref th) hx hb hts bF2_X4 hown hK hT hr_o0 shc_152 rfl 0 (by decide) (ht_at2 hts 0 rfl) (fun _ h9 => h9) hm_th dX4_take_1 ?_
  refine lv_aload_n hx hb dX4_take_4 rfl (lv_at hl 0 rfl) ?_
  refine tw_getM (v := .int a0) hx hb hts bF2_X4 hown hK hT hr_o0 shc_152 rfl 13 (by decide) (ht_at2 hts 1 rfl) (fun _ h9 => h9) hm_a0 dX4_take_5 ?_
  refine tw_iald (i := a0) hx hb hK hT hr_th shc_153 rfl (vin_t (a := a0.toInt) rfl (by omega) (by omega)) dX4_take_8 (fun v9 m1 h9 => ?_)
  obtain ⟨x2, rfl, gx2, kx2⟩ := h9
  have cx2 := hc_vT.at m1 (by have q9 := tn_of (show a0.toInt = a0.toInt from rfl) (by omega); omega)
  have t3 : a0.toInt = ix_tv.toInt → x2.toInt = tv.toInt := fun h8 => congrArg Int32.toInt (el_same m1 hm_tv h8)
  have t4 : x2.toInt = K (pS a0.toNatClampNeg) := (congrArg Int32.toInt cx2).trans (hKK _ (by have := tn_of (show a0.toInt = a0.toInt from rfl) (by omega); have := tn_of (show tn.toInt = tn.toInt from rfl) (by omega); omega))
  refine lv_iload_n hx hb dX4_take_9 rfl (lv_at hl 1 rfl) ?_
  have t5 : -2147483648 ≤ x2.toInt ∧ x2.toInt ≤ 2147483647 := ti_all x2
  have t6 : -2147483648 ≤ tg.toInt ∧ tg.toInt ≤ 2147483647 := ti_all tg
  refine lv_icmp_eq (tgt := 15) hx hb dX4_take_10 (by decide) (fun c7 => ?_) (fun c7 => ?_)
  · have t8 : x2.toInt = tg.toInt := ti_eq c7 rfl rfl
    refine lv_aload_n hx hb dX4_take_15 rfl (lv_at hl 0 rfl) ?_
    refine lv_dup hx hb dX4_take_16 rfl ?_
    refine tw_getM (v := .int a0) hx hb hts bF2_X4 hown hK hT hr_o0 shc_152 rfl 13 (by decide) (ht_at2 hts 1 rfl) (fun _ h9 => h9) hm_a0 dX4_take_17 ?_
    refine lv_iconst (v := 1) hx hb dX4_take_20 (by decide) ?_
    refine lv_iadd hx hb dX4_take_21 ?_
    refine lv_topi (fun x9 ex9 => ?_)
    have t10 : x9.toInt = a0.toInt + 1 := ti_add ex9 rfl (by decide) (by omega) (by omega)
    refine tw_put (v := .int x9) (ty := .int) hx hb hts bF2_X4 tyX4 tyX4_ok nmX4 hown hK hT hG hS hr_o0 shc_152 rfl 13 (by decide) (ht_at2 hts 1 rfl) (fun _ h9 => h9) rfl (by decide +kernel) rfl rfl (gl_at rfl (gi_of (show x9.toInt = x9.toInt from rfl) (by omega) (by omega))) dX4_take_22 (fun H locs hT oq m11 oj hS => ?_)
    have hF := hF.put hr_o0 skc_152 oq oj (by decide)
    refine lv_iconst (v := 1) hx hb dX4_take_25 (by decide) ?_
    exact W.zret (v := 1) hx hb hr (by decide) (fun t ht hW => ⟨⟨1, x9, rfl, (by exact ⟨(by have q8 := ti_all x9; omega), (rg_t (a := 1) (by decide) (by first | decide | omega) (by first | decide | omega)), (by omega), (Or.inl ⟨by omega, by decide, (show pS x9.toNatClampNeg = X (pS a0.toNatClampNeg) from by rw [show x9.toNatClampNeg = a0.toNatClampNeg + 1 from by have := tn_of (show a0.toInt = a0.toInt from rfl) (by omega); have := tn_of (show x9.toInt = x9.toInt from rfl) (by omega); omega]; exact hXX _ (by have := tn_of (show a0.toInt = a0.toInt from rfl) (by omega); have := tn_of (show tn.toInt = tn.toInt from rfl) (by omega); omega))⟩), (by have q0 : (0 : Int32).toInt = 0 := (by decide); have q1 : (1 : Int32).toInt = 1 := (by decide); omega)⟩), by (try dsimp only); rw [ht]; exact ⟨hT, hF, m11⟩⟩, hS.F ht⟩) hS.2.2 dX4_take_26
  · have t16 : x2.toInt ≠ tg.toInt := ti_ne c7 rfl rfl
    refine lv_iconst (v := 0) hx hb dX4_take_13 (by decide) ?_
    exact W.zret (v := 0) hx hb hr (by decide) (fun t ht hW => ⟨⟨0, a0, rfl, (by exact ⟨(by have q8 := ti_all a0; omega), (rg_t (a := 0) (by decide) (by first | decide | omega) (by first | decide | omega)), (by omega), (Or.inr ⟨by omega, by decide, rfl⟩), (by have q0 : (0 : Int32).toInt = 0 := (by decide); have q1 : (1 : Int32).toInt = 1 := (by decide); omega)⟩), by (try dsimp only); rw [ht]; exact ⟨hT, hF, hm_a0⟩⟩, hS.F ht⟩) hS.2.2 dX4_take_14
def w_c_takeNumber_firsts : List Cond := .code yX4_takeNumber cX4_takeNumber 4 (some .boolean) :: (HAppend.hAppend (α := List Cond) (β := List Cond) (γ := List Cond) [.fieldLink RX4 11 "SeaLand$Law" "things" "[I", .fieldLink RX4 56 "SeaLand$Law" "at" "I", .fieldLink RX4 60 "SeaLand$Law" "lines" "I"] bs2)
set_option maxHeartbeats 4000000 in
set_option maxRecDepth 100000 in
theorem c_takeNumber_firsts (l : Launch) (dC : Nat → ClassId) (dI : Nat → Nat → Nat) (kA : Nat → ClassId) (adK adV : Nat → Nat) (G : gT) (H0 : Heap) (nC nS : Int) (o0 : Nat) (mo : Int32) (ito : Nat) (th : Nat) (a0 : Int32) (ln : Int32) (vT : Nat → Int32) (tv ix_tv : Int32) (tn : Int32) (K : Nat → Int) (X pS : Nat → Nat) (hT : gH (dC, dI) kA (SHc nC nS) G H0) (hr_ito : G ito = some 156) (hr_o0 : G o0 = some 152) (hm_th : el H0 o0 (dI 7 0) = some (.ref th)) (hr_th : G th = some 153) (hm_a0 : el H0 o0 (dI 7 13) = some (.int a0)) (hm_ln : el H0 o0 (dI 7 11) = some (.int ln)) (hq0 : 0 ≤ tn.toInt ∧ tn.toInt ≤ 400) (hq1 : 0 ≤ a0.toInt ∧ a0.toInt ≤ 400) (hat : a0.toInt ≤ tn.toInt) (hq3 : 0 ≤ ln.toInt ∧ ln.toInt ≤ 19) (hq4 : 0 ≤ mo.toInt ∧ mo.toInt ≤ 99999) (hKK : ∀ m : Nat, m ≤ tn.toNatClampNeg → (vT m).toInt = K (pS m)) (hXX : ∀ m : Nat, m < tn.toNatClampNeg → pS (m + 1) = X (pS m)) (hc_vT : ct H0 th 401 vT) (hx_tv : ix_tv.toInt = tn.toInt) (hm_tv : el H0 th ix_tv.toNatClampNeg = some (.int tv)) (hv_tv : 21 ≤ tv.toInt ∧ tv.toInt ≤ 21) (hgC : 0 ≤ nC ∧ nC ≤ 40) (hgS : 0 ≤ nS ∧ nS ≤ 60) : Met l yX4_takeNumber w_c_takeNumber_firsts ({ frames := 0, cells := 0, slots := 0, locals := 0 }) (va_Pc [.ref o0, .int mo, .ref ito] (fun U => U.heap = H0 ∧ va_K (dC, dI) vwCl (tyl kA) U ∧ EVC adK adV (gA G H0.size) U U.heap)) (va_Qi (fun (r : Int32) (u : Int32) => (0 ≤ u.toInt ∧ u.toInt ≤ 400) ∧ (0 ≤ r.toInt ∧ r.toInt ≤ 1) ∧ (a0.toInt ≤ u.toInt ∧ u.toInt ≤ tn.toInt) ∧ (nR K X mo.toInt (pS a0.toNatClampNeg) r.toInt (pS u.toNatClampNeg))) (fun (a1 : Int32) (t : State) => gH (dC, dI) kA (SHc nC nS) G t.heap ∧ gF (dC, dI) SKc G ([(152, 13), (156, 0)] : List (Nat × Nat)) H0 t.heap ∧ el t.heap o0 (dI 7 13) = some (.int a1)) (gA G H0.size)) 0 0 (gA G H0.size) := by
  refine Met.ofW (cc := cX4_takeNumber) (maxL := 4) (ret := (some .boolean)) (by decide) rfl ?_
  intro p e s m args below meth c s₁ B hml hv
  obtain ⟨rfl, hH0, hK, hE⟩ := hv
  have hx := B.exec
  have hb := B.bytes
  have hr := B.returns
  have hts := atoms_spec (ws := w_c_takeNumber_firsts) B.pre
  have hown : s.vm.findClass RX4 = some m.cls := findClass_of_methodNamed B.named
  have hlocks := B.notSynchronized
  subst hH0
  generalize hAe : gA G s.heap.size = A at hE ⊢
  have hA : ∀ q : Nat, s.heap.size ≤ q → A q := fun q h => by rw [← hAe]; exact Or.inr h
  have hG := gA_of hAe
  have hS : va_S A s.heap s.heap [] := va_S.rf
  have hF : gF (dC, dI) SKc G ([(152, 13), (156, 0)] : List (Nat × Nat)) s.heap s.heap := gF.rf
  have hl := lv_entry ([.ref o0, .int mo, .ref ito]) (n := 4) (Nat.le_of_ble_eq_true rfl)
  rw [lg_entry_eq]
  generalize (lg_sl ([.ref o0, .int mo, .ref ito]) ++ List.replicate (4 - (lg_sl ([.ref o0, .int mo, .ref ito])).length) Slot.unset).toArray = ls at hl ⊢
  have hl : lv_has ls 4 [(0, .ref o0), (1, .int mo), (2, .ref ito)] := hl
  refine lv_aload_n hx hb dX4_takeNumber_0 rfl (lv_at hl 0 rfl) ?_
  refine tw_getM (v := .ref th) hx hb hts bF2_X4 hown hK hT hr_o0 shc_152 rfl 0 (by decide) (ht_at2 hts 0 rfl) (fun _ h9 => h9) hm_th dX4_takeNumber_1 ?_
  refine lv_aload_n hx hb dX4_takeNumber_4 rfl (lv_at hl 0 rfl) ?_
  refine tw_getM (v := .int a0) hx hb hts bF2_X4 hown hK hT hr_o0 shc_152 rfl 13 (by decide) (ht_at2 hts 1 rfl) (fun _ h9 => h9) hm_a0 dX4_takeNumber_5 ?_
  refine tw_iald (i := a0) hx hb hK hT hr_th shc_153 rfl (vin_t (a := a0.toInt) rfl (by omega) (by omega)) dX4_takeNumber_8 (fun v9 m1 h9 => ?_)
  obtain ⟨x2, rfl, gx2, kx2⟩ := h9
  have cx2 := hc_vT.at m1 (by have q9 := tn_of (show a0.toInt = a0.toInt from rfl) (by omega); omega)
  have t3 : a0.toInt = ix_tv.toInt → x2.toInt = tv.toInt := fun h8 => congrArg Int32.toInt (el_same m1 hm_tv h8)
  have t4 : x2.toInt = K (pS a0.toNatClampNeg) := (congrArg Int32.toInt cx2).trans (hKK _ (by have := tn_of (show a0.toInt = a0.toInt from rfl) (by omega); have := tn_of (show tn.toInt = tn.toInt from rfl) (by omega); omega))
  refine lv_bipush (v := 40) hx hb dX4_takeNumber_9 (by decide) ?_
  refine lv_isub hx hb dX4_takeNumber_11 ?_
  refine lv_topi (fun x5 ex5 => ?_)
  have t6 : -2147483648 ≤ x2.toInt ∧ x2.toInt ≤ 2147483647 := ti_all x2
  have t7 : x5.toInt = x2.toInt - 40 := ti_sub ex5 rfl (by decide) (by omega) (by omega)
  refine lv_istore_n (lv' := [(3, .int x5), (0, .ref o0), (1, .int mo), (2, .ref ito)]) hx hb dX4_takeNumber_12 rfl hl (by decide) rfl (fun ls hl => ?_)
  refine lv_iload_n hx hb dX4_takeNumber_13 rfl (lv_at hl 0 rfl) ?_
  refine lv_if_lt (tgt := 22) hx hb dX4_takeNumber_14 (by decide) (fun c8 => ?_) (fun c8 => ?_)
  · have t9 : x5.toInt < 0 := ti_lt c8 rfl (by decide)
    refine lv_iconst (v := 0) hx hb dX4_takeNumber_22 (by decide) ?_
    exact W.zret (v := 0) hx hb hr (by decide) (fun t ht hW => ⟨⟨0, a0, rfl, (by exact ⟨(by have q8 := ti_all a0; omega), (rg_t (a := 0) (by decide) (by first | decide | omega) (by first | decide | omega)), (by omega), (Or.inr ⟨by omega, by decide, rfl⟩)⟩), by (try dsimp only); rw [ht]; exact ⟨hT, hF, hm_a0⟩⟩, hS.F ht⟩) hS.2.2 dX4_takeNumber_23
  · have t10 : 0 ≤ x5.toInt := ti_nlt c8 rfl (by decide)
    refine lv_iload_n hx hb dX4_takeNumber_17 rfl (lv_at hl 0 rfl) ?_
    refine lv_iload_n hx hb dX4_takeNumber_18 rfl (lv_at hl 2 rfl) ?_
    refine lv_icmp_le (tgt := 24) hx hb dX4_takeNumber_19 (by decide) (fun c11 => ?_) (fun c11 => ?_)
    · have t12 : x5.toInt ≤ mo.toInt := ti_le c11 rfl rfl
      refine lv_aload_n hx hb dX4_takeNumber_24 rfl (lv_at hl 3 rfl) ?_
      refine lv_aload_n hx hb dX4_takeNumber_25 rfl (lv_at hl 1 rfl) ?_
      refine tw_getM (v := .int ln) hx hb hts bF2_X4 hown hK hT hr_o0 shc_152 rfl 11 (by decide) (ht_at2 hts 2 rfl) (fun _ h9 => h9) hm_ln dX4_takeNumber_26 ?_
      refine lv_iload_n hx hb dX4_takeNumber_29 rfl (lv_at hl 0 rfl) ?_
      refine tw_iast (i := ln) (x := x5) hx hb hK hT hG hS hr_ito shc_156 rfl (vin_t (a := ln.toInt) rfl (by omega) (by omega)) (gi_of (show x5.toInt = x5.toInt from rfl) (by omega) (by omega)) dX4_takeNumber_30 (fun H locs hT oq m13 oi hS => ?_)
      have hF := hF.ast hr_ito skc_156 oq (by decide)
      have m15 := (el_kept (oq _ (gne hr_o0 hr_ito (by decide)))).trans hm_a0
      refine lv_aload_n hx hb dX4_takeNumber_31 rfl (lv_at hl 1 rfl) ?_
      refine lv_dup hx hb dX4_takeNumber_32 rfl ?_
      refine tw_getM (v := .int a0) hx hb hts bF2_X4 hown hK hT hr_o0 shc_152 rfl 13 (by decide) (ht_at2 hts 1 rfl) (fun _ h9 => h9) m15 dX4_takeNumber_33 ?_
      refine lv_iconst (v := 1) hx hb dX4_takeNumber_36 (by decide) ?_
      refine lv_iadd hx hb dX4_takeNumber_37 ?_
      refine lv_topi (fun x20 ex20 => ?_)
      have t21 : x20.toInt = a0.toInt + 1 := ti_add ex20 rfl (by decide) (by omega) (by omega)
      refine tw_put (v := .int x20) (ty := .int) hx hb hts bF2_X4 tyX4 tyX4_ok nmX4 hown hK hT hG hS hr_o0 shc_152 rfl 13 (by decide) (ht_at2 hts 1 rfl) (fun _ h9 => h9) rfl (by decide +kernel) rfl rfl (gl_at rfl (gi_of (show x20.toInt = x20.toInt from rfl) (by omega) (by omega))) dX4_takeNumber_38 (fun H locs hT oq m22 oj hS => ?_)
      have hF := hF.put hr_o0 skc_152 oq oj (by decide)
      refine lv_iconst (v := 1) hx hb dX4_takeNumber_41 (by decide) ?_
      exact W.zret (v := 1) hx hb hr (by decide) (fun t ht hW => ⟨⟨1, x20, rfl, (by exact ⟨(by have q8 := ti_all x20; omega), (rg_t (a := 1) (by decide) (by first | decide | omega) (by first | decide | omega)), (by omega), (Or.inl ⟨by omega, by decide, (show pS x20.toNatClampNeg = X (pS a0.toNatClampNeg) from by rw [show x20.toNatClampNeg = a0.toNatClampNeg + 1 from by have := tn_of (show a0.toInt = a0.toInt from rfl) (by omega); have := tn_of (show x20.toInt = x20.toInt from rfl) (by omega); omega]; exact hXX _ (by have := tn_of (show a0.toInt = a0.toInt from rfl) (by omega); have := tn_of (show tn.toInt = tn.toInt from rfl) (by omega); omega))⟩)⟩), by (try dsimp only); rw [ht]; exact ⟨hT, hF, m22⟩⟩, hS.F ht⟩) hS.2.2 dX4_takeNumber_42
    · have t29 : mo.toInt < x5.toInt := ti_nle c11 rfl rfl
      refine lv_iconst (v := 0) hx hb dX4_takeNumber_22 (by decide) ?_
      exact W.zret (v := 0) hx hb hr (by decide) (fun t ht hW => ⟨⟨0, a0, rfl, (by exact ⟨(by have q8 := ti_all a0; omega), (rg_t (a := 0) (by decide) (by first | decide | omega) (by first | decide | omega)), (by omega), (Or.inr ⟨by omega, by decide, rfl⟩)⟩), by (try dsimp only); rw [ht]; exact ⟨hT, hF, hm_a0⟩⟩, hS.F ht⟩) hS.2.2 dX4_takeNumber_23
def w_c_takeNumber_seconds : List Cond := .code yX4_takeNumber cX4_takeNumber 4 (some .boolean) :: (HAppend.hAppend (α := List Cond) (β := List Cond) (γ := List Cond) [.fieldLink RX4 11 "SeaLand$Law" "things" "[I", .fieldLink RX4 56 "SeaLand$Law" "at" "I", .fieldLink RX4 60 "SeaLand$Law" "lines" "I"] bs2)
set_option maxHeartbeats 4000000 in
set_option maxRecDepth 100000 in
theorem c_takeNumber_seconds (l : Launch) (dC : Nat → ClassId) (dI : Nat → Nat → Nat) (kA : Nat → ClassId) (adK adV : Nat → Nat) (G : gT) (H0 : Heap) (nC nS : Int) (o0 : Nat) (mo : Int32) (ito : Nat) (th : Nat) (a0 : Int32) (ln : Int32) (vT : Nat → Int32) (tv ix_tv : Int32) (tn : Int32) (K : Nat → Int) (X pS : Nat → Nat) (hT : gH (dC, dI) kA (SHc nC nS) G H0) (hr_ito : G ito = some 157) (hr_o0 : G o0 = some 152) (hm_th : el H0 o0 (dI 7 0) = some (.ref th)) (hr_th : G th = some 153) (hm_a0 : el H0 o0 (dI 7 13) = some (.int a0)) (hm_ln : el H0 o0 (dI 7 11) = some (.int ln)) (hq0 : 0 ≤ tn.toInt ∧ tn.toInt ≤ 400) (hq1 : 0 ≤ a0.toInt ∧ a0.toInt ≤ 400) (hat : a0.toInt ≤ tn.toInt) (hq3 : 0 ≤ ln.toInt ∧ ln.toInt ≤ 19) (hKK : ∀ m : Nat, m ≤ tn.toNatClampNeg → (vT m).toInt = K (pS m)) (hXX : ∀ m : Nat, m < tn.toNatClampNeg → pS (m + 1) = X (pS m)) (hc_vT : ct H0 th 401 vT) (hx_tv : ix_tv.toInt = tn.toInt) (hm_tv : el H0 th ix_tv.toNatClampNeg = some (.int tv)) (hv_tv : 21 ≤ tv.toInt ∧ tv.toInt ≤ 21) (hgC : 0 ≤ nC ∧ nC ≤ 40) (hgS : 0 ≤ nS ∧ nS ≤ 60) : Met l yX4_takeNumber w_c_takeNumber_seconds ({ frames := 0, cells := 0, slots := 0, locals := 0 }) (va_Pc [.ref o0, .int mo, .ref ito] (fun U => U.heap = H0 ∧ va_K (dC, dI) vwCl (tyl kA) U ∧ EVC adK adV (gA G H0.size) U U.heap)) (va_Qi (fun (r : Int32) (u : Int32) => (0 ≤ u.toInt ∧ u.toInt ≤ 400) ∧ (0 ≤ r.toInt ∧ r.toInt ≤ 1) ∧ (a0.toInt ≤ u.toInt ∧ u.toInt ≤ tn.toInt) ∧ (nR K X mo.toInt (pS a0.toNatClampNeg) r.toInt (pS u.toNatClampNeg))) (fun (a1 : Int32) (t : State) => gH (dC, dI) kA (SHc nC nS) G t.heap ∧ gF (dC, dI) SKc G ([(152, 13), (157, 0)] : List (Nat × Nat)) H0 t.heap ∧ el t.heap o0 (dI 7 13) = some (.int a1)) (gA G H0.size)) 0 0 (gA G H0.size) := by
  refine Met.ofW (cc := cX4_takeNumber) (maxL := 4) (ret := (some .boolean)) (by decide) rfl ?_
  intro p e s m args below meth c s₁ B hml hv
  obtain ⟨rfl, hH0, hK, hE⟩ := hv
  have hx := B.exec
  have hb := B.bytes
  have hr := B.returns
  have hts := atoms_spec (ws := w_c_takeNumber_seconds) B.pre
  have hown : s.vm.findClass RX4 = some m.cls := findClass_of_methodNamed B.named
  have hlocks := B.notSynchronized
  subst hH0
  generalize hAe : gA G s.heap.size = A at hE ⊢
  have hA : ∀ q : Nat, s.heap.size ≤ q → A q := fun q h => by rw [← hAe]; exact Or.inr h
  have hG := gA_of hAe
  have hS : va_S A s.heap s.heap [] := va_S.rf
  have hF : gF (dC, dI) SKc G ([(152, 13), (157, 0)] : List (Nat × Nat)) s.heap s.heap := gF.rf
  have hl := lv_entry ([.ref o0, .int mo, .ref ito]) (n := 4) (Nat.le_of_ble_eq_true rfl)
  rw [lg_entry_eq]
  generalize (lg_sl ([.ref o0, .int mo, .ref ito]) ++ List.replicate (4 - (lg_sl ([.ref o0, .int mo, .ref ito])).length) Slot.unset).toArray = ls at hl ⊢
  have hl : lv_has ls 4 [(0, .ref o0), (1, .int mo), (2, .ref ito)] := hl
  refine lv_aload_n hx hb dX4_takeNumber_0 rfl (lv_at hl 0 rfl) ?_
  refine tw_getM (v := .ref th) hx hb hts bF2_X4 hown hK hT hr_o0 shc_152 rfl 0 (by decide) (ht_at2 hts 0 rfl) (fun _ h9 => h9) hm_th dX4_takeNumber_1 ?_
  refine lv_aload_n hx hb dX4_takeNumber_4 rfl (lv_at hl 0 rfl) ?_
  refine tw_getM (v := .int a0) hx hb hts bF2_X4 hown hK hT hr_o0 shc_152 rfl 13 (by decide) (ht_at2 hts 1 rfl) (fun _ h9 => h9) hm_a0 dX4_takeNumber_5 ?_
  refine tw_iald (i := a0) hx hb hK hT hr_th shc_153 rfl (vin_t (a := a0.toInt) rfl (by omega) (by omega)) dX4_takeNumber_8 (fun v9 m1 h9 => ?_)
  obtain ⟨x2, rfl, gx2, kx2⟩ := h9
  have cx2 := hc_vT.at m1 (by have q9 := tn_of (show a0.toInt = a0.toInt from rfl) (by omega); omega)
  have t3 : a0.toInt = ix_tv.toInt → x2.toInt = tv.toInt := fun h8 => congrArg Int32.toInt (el_same m1 hm_tv h8)
  have t4 : x2.toInt = K (pS a0.toNatClampNeg) := (congrArg Int32.toInt cx2).trans (hKK _ (by have := tn_of (show a0.toInt = a0.toInt from rfl) (by omega); have := tn_of (show tn.toInt = tn.toInt from rfl) (by omega); omega))
  refine lv_bipush (v := 40) hx hb dX4_takeNumber_9 (by decide) ?_
  refine lv_isub hx hb dX4_takeNumber_11 ?_
  refine lv_topi (fun x5 ex5 => ?_)
  have t6 : -2147483648 ≤ x2.toInt ∧ x2.toInt ≤ 2147483647 := ti_all x2
  have t7 : x5.toInt = x2.toInt - 40 := ti_sub ex5 rfl (by decide) (by omega) (by omega)
  refine lv_istore_n (lv' := [(3, .int x5), (0, .ref o0), (1, .int mo), (2, .ref ito)]) hx hb dX4_takeNumber_12 rfl hl (by decide) rfl (fun ls hl => ?_)
  refine lv_iload_n hx hb dX4_takeNumber_13 rfl (lv_at hl 0 rfl) ?_
  refine lv_if_lt (tgt := 22) hx hb dX4_takeNumber_14 (by decide) (fun c8 => ?_) (fun c8 => ?_)
  · have t9 : x5.toInt < 0 := ti_lt c8 rfl (by decide)
    refine lv_iconst (v := 0) hx hb dX4_takeNumber_22 (by decide) ?_
    exact W.zret (v := 0) hx hb hr (by decide) (fun t ht hW => ⟨⟨0, a0, rfl, (by exact ⟨(by have q8 := ti_all a0; omega), (rg_t (a := 0) (by decide) (by first | decide | omega) (by first | decide | omega)), (by omega), (Or.inr ⟨by omega, by decide, rfl⟩)⟩), by (try dsimp only); rw [ht]; exact ⟨hT, hF, hm_a0⟩⟩, hS.F ht⟩) hS.2.2 dX4_takeNumber_23
  · have t10 : 0 ≤ x5.toInt := ti_nlt c8 rfl (by decide)
    refine lv_iload_n hx hb dX4_takeNumber_17 rfl (lv_at hl 0 rfl) ?_
    refine lv_iload_n hx hb dX4_takeNumber_18 rfl (lv_at hl 2 rfl) ?_
    have t11 : -2147483648 ≤ mo.toInt ∧ mo.toInt ≤ 2147483647 := ti_all mo
    refine lv_icmp_le (tgt := 24) hx hb dX4_takeNumber_19 (by decide) (fun c12 => ?_) (fun c12 => ?_)
    · have t13 : x5.toInt ≤ mo.toInt := ti_le c12 rfl rfl
      refine lv_aload_n hx hb dX4_takeNumber_24 rfl (lv_at hl 3 rfl) ?_
      refine lv_aload_n hx hb dX4_takeNumber_25 rfl (lv_at hl 1 rfl) ?_
      refine tw_getM (v := .int ln) hx hb hts bF2_X4 hown hK hT hr_o0 shc_152 rfl 11 (by decide) (ht_at2 hts 2 rfl) (fun _ h9 => h9) hm_ln dX4_takeNumber_26 ?_
      refine lv_iload_n hx hb dX4_takeNumber_29 rfl (lv_at hl 0 rfl) ?_
      refine tw_iast (i := ln) (x := x5) hx hb hK hT hG hS hr_ito shc_157 rfl (vin_t (a := ln.toInt) rfl (by omega) (by omega)) (gi_all _) dX4_takeNumber_30 (fun H locs hT oq m14 oi hS => ?_)
      have hF := hF.ast hr_ito skc_157 oq (by decide)
      have m16 := (el_kept (oq _ (gne hr_o0 hr_ito (by decide)))).trans hm_a0
      refine lv_aload_n hx hb dX4_takeNumber_31 rfl (lv_at hl 1 rfl) ?_
      refine lv_dup hx hb dX4_takeNumber_32 rfl ?_
      refine tw_getM (v := .int a0) hx hb hts bF2_X4 hown hK hT hr_o0 shc_152 rfl 13 (by decide) (ht_at2 hts 1 rfl) (fun _ h9 => h9) m16 dX4_takeNumber_33 ?_
      refine lv_iconst (v := 1) hx hb dX4_takeNumber_36 (by decide) ?_
      refine lv_iadd hx hb dX4_takeNumber_37 ?_
      refine lv_topi (fun x21 ex21 => ?_)
      have t22 : x21.toInt = a0.toInt + 1 := ti_add ex21 rfl (by decide) (by omega) (by omega)
      refine tw_put (v := .int x21) (ty := .int) hx hb hts bF2_X4 tyX4 tyX4_ok nmX4 hown hK hT hG hS hr_o0 shc_152 rfl 13 (by decide) (ht_at2 hts 1 rfl) (fun _ h9 => h9) rfl (by decide +kernel) rfl rfl (gl_at rfl (gi_of (show x21.toInt = x21.toInt from rfl) (by omega) (by omega))) dX4_takeNumber_38 (fun H locs hT oq m23 oj hS => ?_)
      have hF := hF.put hr_o0 skc_152 oq oj (by decide)
      refine lv_iconst (v := 1) hx hb dX4_takeNumber_41 (by decide) ?_
      exact W.zret (v := 1) hx hb hr (by decide) (fun t ht hW => ⟨⟨1, x21, rfl, (by exact ⟨(by have q8 := ti_all x21; omega), (rg_t (a := 1) (by decide) (by first | decide | omega) (by first | decide | omega)), (by omega), (Or.inl ⟨by omega, by decide, (show pS x21.toNatClampNeg = X (pS a0.toNatClampNeg) from by rw [show x21.toNatClampNeg = a0.toNatClampNeg + 1 from by have := tn_of (show a0.toInt = a0.toInt from rfl) (by omega); have := tn_of (show x21.toInt = x21.toInt from rfl) (by omega); omega]; exact hXX _ (by have := tn_of (show a0.toInt = a0.toInt from rfl) (by omega); have := tn_of (show tn.toInt = tn.toInt from rfl) (by omega); omega))⟩)⟩), by (try dsimp only); rw [ht]; exact ⟨hT, hF, m23⟩⟩, hS.F ht⟩) hS.2.2 dX4_takeNumber_42
    · have t30 : mo.toInt < x5.toInt := ti_nle c12 rfl rfl
      refine lv_iconst (v := 0) hx hb dX4_takeNumber_22 (by decide) ?_
      exact W.zret (v := 0) hx hb hr (by decide) (fun t ht hW => ⟨⟨0, a0, rfl, (by exact ⟨(by have q8 := ti_all a0; omega), (rg_t (a := 0) (by decide) (by first | decide | omega) (by first | decide | omega)), (by omega), (Or.inr ⟨by omega, by decide, rfl⟩)⟩), by (try dsimp only); rw [ht]; exact ⟨hT, hF, hm_a0⟩⟩, hS.F ht⟩) hS.2.2 dX4_takeNumber_23
def w_c_takeNumber_froms : List Cond := .code yX4_takeNumber cX4_takeNumber 4 (some .boolean) :: (HAppend.hAppend (α := List Cond) (β := List Cond) (γ := List Cond) [.fieldLink RX4 11 "SeaLand$Law" "things" "[I", .fieldLink RX4 56 "SeaLand$Law" "at" "I", .fieldLink RX4 60 "SeaLand$Law" "lines" "I"] bs2)
set_option maxHeartbeats 4000000 in
set_option maxRecDepth 100000 in
theorem c_takeNumber_froms (l : Launch) (dC : Nat → ClassId) (dI : Nat → Nat → Nat) (kA : Nat → ClassId) (adK adV : Nat → Nat) (G : gT) (H0 : Heap) (nC nS : Int) (o0 : Nat) (mo : Int32) (ito : Nat) (th : Nat) (a0 : Int32) (ln : Int32) (vT : Nat → Int32) (tv ix_tv : Int32) (tn : Int32) (K : Nat → Int) (X pS : Nat → Nat) (hT : gH (dC, dI) kA (SHc nC nS) G H0) (hr_ito : G ito = some 158) (hr_o0 : G o0 = some 152) (hm_th : el H0 o0 (dI 7 0) = some (.ref th)) (hr_th : G th = some 153) (hm_a0 : el H0 o0 (dI 7 13) = some (.int a0)) (hm_ln : el H0 o0 (dI 7 11) = some (.int ln)) (hq0 : 0 ≤ tn.toInt ∧ tn.toInt ≤ 400) (hq1 : 0 ≤ a0.toInt ∧ a0.toInt ≤ 400) (hat : a0.toInt ≤ tn.toInt) (hq3 : 0 ≤ ln.toInt ∧ ln.toInt ≤ 19) (hKK : ∀ m : Nat, m ≤ tn.toNatClampNeg → (vT m).toInt = K (pS m)) (hXX : ∀ m : Nat, m < tn.toNatClampNeg → pS (m + 1) = X (pS m)) (hc_vT : ct H0 th 401 vT) (hx_tv : ix_tv.toInt = tn.toInt) (hm_tv : el H0 th ix_tv.toNatClampNeg = some (.int tv)) (hv_tv : 21 ≤ tv.toInt ∧ tv.toInt ≤ 21) (hgC : 0 ≤ nC ∧ nC ≤ 40) (hgS : 0 ≤ nS ∧ nS ≤ 60) : Met l yX4_takeNumber w_c_takeNumber_froms ({ frames := 0, cells := 0, slots := 0, locals := 0 }) (va_Pc [.ref o0, .int mo, .ref ito] (fun U => U.heap = H0 ∧ va_K (dC, dI) vwCl (tyl kA) U ∧ EVC adK adV (gA G H0.size) U U.heap)) (va_Qi (fun (r : Int32) (u : Int32) => (0 ≤ u.toInt ∧ u.toInt ≤ 400) ∧ (0 ≤ r.toInt ∧ r.toInt ≤ 1) ∧ (a0.toInt ≤ u.toInt ∧ u.toInt ≤ tn.toInt) ∧ (nR K X mo.toInt (pS a0.toNatClampNeg) r.toInt (pS u.toNatClampNeg))) (fun (a1 : Int32) (t : State) => gH (dC, dI) kA (SHc nC nS) G t.heap ∧ gF (dC, dI) SKc G ([(152, 13), (158, 0)] : List (Nat × Nat)) H0 t.heap ∧ el t.heap o0 (dI 7 13) = some (.int a1)) (gA G H0.size)) 0 0 (gA G H0.size) := by
  refine Met.ofW (cc := cX4_takeNumber) (maxL := 4) (ret := (some .boolean)) (by decide) rfl ?_
  intro p e s m args below meth c s₁ B hml hv
  obtain ⟨rfl, hH0, hK, hE⟩ := hv
  have hx := B.exec
  have hb := B.bytes
  have hr := B.returns
  have hts := atoms_spec (ws := w_c_takeNumber_froms) B.pre
  have hown : s.vm.findClass RX4 = some m.cls := findClass_of_methodNamed B.named
  have hlocks := B.notSynchronized
  subst hH0
  generalize hAe : gA G s.heap.size = A at hE ⊢
  have hA : ∀ q : Nat, s.heap.size ≤ q → A q := fun q h => by rw [← hAe]; exact Or.inr h
  have hG := gA_of hAe
  have hS : va_S A s.heap s.heap [] := va_S.rf
  have hF : gF (dC, dI) SKc G ([(152, 13), (158, 0)] : List (Nat × Nat)) s.heap s.heap := gF.rf
  have hl := lv_entry ([.ref o0, .int mo, .ref ito]) (n := 4) (Nat.le_of_ble_eq_true rfl)
  rw [lg_entry_eq]
  generalize (lg_sl ([.ref o0, .int mo, .ref ito]) ++ List.replicate (4 - (lg_sl ([.ref o0, .int mo, .ref ito])).length) Slot.unset).toArray = ls at hl ⊢
  have hl : lv_has ls 4 [(0, .ref o0), (1, .int mo), (2, .ref ito)] := hl
  refine lv_aload_n hx hb dX4_takeNumber_0 rfl (lv_at hl 0 rfl) ?_
  refine tw_getM (v := .ref th) hx hb hts bF2_X4 hown hK hT hr_o0 shc_152 rfl 0 (by decide) (ht_at2 hts 0 rfl) (fun _ h9 => h9) hm_th dX4_takeNumber_1 ?_
  refine lv_aload_n hx hb dX4_takeNumber_4 rfl (lv_at hl 0 rfl) ?_
  refine tw_getM (v := .int a0) hx hb hts bF2_X4 hown hK hT hr_o0 shc_152 rfl 13 (by decide) (ht_at2 hts 1 rfl) (fun _ h9 => h9) hm_a0 dX4_takeNumber_5 ?_
  refine tw_iald (i := a0) hx hb hK hT hr_th shc_153 rfl (vin_t (a := a0.toInt) rfl (by omega) (by omega)) dX4_takeNumber_8 (fun v9 m1 h9 => ?_)
  obtain ⟨x2, rfl, gx2, kx2⟩ := h9
  have cx2 := hc_vT.at m1 (by have q9 := tn_of (show a0.toInt = a0.toInt from rfl) (by omega); omega)
  have t3 : a0.toInt = ix_tv.toInt → x2.toInt = tv.toInt := fun h8 => congrArg Int32.toInt (el_same m1 hm_tv h8)
  have t4 : x2.toInt = K (pS a0.toNatClampNeg) := (congrArg Int32.toInt cx2).trans (hKK _ (by have := tn_of (show a0.toInt = a0.toInt from rfl) (by omega); have := tn_of (show tn.toInt = tn.toInt from rfl) (by omega); omega))
  refine lv_bipush (v := 40) hx hb dX4_takeNumber_9 (by decide) ?_
  refine lv_isub hx hb dX4_takeNumber_11 ?_
  refine lv_topi (fun x5 ex5 => ?_)
  have t6 : -2147483648 ≤ x2.toInt ∧ x2.toInt ≤ 2147483647 := ti_all x2
  have t7 : x5.toInt = x2.toInt - 40 := ti_sub ex5 rfl (by decide) (by omega) (by omega)
  refine lv_istore_n (lv' := [(3, .int x5), (0, .ref o0), (1, .int mo), (2, .ref ito)]) hx hb dX4_takeNumber_12 rfl hl (by decide) rfl (fun ls hl => ?_)
  refine lv_iload_n hx hb dX4_takeNumber_13 rfl (lv_at hl 0 rfl) ?_
  refine lv_if_lt (tgt := 22) hx hb dX4_takeNumber_14 (by decide) (fun c8 => ?_) (fun c8 => ?_)
  · have t9 : x5.toInt < 0 := ti_lt c8 rfl (by decide)
    refine lv_iconst (v := 0) hx hb dX4_takeNumber_22 (by decide) ?_
    exact W.zret (v := 0) hx hb hr (by decide) (fun t ht hW => ⟨⟨0, a0, rfl, (by exact ⟨(by have q8 := ti_all a0; omega), (rg_t (a := 0) (by decide) (by first | decide | omega) (by first | decide | omega)), (by omega), (Or.inr ⟨by omega, by decide, rfl⟩)⟩), by (try dsimp only); rw [ht]; exact ⟨hT, hF, hm_a0⟩⟩, hS.F ht⟩) hS.2.2 dX4_takeNumber_23
  · have t10 : 0 ≤ x5.toInt := ti_nlt c8 rfl (by decide)
    refine lv_iload_n hx hb dX4_takeNumber_17 rfl (lv_at hl 0 rfl) ?_
    refine lv_iload_n hx hb dX4_takeNumber_18 rfl (lv_at hl 2 rfl) ?_
    have t11 : -2147483648 ≤ mo.toInt ∧ mo.toInt ≤ 2147483647 := ti_all mo
    refine lv_icmp_le (tgt := 24) hx hb dX4_takeNumber_19 (by decide) (fun c12 => ?_) (fun c12 => ?_)
    · have t13 : x5.toInt ≤ mo.toInt := ti_le c12 rfl rfl
      refine lv_aload_n hx hb dX4_takeNumber_24 rfl (lv_at hl 3 rfl) ?_
      refine lv_aload_n hx hb dX4_takeNumber_25 rfl (lv_at hl 1 rfl) ?_
      refine tw_getM (v := .int ln) hx hb hts bF2_X4 hown hK hT hr_o0 shc_152 rfl 11 (by decide) (ht_at2 hts 2 rfl) (fun _ h9 => h9) hm_ln dX4_takeNumber_26 ?_
      refine lv_iload_n hx hb dX4_takeNumber_29 rfl (lv_at hl 0 rfl) ?_
      refine tw_iast (i := ln) (x := x5) hx hb hK hT hG hS hr_ito shc_158 rfl (vin_t (a := ln.toInt) rfl (by omega) (by omega)) (gi_all _) dX4_takeNumber_30 (fun H locs hT oq m14 oi hS => ?_)
      have hF := hF.ast hr_ito skc_158 oq (by decide)
      have m16 := (el_kept (oq _ (gne hr_o0 hr_ito (by decide)))).trans hm_a0
      refine lv_aload_n hx hb dX4_takeNumber_31 rfl (lv_at hl 1 rfl) ?_
      refine lv_dup hx hb dX4_takeNumber_32 rfl ?_
      refine tw_getM (v := .int a0) hx hb hts bF2_X4 hown hK hT hr_o0 shc_152 rfl 13 (by decide) (ht_at2 hts 1 rfl) (fun _ h9 => h9) m16 dX4_takeNumber_33 ?_
      refine lv_iconst (v := 1) hx hb dX4_takeNumber_36 (by decide) ?_
      refine lv_iadd hx hb dX4_takeNumber_37 ?_
      refine lv_topi (fun x21 ex21 => ?_)
      have t22 : x21.toInt = a0.toInt + 1 := ti_add ex21 rfl (by decide) (by omega) (by omega)
      refine tw_put (v := .int x21) (ty := .int) hx hb hts bF2_X4 tyX4 tyX4_ok nmX4 hown hK hT hG hS hr_o0 shc_152 rfl 13 (by decide) (ht_at2 hts 1 rfl) (fun _ h9 => h9) rfl (by decide +kernel) rfl rfl (gl_at rfl (gi_of (show x21.toInt = x21.toInt from rfl) (by omega) (by omega))) dX4_takeNumber_38 (fun H locs hT oq m23 oj hS => ?_)
      have hF := hF.put hr_o0 skc_152 oq oj (by decide)
      refine lv_iconst (v := 1) hx hb dX4_takeNumber_41 (by decide) ?_
      exact W.zret (v := 1) hx hb hr (by decide) (fun t ht hW => ⟨⟨1, x21, rfl, (by exact ⟨(by have q8 := ti_all x21; omega), (rg_t (a := 1) (by decide) (by first | decide | omega) (by first | decide | omega)), (by omega), (Or.inl ⟨by omega, by decide, (show pS x21.toNatClampNeg = X (pS a0.toNatClampNeg) from by rw [show x21.toNatClampNeg = a0.toNatClampNeg + 1 from by have := tn_of (show a0.toInt = a0.toInt from rfl) (by omega); have := tn_of (show x21.toInt = x21.toInt from rfl) (by omega); omega]; exact hXX _ (by have := tn_of (show a0.toInt = a0.toInt from rfl) (by omega); have := tn_of (show tn.toInt = tn.toInt from rfl) (by omega); omega))⟩)⟩), by (try dsimp only); rw [ht]; exact ⟨hT, hF, m23⟩⟩, hS.F ht⟩) hS.2.2 dX4_takeNumber_42
    · have t30 : mo.toInt < x5.toInt := ti_nle c12 rfl rfl
      refine lv_iconst (v := 0) hx hb dX4_takeNumber_22 (by decide) ?_
      exact W.zret (v := 0) hx hb hr (by decide) (fun t ht hW => ⟨⟨0, a0, rfl, (by exact ⟨(by have q8 := ti_all a0; omega), (rg_t (a := 0) (by decide) (by first | decide | omega) (by first | decide | omega)), (by omega), (Or.inr ⟨by omega, by decide, rfl⟩)⟩), by (try dsimp only); rw [ht]; exact ⟨hT, hF, hm_a0⟩⟩, hS.F ht⟩) hS.2.2 dX4_takeNumber_23
def w_c_takeNumber_tos : List Cond := .code yX4_takeNumber cX4_takeNumber 4 (some .boolean) :: (HAppend.hAppend (α := List Cond) (β := List Cond) (γ := List Cond) [.fieldLink RX4 11 "SeaLand$Law" "things" "[I", .fieldLink RX4 56 "SeaLand$Law" "at" "I", .fieldLink RX4 60 "SeaLand$Law" "lines" "I"] bs2)
set_option maxHeartbeats 4000000 in
set_option maxRecDepth 100000 in
theorem c_takeNumber_tos (l : Launch) (dC : Nat → ClassId) (dI : Nat → Nat → Nat) (kA : Nat → ClassId) (adK adV : Nat → Nat) (G : gT) (H0 : Heap) (nC nS : Int) (o0 : Nat) (mo : Int32) (ito : Nat) (th : Nat) (a0 : Int32) (ln : Int32) (vT : Nat → Int32) (tv ix_tv : Int32) (tn : Int32) (K : Nat → Int) (X pS : Nat → Nat) (hT : gH (dC, dI) kA (SHc nC nS) G H0) (hr_ito : G ito = some 159) (hr_o0 : G o0 = some 152) (hm_th : el H0 o0 (dI 7 0) = some (.ref th)) (hr_th : G th = some 153) (hm_a0 : el H0 o0 (dI 7 13) = some (.int a0)) (hm_ln : el H0 o0 (dI 7 11) = some (.int ln)) (hq0 : 0 ≤ tn.toInt ∧ tn.toInt ≤ 400) (hq1 : 0 ≤ a0.toInt ∧ a0.toInt ≤ 400) (hat : a0.toInt ≤ tn.toInt) (hq3 : 0 ≤ ln.toInt ∧ ln.toInt ≤ 19) (hKK : ∀ m : Nat, m ≤ tn.toNatClampNeg → (vT m).toInt = K (pS m)) (hXX : ∀ m : Nat, m < tn.toNatClampNeg → pS (m + 1) = X (pS m)) (hc_vT : ct H0 th 401 vT) (hx_tv : ix_tv.toInt = tn.toInt) (hm_tv : el H0 th ix_tv.toNatClampNeg = some (.int tv)) (hv_tv : 21 ≤ tv.toInt ∧ tv.toInt ≤ 21) (hgC : 0 ≤ nC ∧ nC ≤ 40) (hgS : 0 ≤ nS ∧ nS ≤ 60) : Met l yX4_takeNumber w_c_takeNumber_tos ({ frames := 0, cells := 0, slots := 0, locals := 0 }) (va_Pc [.ref o0, .int mo, .ref ito] (fun U => U.heap = H0 ∧ va_K (dC, dI) vwCl (tyl kA) U ∧ EVC adK adV (gA G H0.size) U U.heap)) (va_Qi (fun (r : Int32) (u : Int32) => (0 ≤ u.toInt ∧ u.toInt ≤ 400) ∧ (0 ≤ r.toInt ∧ r.toInt ≤ 1) ∧ (a0.toInt ≤ u.toInt ∧ u.toInt ≤ tn.toInt) ∧ (nR K X mo.toInt (pS a0.toNatClampNeg) r.toInt (pS u.toNatClampNeg))) (fun (a1 : Int32) (t : State) => gH (dC, dI) kA (SHc nC nS) G t.heap ∧ gF (dC, dI) SKc G ([(152, 13), (159, 0)] : List (Nat × Nat)) H0 t.heap ∧ el t.heap o0 (dI 7 13) = some (.int a1)) (gA G H0.size)) 0 0 (gA G H0.size) := by
  refine Met.ofW (cc := cX4_takeNumber) (maxL := 4) (ret := (some .boolean)) (by decide) rfl ?_
  intro p e s m args below meth c s₁ B hml hv
  obtain ⟨rfl, hH0, hK, hE⟩ := hv
  have hx := B.exec
  have hb := B.bytes
  have hr := B.returns
  have hts := atoms_spec (ws := w_c_takeNumber_tos) B.pre
  have hown : s.vm.findClass RX4 = some m.cls := findClass_of_methodNamed B.named
  have hlocks := B.notSynchronized
  subst hH0
  generalize hAe : gA G s.heap.size = A at hE ⊢
  have hA : ∀ q : Nat, s.heap.size ≤ q → A q := fun q h => by rw [← hAe]; exact Or.inr h
  have hG := gA_of hAe
  have hS : va_S A s.heap s.heap [] := va_S.rf
  have hF : gF (dC, dI) SKc G ([(152, 13), (159, 0)] : List (Nat × Nat)) s.heap s.heap := gF.rf
  have hl := lv_entry ([.ref o0, .int mo, .ref ito]) (n := 4) (Nat.le_of_ble_eq_true rfl)
  rw [lg_entry_eq]
  generalize (lg_sl ([.ref o0, .int mo, .ref ito]) ++ List.replicate (4 - (lg_sl ([.ref o0, .int mo, .ref ito])).length) Slot.unset).toArray = ls at hl ⊢
  have hl : lv_has ls 4 [(0, .ref o0), (1, .int mo), (2, .ref ito)] := hl
  refine lv_aload_n hx hb dX4_takeNumber_0 rfl (lv_at hl 0 rfl) ?_
  refine tw_getM (v := .ref th) hx hb hts bF2_X4 hown hK hT hr_o0 shc_152 rfl 0 (by decide) (ht_at2 hts 0 rfl) (fun _ h9 => h9) hm_th dX4_takeNumber_1 ?_
  refine lv_aload_n hx hb dX4_takeNumber_4 rfl (lv_at hl 0 rfl) ?_
  refine tw_getM (v := .int a0) hx hb hts bF2_X4 hown hK hT hr_o0 shc_152 rfl 13 (by decide) (ht_at2 hts 1 rfl) (fun _ h9 => h9) hm_a0 dX4_takeNumber_5 ?_
  refine tw_iald (i := a0) hx hb hK hT hr_th shc_153 rfl (vin_t (a := a0.toInt) rfl (by omega) (by omega)) dX4_takeNumber_8 (fun v9 m1 h9 => ?_)
  obtain ⟨x2, rfl, gx2, kx2⟩ := h9
  have cx2 := hc_vT.at m1 (by have q9 := tn_of (show a0.toInt = a0.toInt from rfl) (by omega); omega)
  have t3 : a0.toInt = ix_tv.toInt → x2.toInt = tv.toInt := fun h8 => congrArg Int32.toInt (el_same m1 hm_tv h8)
  have t4 : x2.toInt = K (pS a0.toNatClampNeg) := (congrArg Int32.toInt cx2).trans (hKK _ (by have := tn_of (show a0.toInt = a0.toInt from rfl) (by omega); have := tn_of (show tn.toInt = tn.toInt from rfl) (by omega); omega))
  refine lv_bipush (v := 40) hx hb dX4_takeNumber_9 (by decide) ?_
  refine lv_isub hx hb dX4_takeNumber_11 ?_
  refine lv_topi (fun x5 ex5 => ?_)
  have t6 : -2147483648 ≤ x2.toInt ∧ x2.toInt ≤ 2147483647 := ti_all x2
  have t7 : x5.toInt = x2.toInt - 40 := ti_sub ex5 rfl (by decide) (by omega) (by omega)
  refine lv_istore_n (lv' := [(3, .int x5), (0, .ref o0), (1, .int mo), (2, .ref ito)]) hx hb dX4_takeNumber_12 rfl hl (by decide) rfl (fun ls hl => ?_)
  refine lv_iload_n hx hb dX4_takeNumber_13 rfl (lv_at hl 0 rfl) ?_
  refine lv_if_lt (tgt := 22) hx hb dX4_takeNumber_14 (by decide) (fun c8 => ?_) (fun c8 => ?_)
  · have t9 : x5.toInt < 0 := ti_lt c8 rfl (by decide)
    refine lv_iconst (v := 0) hx hb dX4_takeNumber_22 (by decide) ?_
    exact W.zret (v := 0) hx hb hr (by decide) (fun t ht hW => ⟨⟨0, a0, rfl, (by exact ⟨(by have q8 := ti_all a0; omega), (rg_t (a := 0) (by decide) (by first | decide | omega) (by first | decide | omega)), (by omega), (Or.inr ⟨by omega, by decide, rfl⟩)⟩), by (try dsimp only); rw [ht]; exact ⟨hT, hF, hm_a0⟩⟩, hS.F ht⟩) hS.2.2 dX4_takeNumber_23
  · have t10 : 0 ≤ x5.toInt := ti_nlt c8 rfl (by decide)
    refine lv_iload_n hx hb dX4_takeNumber_17 rfl (lv_at hl 0 rfl) ?_
    refine lv_iload_n hx hb dX4_takeNumber_18 rfl (lv_at hl 2 rfl) ?_
    have t11 : -2147483648 ≤ mo.toInt ∧ mo.toInt ≤ 2147483647 := ti_all mo
    refine lv_icmp_le (tgt := 24) hx hb dX4_takeNumber_19 (by decide) (fun c12 => ?_) (fun c12 => ?_)
    · have t13 : x5.toInt ≤ mo.toInt := ti_le c12 rfl rfl
      refine lv_aload_n hx hb dX4_takeNumber_24 rfl (lv_at hl 3 rfl) ?_
      refine lv_aload_n hx hb dX4_takeNumber_25 rfl (lv_at hl 1 rfl) ?_
      refine tw_getM (v := .int ln) hx hb hts bF2_X4 hown hK hT hr_o0 shc_152 rfl 11 (by decide) (ht_at2 hts 2 rfl) (fun _ h9 => h9) hm_ln dX4_takeNumber_26 ?_
      refine lv_iload_n hx hb dX4_takeNumber_29 rfl (lv_at hl 0 rfl) ?_
      refine tw_iast (i := ln) (x := x5) hx hb hK hT hG hS hr_ito shc_159 rfl (vin_t (a := ln.toInt) rfl (by omega) (by omega)) (gi_all _) dX4_takeNumber_30 (fun H locs hT oq m14 oi hS => ?_)
      have hF := hF.ast hr_ito skc_159 oq (by decide)
      have m16 := (el_kept (oq _ (gne hr_o0 hr_ito (by decide)))).trans hm_a0
      refine lv_aload_n hx hb dX4_takeNumber_31 rfl (lv_at hl 1 rfl) ?_
      refine lv_dup hx hb dX4_takeNumber_32 rfl ?_
      refine tw_getM (v := .int a0) hx hb hts bF2_X4 hown hK hT hr_o0 shc_152 rfl 13 (by decide) (ht_at2 hts 1 rfl) (fun _ h9 => h9) m16 dX4_takeNumber_33 ?_
      refine lv_iconst (v := 1) hx hb dX4_takeNumber_36 (by decide) ?_
      refine lv_iadd hx hb dX4_takeNumber_37 ?_
      refine lv_topi (fun x21 ex21 => ?_)
      have t22 : x21.toInt = a0.toInt + 1 := ti_add ex21 rfl (by decide) (by omega) (by omega)
      refine tw_put (v := .int x21) (ty := .int) hx hb hts bF2_X4 tyX4 tyX4_ok nmX4 hown hK hT hG hS hr_o0 shc_152 rfl 13 (by decide) (ht_at2 hts 1 rfl) (fun _ h9 => h9) rfl (by decide +kernel) rfl rfl (gl_at rfl (gi_of (show x21.toInt = x21.toInt from rfl) (by omega) (by omega))) dX4_takeNumber_38 (fun H locs hT oq m23 oj hS => ?_)
      have hF := hF.put hr_o0 skc_152 oq oj (by decide)
      refine lv_iconst (v := 1) hx hb dX4_takeNumber_41 (by decide) ?_
      exact W.zret (v := 1) hx hb hr (by decide) (fun t ht hW => ⟨⟨1, x21, rfl, (by exact ⟨(by have q8 := ti_all x21; omega), (rg_t (a := 1) (by decide) (by first | decide | omega) (by first | decide | omega)), (by omega), (Or.inl ⟨by omega, by decide, (show pS x21.toNatClampNeg = X (pS a0.toNatClampNeg) from by rw [show x21.toNatClampNeg = a0.toNatClampNeg + 1 from by have := tn_of (show a0.toInt = a0.toInt from rfl) (by omega); have := tn_of (show x21.toInt = x21.toInt from rfl) (by omega); omega]; exact hXX _ (by have := tn_of (show a0.toInt = a0.toInt from rfl) (by omega); have := tn_of (show tn.toInt = tn.toInt from rfl) (by omega); omega))⟩)⟩), by (try dsimp only); rw [ht]; exact ⟨hT, hF, m23⟩⟩, hS.F ht⟩) hS.2.2 dX4_takeNumber_42
    · have t30 : mo.toInt < x5.toInt := ti_nle c12 rfl rfl
      refine lv_iconst (v := 0) hx hb dX4_takeNumber_22 (by decide) ?_
      exact W.zret (v := 0) hx hb hr (by decide) (fun t ht hW => ⟨⟨0, a0, rfl, (by exact ⟨(by have q8 := ti_all a0; omega), (rg_t (a := 0) (by decide) (by first | decide | omega) (by first | decide | omega)), (by omega), (Or.inr ⟨by omega, by decide, rfl⟩)⟩), by (try dsimp only); rw [ht]; exact ⟨hT, hF, hm_a0⟩⟩, hS.F ht⟩) hS.2.2 dX4_takeNumber_23
def w_c_lineKind : List Cond := .code yX4_lineKind cX4_lineKind 1 (some .int) :: (HAppend.hAppend (α := List Cond) (β := List Cond) (γ := List Cond) [] bs2)
set_option maxHeartbeats 4000000 in
set_option maxRecDepth 100000 in
theorem c_lineKind (l : Launch) (dC : Nat → ClassId) (dI : Nat → Nat → Nat) (kA : Nat → ClassId) (adK adV : Nat → Nat) (G : gT) (H0 : Heap) (nC nS : Int) (tg : Int32)  (hT : gH (dC, dI) kA (SHc nC nS) G H0) (hgC : 0 ≤ nC ∧ nC ≤ 40) (hgS : 0 ≤ nS ∧ nS ≤ 60) : Met l yX4_lineKind w_c_lineKind ({ frames := 0, cells := 0, slots := 0, locals := 0 }) (va_Pc [.int tg] (fun U => U.heap = H0 ∧ va_K (dC, dI) vwCl (tyl kA) U ∧ EVC adK adV (gA G H0.size) U U.heap)) (va_Qi (fun (r : Int32) (u : Unit) => (-1 ≤ r.toInt ∧ r.toInt ≤ 9) ∧ (r.toInt = -1 ∨ tg.toInt ≠ 21) ∧ (r.toInt = lkT tg.toInt)) (fun (_ : Unit) (t : State) => gH (dC, dI) kA (SHc nC nS) G t.heap ∧ gF (dC, dI) SKc G ([] : List (Nat × Nat)) H0 t.heap) (gA G H0.size)) 0 0 (gA G H0.size) := by
  refine Met.ofW (cc := cX4_lineKind) (maxL := 1) (ret := (some .int)) (by decide) rfl ?_
  intro p e s m args below meth c s₁ B hml hv
  obtain ⟨rfl, hH0, hK, hE⟩ := hv
  have hx := B.exec
  have hb := B.bytes
  have hr := B.returns
  have hts := atoms_spec (ws := w_c_lineKind) B.pre
  have hown : s.vm.findClass RX4 = some m.cls := findClass_of_methodNamed B.named
  have hlocks := B.notSynchronized
  subst hH0
  generalize hAe : gA G s.heap.size = A at hE ⊢
  have hA : ∀ q : Nat, s.heap.size ≤ q → A q := fun q h => by rw [← hAe]; exact Or.inr h
  have hG := gA_of hAe
  have hS : va_S A s.heap s.heap [] := va_S.rf
  have hF : gF (dC, dI) SKc G ([] : List (Nat × Nat)) s.heap s.heap := gF.rf
  have hl := lv_entry ([.int tg]) (n := 1) (Nat.le_of_ble_eq_true rfl)
  rw [lg_entry_eq]
  generalize (lg_sl ([.int tg]) ++ List.replicate (1 - (lg_sl ([.int tg])).length) Slot.unset).toArray = ls at hl ⊢
  have hl : lv_has ls 1 [(0, .int tg)] := hl
  refine lv_iload_n hx hb dX4_lineKind_0 rfl (lv_at hl 0 rfl) ?_
  refine lv_iconst (v := 1) hx hb dX4_lineKind_1 (by decide) ?_
  have t1 : -2147483648 ≤ tg.toInt ∧ tg.toInt ≤ 2147483647 := ti_all tg
  refine lv_icmp_ne (tgt := 7) hx hb dX4_lineKind_2 (by decide) (fun c2 => ?_) (fun c2 => ?_)
  · have t3 : tg.toInt ≠ 1 := ti_ne c2 rfl (by decide)
    refine lv_bipush (v := 30) hx hb dX4_lineKind_7 (by decide) ?_
    refine lv_iload_n hx hb dX4_lineKind_9 rfl (lv_at hl 0 rfl) ?_
    refine lv_icmp_gt (tgt := 26) hx hb dX4_lineKind_10 (by decide) (fun c4 => ?_) (fun c4 => ?_)
    · have t5 : tg.toInt < 30 := ti_lt c4 rfl (by decide)
      refine lv_iconst (v := (-1)) hx hb dX4_lineKind_26 (by decide) ?_
      exact W.iret (v := (-1)) hx hb hr (fun t ht hW => ⟨⟨(-1), (), rfl, (by exact ⟨(rg_t (a := (-1)) (by decide) (by first | decide | omega) (by first | decide | omega)), (by have : (-1 : Int32).toInt = (-1) := (by decide); omega), (by have qm : (-1 : Int32).toInt = -1 := (by decide); have q1 : (1 : Int32).toInt = 1 := (by decide); have := lkT_s tg.toInt; omega)⟩), by (try dsimp only); rw [ht]; exact ⟨hT, hF⟩⟩, hS.F ht⟩) hS.2.2 dX4_lineKind_27
    · have t6 : 30 ≤ tg.toInt := ti_nlt c4 rfl (by decide)
      refine lv_iload_n hx hb dX4_lineKind_13 rfl (lv_at hl 0 rfl) ?_
      refine lv_bipush (v := 39) hx hb dX4_lineKind_14 (by decide) ?_
      refine lv_icmp_gt (tgt := 26) hx hb dX4_lineKind_16 (by decide) (fun c7 => ?_) (fun c7 => ?_)
      · have t8 : 39 < tg.toInt := ti_lt c7 (by decide) rfl
        refine lv_iconst (v := (-1)) hx hb dX4_lineKind_26 (by decide) ?_
        exact W.iret (v := (-1)) hx hb hr (fun t ht hW => ⟨⟨(-1), (), rfl, (by exact ⟨(rg_t (a := (-1)) (by decide) (by first | decide | omega) (by first | decide | omega)), (by have : (-1 : Int32).toInt = (-1) := (by decide); omega), (by have qm : (-1 : Int32).toInt = -1 := (by decide); have q1 : (1 : Int32).toInt = 1 := (by decide); have := lkT_s tg.toInt; omega)⟩), by (try dsimp only); rw [ht]; exact ⟨hT, hF⟩⟩, hS.F ht⟩) hS.2.2 dX4_lineKind_27
      · have t9 : tg.toInt ≤ 39 := ti_nlt c7 (by decide) rfl
        refine lv_iload_n hx hb dX4_lineKind_19 rfl (lv_at hl 0 rfl) ?_
        refine lv_bipush (v := 30) hx hb dX4_lineKind_20 (by decide) ?_
        refine lv_isub hx hb dX4_lineKind_22 ?_
        refine lv_topi (fun x10 ex10 => ?_)
        have t11 : x10.toInt = tg.toInt - 30 := ti_sub ex10 rfl (by decide) (by omega) (by omega)
        refine lv_goto (tgt := 27) hx hb dX4_lineKind_23 (by decide) ?_
        exact W.iret (v := x10) hx hb hr (fun t ht hW => ⟨⟨x10, (), rfl, (by exact ⟨(by have q8 := ti_all x10; omega), (by omega), (by have qm : (-1 : Int32).toInt = -1 := (by decide); have q1 : (1 : Int32).toInt = 1 := (by decide); have := lkT_s tg.toInt; omega)⟩), by (try dsimp only); rw [ht]; exact ⟨hT, hF⟩⟩, hS.F ht⟩) hS.2.2 dX4_lineKind_27
  · have t12 : tg.toInt = 1 := ti_eq c2 rfl (by decide)
    refine lv_iconst (v := 1) hx hb dX4_lineKind_5 (by decide) ?_
    exact W.iret (v := 1) hx hb hr (fun t ht hW => ⟨⟨1, (), rfl, (by exact ⟨(rg_t (a := 1) (by decide) (by first | decide | omega) (by first | decide | omega)), (by have : (1 : Int32).toInt = 1 := (by decide); omega), (by have qm : (-1 : Int32).toInt = -1 := (by decide); have q1 : (1 : Int32).toInt = 1 := (by decide); have := lkT_s tg.toInt; omega)⟩), by (try dsimp only); rw [ht]; exact ⟨hT, hF⟩⟩, hS.F ht⟩) hS.2.2 dX4_lineKind_6
def w_c_addStep : List Cond := .code yX4_addStep cX4_addStep 2 none :: (HAppend.hAppend (α := List Cond) (β := List Cond) (γ := List Cond) [.fieldLink RX4 63 "SeaLand$Law" "stepped" "I", .fieldLink RX4 39 "SeaLand$Law" "steps" "[I"] bs2)
set_option maxHeartbeats 4000000 in
set_option maxRecDepth 100000 in
theorem c_addStep (l : Launch) (dC : Nat → ClassId) (dI : Nat → Nat → Nat) (kA : Nat → ClassId) (adK adV : Nat → Nat) (G : gT) (H0 : Heap) (nC nS : Int) (o0 : Nat) (sp : Int32) (s0 : Int32) (sp9 : Nat) (vS : Nat → Int32)  (hT : gH (dC, dI) kA (SHc nC nS) G H0) (hr_o0 : G o0 = some 152) (hm_s0 : el H0 o0 (dI 7 12) = some (.int s0)) (hm_sp9 : el H0 o0 (dI 7 9) = some (.ref sp9)) (hr_sp9 : G sp9 = some 162) (hq0 : 0 ≤ sp.toInt ∧ sp.toInt ≤ 2147483647) (hq1 : 0 ≤ s0.toInt ∧ s0.toInt ≤ 399) (hc_vS : ct H0 sp9 400 vS) (hgC : 0 ≤ nC ∧ nC ≤ 40) (hgS : 0 ≤ nS ∧ nS ≤ 60) : Met l yX4_addStep w_c_addStep ({ frames := 0, cells := 0, slots := 0, locals := 0 }) (va_Pc [.ref o0, .int sp] (fun U => U.heap = H0 ∧ va_K (dC, dI) vwCl (tyl kA) U ∧ EVC adK adV (gA G H0.size) U U.heap)) (va_Qv (fun (u : Int32) => (1 ≤ u.toInt ∧ u.toInt ≤ 400) ∧ (u.toInt = s0.toInt + 1)) (fun (s1 : Int32) (t : State) => gH (dC, dI) kA (SHc nC nS) G t.heap ∧ gF (dC, dI) SKc G ([(152, 12), (162, 0)] : List (Nat × Nat)) H0 t.heap ∧ el t.heap o0 (dI 7 12) = some (.int s1) ∧ ct t.heap sp9 400 (cu vS s0.toNatClampNeg sp)) (gA G H0.size)) 0 0 (gA G H0.size) := by
  refine Met.ofW (cc := cX4_addStep) (maxL := 2) (ret := none) (by decide) rfl ?_
  intro p e s m args below meth c s₁ B hml hv
  obtain ⟨rfl, hH0, hK, hE⟩ := hv
  have hx := B.exec
  have hb := B.bytes
  have hr := B.returns
  have hts := atoms_spec (ws := w_c_addStep) B.pre
  have hown : s.vm.findClass RX4 = some m.cls := findClass_of_methodNamed B.named
  have hlocks := B.notSynchronized
  subst hH0
  generalize hAe : gA G s.heap.size = A at hE ⊢
  have hA : ∀ q : Nat, s.heap.size ≤ q → A q := fun q h => by rw [← hAe]; exact Or.inr h
  have hG := gA_of hAe
  have hS : va_S A s.heap s.heap [] := va_S.rf
  have hF : gF (dC, dI) SKc G ([(152, 12), (162, 0)] : List (Nat × Nat)) s.heap s.heap := gF.rf
  have hl := lv_entry ([.ref o0, .int sp]) (n := 2) (Nat.le_of_ble_eq_true rfl)
  rw [lg_entry_eq]
  generalize (lg_sl ([.ref o0, .int sp]) ++ List.replicate (2 - (lg_sl ([.ref o0, .int sp])).length) Slot.unset).toArray = ls at hl ⊢
  have hl : lv_has ls 2 [(0, .ref o0), (1, .int sp)] := hl
  refine lv_aload_n hx hb dX4_addStep_0 rfl (lv_at hl 0 rfl) ?_
  refine tw_getM (v := .int s0) hx hb hts bF2_X4 hown hK hT hr_o0 shc_152 rfl 12 (by decide) (ht_at2 hts 0 rfl) (fun _ h9 => h9) hm_s0 dX4_addStep_1 ?_
  refine lv_sipush (v := 400) hx hb dX4_addStep_4 (by decide) ?_
  refine lv_icmp_ge (tgt := 30) hx hb dX4_addStep_7 (by decide) (fun c1 => (by exfalso; have q9 : 400 ≤ s0.toInt := ti_le c1 (by decide) rfl; omega)) (fun c1 => ?_)
  have t2 : s0.toInt < 400 := ti_nle c1 (by decide) rfl
  refine lv_aload_n hx hb dX4_addStep_10 rfl (lv_at hl 0 rfl) ?_
  refine tw_getM (v := .ref sp9) hx hb hts bF2_X4 hown hK hT hr_o0 shc_152 rfl 9 (by decide) (ht_at2 hts 1 rfl) (fun _ h9 => h9) hm_sp9 dX4_addStep_11 ?_
  refine lv_aload_n hx hb dX4_addStep_14 rfl (lv_at hl 0 rfl) ?_
  refine tw_getM (v := .int s0) hx hb hts bF2_X4 hown hK hT hr_o0 shc_152 rfl 12 (by decide) (ht_at2 hts 0 rfl) (fun _ h9 => h9) hm_s0 dX4_addStep_15 ?_
  refine lv_iload_n hx hb dX4_addStep_18 rfl (lv_at hl 1 rfl) ?_
  refine tw_iast (i := s0) (x := sp) hx hb hK hT hG hS hr_sp9 shc_162 rfl (vin_t (a := s0.toInt) rfl (by omega) (by omega)) (gi_of (show sp.toInt = sp.toInt from rfl) (by omega) (by omega)) dX4_addStep_19 (fun H locs hT oq m3 oi hS => ?_)
  have hF := hF.ast hr_sp9 skc_162 oq (by decide)
  have m4 := (el_kept (oq _ (gne hr_o0 hr_sp9 (by decide)))).trans hm_s0
  have m6 := hc_vS.put m3 oi
  refine lv_aload_n hx hb dX4_addStep_20 rfl (lv_at hl 0 rfl) ?_
  refine lv_dup hx hb dX4_addStep_21 rfl ?_
  refine tw_getM (v := .int s0) hx hb hts bF2_X4 hown hK hT hr_o0 shc_152 rfl 12 (by decide) (ht_at2 hts 0 rfl) (fun _ h9 => h9) m4 dX4_addStep_22 ?_
  refine lv_iconst (v := 1) hx hb dX4_addStep_25 (by decide) ?_
  refine lv_iadd hx hb dX4_addStep_26 ?_
  refine lv_topi (fun x7 ex7 => ?_)
  have t8 : x7.toInt = s0.toInt + 1 := ti_add ex7 rfl (by decide) (by omega) (by omega)
  refine tw_put (v := .int x7) (ty := .int) hx hb hts bF2_X4 tyX4 tyX4_ok nmX4 hown hK hT hG hS hr_o0 shc_152 rfl 12 (by decide) (ht_at2 hts 0 rfl) (fun _ h9 => h9) rfl (by decide +kernel) rfl rfl (gl_at rfl (gi_of (show x7.toInt = x7.toInt from rfl) (by omega) (by omega))) dX4_addStep_27 (fun H locs hT oq m9 oj hS => ?_)
  have hF := hF.put hr_o0 skc_152 oq oj (by decide)
  have m11 := m6.kept (oq _ (gne hr_sp9 hr_o0 (by decide)))
  exact W.vret hx hb hr (fun t ht hW => ⟨⟨x7, rfl, (by exact ⟨(by have q8 := ti_all x7; omega), (by omega)⟩), by (try dsimp only); rw [ht]; exact ⟨hT, hF, m9, m11⟩⟩, hS.F ht⟩) hS.2.2 dX4_addStep_30
def w_c_readPart : List Cond := .code yX4_readPart cX4_readPart 2 (some .boolean) :: (HAppend.hAppend (α := List Cond) (β := List Cond) (γ := List Cond) [.fieldLink RX4 11 "SeaLand$Law" "things" "[I", .fieldLink RX4 56 "SeaLand$Law" "at" "I", .code yX4_addStep cX4_addStep 2 none, .fieldLink RX4 63 "SeaLand$Law" "stepped" "I", .fieldLink RX4 39 "SeaLand$Law" "steps" "[I", .methodLink RX4 179 yX4_addStep, .instanceMethod yX4_addStep, .selects RX4 yX4_addStep yX4_addStep, .initialized RX4] bs2)
set_option maxHeartbeats 4000000 in
set_option maxRecDepth 100000 in
theorem c_readPart (l : Launch) (dC : Nat → ClassId) (dI : Nat → Nat → Nat) (kA : Nat → ClassId) (adK adV : Nat → Nat) (G : gT) (H0 : Heap) (nC nS : Int) (o0 : Nat) (th : Nat) (a0 : Int32) (s0 : Int32) (sp9 : Nat) (vT : Nat → Int32) (vS : Nat → Int32) (tv ix_tv : Int32) (tn : Int32) (K : Nat → Int) (X pS : Nat → Nat) (hT : gH (dC, dI) kA (SHc nC nS) G H0) (hr_o0 : G o0 = some 152) (hm_th : el H0 o0 (dI 7 0) = some (.ref th)) (hr_th : G th = some 153) (hm_a0 : el H0 o0 (dI 7 13) = some (.int a0)) (hm_s0 : el H0 o0 (dI 7 12) = some (.int s0)) (hm_sp9 : el H0 o0 (dI 7 9) = some (.ref sp9)) (hr_sp9 : G sp9 = some 162) (hq0 : 0 ≤ tn.toInt ∧ tn.toInt ≤ 400) (hq1 : 0 ≤ a0.toInt ∧ a0.toInt ≤ 400) (hat : a0.toInt ≤ tn.toInt) (hKK : ∀ m : Nat, m ≤ tn.toNatClampNeg → (vT m).toInt = K (pS m)) (hXX : ∀ m : Nat, m < tn.toNatClampNeg → pS (m + 1) = X (pS m)) (hq5 : 0 ≤ s0.toInt ∧ s0.toInt ≤ 400) (hsa : s0.toInt ≤ a0.toInt) (hc_vT : ct H0 th 401 vT) (hc_vS : ct H0 sp9 400 vS) (hx_tv : ix_tv.toInt = tn.toInt) (hm_tv : el H0 th ix_tv.toNatClampNeg = some (.int tv)) (hv_tv : 21 ≤ tv.toInt ∧ tv.toInt ≤ 21) (hgC : 0 ≤ nC ∧ nC ≤ 40) (hgS : 0 ≤ nS ∧ nS ≤ 60) : Met l yX4_readPart w_c_readPart ({ frames := 1, cells := 0, slots := 0, locals := 21 }) (va_Pc [.ref o0] (fun U => U.heap = H0 ∧ va_K (dC, dI) vwCl (tyl kA) U ∧ EVC adK adV (gA G H0.size) U U.heap)) (va_Qi (fun (r : Int32) (u : Int32 × Int32 × (Nat → Int32)) => match u with | (a1, s1, vS1) => (0 ≤ a1.toInt ∧ a1.toInt ≤ 400) ∧ (0 ≤ s1.toInt ∧ s1.toInt ≤ 400) ∧ (0 ≤ r.toInt ∧ r.toInt ≤ 1) ∧ (a0.toInt ≤ a1.toInt ∧ a1.toInt ≤ tn.toInt) ∧ (s0.toInt ≤ s1.toInt ∧ s1.toInt - s0.toInt ≤ a1.toInt - a0.toInt) ∧ (pR K X (pS a0.toNatClampNeg) r.toInt (pS a1.toNatClampNeg)) ∧ (zKp vS vS1 s0.toNatClampNeg) ∧ (r.toInt = 1 → zpZ K X (pS a0.toNatClampNeg) (zC (tz vS1) s0.toNatClampNeg s1.toNatClampNeg) (pS a1.toNatClampNeg))) (fun (u : Int32 × Int32 × (Nat → Int32)) (t : State) => match u with | (a1, s1, vS1) => gH (dC, dI) kA (SHc nC nS) G t.heap ∧ gF (dC, dI) SKc G ([(152, 12), (152, 13), (162, 0)] : List (Nat × Nat)) H0 t.heap ∧ el t.heap o0 (dI 7 13) = some (.int a1) ∧ el t.heap o0 (dI 7 12) = some (.int s1) ∧ ct t.heap sp9 400 vS1) (gA G H0.size)) 0 0 (gA G H0.size) := by
  refine Met.ofW (cc := cX4_readPart) (maxL := 2) (ret := (some .boolean)) (by decide) rfl ?_
  intro p e s m args below meth c s₁ B hml hv
  obtain ⟨rfl, hH0, hK, hE⟩ := hv
  have hx := B.exec
  have hb := B.bytes
  have hr := B.returns
  have hts := atoms_spec (ws := w_c_readPart) B.pre
  have hown : s.vm.findClass RX4 = some m.cls := findClass_of_methodNamed B.named
  have hlocks := B.notSynchronized
  subst hH0
  generalize hAe : gA G s.heap.size = A at hE ⊢
  have hA : ∀ q : Nat, s.heap.size ≤ q → A q := fun q h => by rw [← hAe]; exact Or.inr h
  have hG := gA_of hAe
  have hS : va_S A s.heap s.heap [] := va_S.rf
  have hF : gF (dC, dI) SKc G ([(152, 12), (152, 13), (162, 0)] : List (Nat × Nat)) s.heap s.heap := gF.rf
  have hl := lv_entry ([.ref o0]) (n := 2) (Nat.le_of_ble_eq_true rfl)
  rw [lg_entry_eq]
  generalize (lg_sl ([.ref o0]) ++ List.replicate (2 - (lg_sl ([.ref o0])).length) Slot.unset).toArray = ls at hl ⊢
  have hl : lv_has ls 2 [(0, .ref o0)] := hl
  refine lv_aload_n hx hb dX4_readPart_0 rfl (lv_at hl 0 rfl) ?_
  refine tw_getM (v := .ref th) hx hb hts bF2_X4 hown hK hT hr_o0 shc_152 rfl 0 (by decide) (ht_at2 hts 0 rfl) (fun _ h9 => h9) hm_th dX4_readPart_1 ?_
  refine lv_aload_n hx hb dX4_readPart_4 rfl (lv_at hl 0 rfl) ?_
  refine tw_getM (v := .int a0) hx hb hts bF2_X4 hown hK hT hr_o0 shc_152 rfl 13 (by decide) (ht_at2 hts 1 rfl) (fun _ h9 => h9) hm_a0 dX4_readPart_5 ?_
  refine tw_iald (i := a0) hx hb hK hT hr_th shc_153 rfl (vin_t (a := a0.toInt) rfl (by omega) (by omega)) dX4_readPart_8 (fun v9 m1 h9 => ?_)
  obtain ⟨x2, rfl, gx2, kx2⟩ := h9
  have cx2 := hc_vT.at m1 (by have q9 := tn_of (show a0.toInt = a0.toInt from rfl) (by omega); omega)
  have t3 : a0.toInt = ix_tv.toInt → x2.toInt = tv.toInt := fun h8 => congrArg Int32.toInt (el_same m1 hm_tv h8)
  have t4 : x2.toInt = K (pS a0.toNatClampNeg) := (congrArg Int32.toInt cx2).trans (hKK _ (by have := tn_of (show a0.toInt = a0.toInt from rfl) (by omega); have := tn_of (show tn.toInt = tn.toInt from rfl) (by omega); omega))
  refine lv_istore_n (lv' := [(1, .int x2), (0, .ref o0)]) hx hb dX4_readPart_9 rfl hl (by decide) rfl (fun ls hl => ?_)
  refine lv_iload_n hx hb dX4_readPart_10 rfl (lv_at hl 0 rfl) ?_
  refine lv_bipush (v := 10) hx hb dX4_readPart_11 (by decide) ?_
  have t5 : -2147483648 ≤ x2.toInt ∧ x2.toInt ≤ 2147483647 := ti_all x2
  refine lv_icmp_lt (tgt := 24) hx hb dX4_readPart_13 (by decide) (fun c6 => ?_) (fun c6 => ?_)
  · have t7 : x2.toInt < 10 := ti_lt c6 rfl (by decide)
    refine lv_aload_n hx hb dX4_readPart_24 rfl (lv_at hl 1 rfl) ?_
    refine lv_iload_n hx hb dX4_readPart_25 rfl (lv_at hl 0 rfl) ?_
    have hFc := gA_free hG hA hS
    refine va_callv (va_runV (As := [.int x2]) (rest := []) ⟨hx, hb, hml, hown, hts⟩ (c_addStep l dC dI kA adK adV G s.heap nC nS o0 x2 s0 sp9 vS hT hr_o0 hm_s0 hm_sp9 hr_sp9 (by have q8 := ti_all x2; omega) (by have q8 := ti_all s0; omega) hc_vS (by omega) (by omega)) (cwV 1 hts (goodIn_app (goodIn_r _ [6, 7, 8, 9] rfl (by decide +kernel)) (goodIn_ca (goodIn_r _ [3, 4, 5] rfl (by decide +kernel)) (bs2_in _ _))) rfl rfl rfl (by decide +kernel) ⟨(Nat.le_of_ble_eq_true rfl), (Nat.le_of_ble_eq_true rfl)⟩) ⟨fun a U g mk q => by obtain ⟨q0, q1, qK, qE⟩ := q; exact ⟨q0, q1, va_K.moved (u := U) (U := U.calling g mk a) (Vm.Alike.refl U.vm) qK, EVC.blind g mk a qE⟩, gH_rc hK hT hr_o0 shc_152 rfl, fun U hU hW => ⟨rfl, hU, va_K.moved hW.alike hK, hE.call hS hFc hU hW⟩⟩ rfl rfl hl.1 rfl (lv_room (Nat.le_of_ble_eq_true rfl)) dX4_readPart_26 ⟨(Nat.le_of_ble_eq_true rfl), (Nat.le_of_ble_eq_true rfl)⟩) hS (fun q _ h => hFc q h) hFc (fun u t H locs ht hvm hw9 hB _ _ hS => ?_)
    obtain ⟨u10, rfl⟩ : ∃ z, z = u := ⟨_, rfl⟩
    obtain ⟨hT, hF1, m11, m12⟩ := hB
    rw [ht] at hT hF1 m11 m12
    have m14 := (hF1.fld hr_o0 skc_152 (k := 13) (by decide) (by decide)).trans hm_a0
    have hF := hF.more hF1 (by decide)
    try dsimp only at hw9
    obtain ⟨h21, hf22⟩ := hw9
    refine lv_aload_n hx hb dX4_readPart_29 rfl (lv_at hl 1 rfl) ?_
    refine lv_dup hx hb dX4_readPart_30 rfl ?_
    refine tw_getM (v := .int a0) hx hb hts bF2_X4 hown hK hT hr_o0 shc_152 rfl 13 (by decide) (ht_at2 hts 1 rfl) (fun _ h9 => h9) m14 dX4_readPart_31 ?_
    refine lv_iconst (v := 1) hx hb dX4_readPart_34 (by decide) ?_
    refine lv_iadd hx hb dX4_readPart_35 ?_
    refine lv_topi (fun x23 ex23 => ?_)
    have t24 : x23.toInt = a0.toInt + 1 := ti_add ex23 rfl (by decide) (by omega) (by omega)
    refine tw_put (v := .int x23) (ty := .int) hx hb hts bF2_X4 tyX4 tyX4_ok nmX4 hown hK hT hG hS hr_o0 shc_152 rfl 13 (by decide) (ht_at2 hts 1 rfl) (fun _ h9 => h9) rfl (by decide +kernel) rfl rfl (gl_at rfl (gi_of (show x23.toInt = x23.toInt from rfl) (by omega) (by omega))) dX4_readPart_36 (fun H locs hT oq m25 oj hS => ?_)
    have hF := hF.put hr_o0 skc_152 oq oj (by decide)
    have m31 := (oj 12 (by decide) (by decide)).trans m11
    have m32 := m12.kept (oq _ (gne hr_sp9 hr_o0 (by decide)))
    refine lv_iconst (v := 1) hx hb dX4_readPart_39 (by decide) ?_
    exact W.zret (v := 1) hx hb hr (by decide) (fun t ht hW => ⟨⟨1, (x23, u10, (cu vS s0.toNatClampNeg x2)), rfl, (by exact ⟨(by have q8 := ti_all x23; omega), (by have q8 := ti_all u10; omega), (rg_t (a := 1) (by decide) (by first | decide | omega) (by first | decide | omega)), (by omega), (by omega), (Or.inl ⟨by omega, by decide, (show pS x23.toNatClampNeg = X (pS a0.toNatClampNeg) from by rw [show x23.toNatClampNeg = a0.toNatClampNeg + 1 from by have := tn_of (show a0.toInt = a0.toInt from rfl) (by omega); have := tn_of (show x23.toInt = x23.toInt from rfl) (by omega); omega]; exact hXX _ (by have := tn_of (show a0.toInt = a0.toInt from rfl) (by omega); have := tn_of (show tn.toInt = tn.toInt from rfl) (by omega); omega))⟩), (zKp.rf.st (by have := tn_of (show s0.toInt = s0.toInt from rfl) (by omega); omega)), (fun _ => ⟨by omega, zC_1 (by have := tn_of (show s0.toInt = s0.toInt from rfl) (by omega); have := tn_of (show u10.toInt = u10.toInt from rfl) (by omega); omega) rfl (show x2.toInt = K (pS a0.toNatClampNeg) from by omega), (show pS x23.toNatClampNeg = X (pS a0.toNatClampNeg) from by rw [show x23.toNatClampNeg = a0.toNatClampNeg + 1 from by have := tn_of (show a0.toInt = a0.toInt from rfl) (by omega); have := tn_of (show x23.toInt = x23.toInt from rfl) (by omega); omega]; exact hXX _ (by have := tn_of (show a0.toInt = a0.toInt from rfl) (by omega); have := tn_of (show tn.toInt = tn.toInt from rfl) (by omega); omega))⟩)⟩), by (try dsimp only); rw [ht]; exact ⟨hT, hF, m25, m31, m32⟩⟩, hS.F ht⟩) hS.2.2 dX4_readPart_40
  · have t33 : 10 ≤ x2.toInt := ti_nlt c6 rfl (by decide)
    refine lv_iload_n hx hb dX4_readPart_16 rfl (lv_at hl 0 rfl) ?_
    refine lv_bipush (v := 40) hx hb dX4_readPart_17 (by decide) ?_
    refine lv_icmp_ge (tgt := 24) hx hb dX4_readPart_19 (by decide) (fun c34 => ?_) (fun c34 => ?_)
    · have t35 : 40 ≤ x2.toInt := ti_le c34 (by decide) rfl
      refine lv_aload_n hx hb dX4_readPart_24 rfl (lv_at hl 1 rfl) ?_
      refine lv_iload_n hx hb dX4_readPart_25 rfl (lv_at hl 0 rfl) ?_
      have hFc := gA_free hG hA hS
      refine va_callv (va_runV (As := [.int x2]) (rest := []) ⟨hx, hb, hml, hown, hts⟩ (c_addStep l dC dI kA adK adV G s.heap nC nS o0 x2 s0 sp9 vS hT hr_o0 hm_s0 hm_sp9 hr_sp9 (by have q8 := ti_all x2; omega) (by have q8 := ti_all s0; omega) hc_vS (by omega) (by omega)) (cwV 1 hts (goodIn_app (goodIn_r _ [6, 7, 8, 9] rfl (by decide +kernel)) (goodIn_ca (goodIn_r _ [3, 4, 5] rfl (by decide +kernel)) (bs2_in _ _))) rfl rfl rfl (by decide +kernel) ⟨(Nat.le_of_ble_eq_true rfl), (Nat.le_of_ble_eq_true rfl)⟩) ⟨fun a U g mk q => by obtain ⟨q0, q1, qK, qE⟩ := q; exact ⟨q0, q1, va_K.moved (u := U) (U := U.calling g mk a) (Vm.Alike.refl U.vm) qK, EVC.blind g mk a qE⟩, gH_rc hK hT hr_o0 shc_152 rfl, fun U hU hW => ⟨rfl, hU, va_K.moved hW.alike hK, hE.call hS hFc hU hW⟩⟩ rfl rfl hl.1 rfl (lv_room (Nat.le_of_ble_eq_true rfl)) dX4_readPart_26 ⟨(Nat.le_of_ble_eq_true rfl), (Nat.le_of_ble_eq_true rfl)⟩) hS (fun q _ h => hFc q h) hFc (fun u t H locs ht hvm hw37 hB _ _ hS => ?_)
      obtain ⟨u38, rfl⟩ : ∃ z, z = u := ⟨_, rfl⟩
      obtain ⟨hT, hF1, m39, m40⟩ := hB
      rw [ht] at hT hF1 m39 m40
      have m42 := (hF1.fld hr_o0 skc_152 (k := 13) (by decide) (by decide)).trans hm_a0
      have hF := hF.more hF1 (by decide)
      try dsimp only at hw37
      obtain ⟨h49, hf50⟩ := hw37
      refine lv_aload_n hx hb dX4_readPart_29 rfl (lv_at hl 1 rfl) ?_
      refine lv_dup hx hb dX4_readPart_30 rfl ?_
      refine tw_getM (v := .int a0) hx hb hts bF2_X4 hown hK hT hr_o0 shc_152 rfl 13 (by decide) (ht_at2 hts 1 rfl) (fun _ h9 => h9) m42 dX4_readPart_31 ?_
      refine lv_iconst (v := 1) hx hb dX4_readPart_34 (by decide) ?_
      refine lv_iadd hx hb dX4_readPart_35 ?_
      refine lv_topi (fun x51 ex51 => ?_)
      have t52 : x51.toInt = a0.toInt + 1 := ti_add ex51 rfl (by decide) (by omega) (by omega)
      refine tw_put (v := .int x51) (ty := .int) hx hb hts bF2_X4 tyX4 tyX4_ok nmX4 hown hK hT hG hS hr_o0 shc_152 rfl 13 (by decide) (ht_at2 hts 1 rfl) (fun _ h9 => h9) rfl (by decide +kernel) rfl rfl (gl_at rfl (gi_of (show x51.toInt = x51.toInt from rfl) (by omega) (by omega))) dX4_readPart_36 (fun H locs hT oq m53 oj hS => ?_)
      have hF := hF.put hr_o0 skc_152 oq oj (by decide)
      have m59 := (oj 12 (by decide) (by decide)).trans m39
      have m60 := m40.kept (oq _ (gne hr_sp9 hr_o0 (by decide)))
      refine lv_iconst (v := 1) hx hb dX4_readPart_39 (by decide) ?_
      exact W.zret (v := 1) hx hb hr (by decide) (fun t ht hW => ⟨⟨1, (x51, u38, (cu vS s0.toNatClampNeg x2)), rfl, (by exact ⟨(by have q8 := ti_all x51; omega), (by have q8 := ti_all u38; omega), (rg_t (a := 1) (by decide) (by first | decide | omega) (by first | decide | omega)), (by omega), (by omega), (Or.inl ⟨by omega, by decide, (show pS x51.toNatClampNeg = X (pS a0.toNatClampNeg) from by rw [show x51.toNatClampNeg = a0.toNatClampNeg + 1 from by have := tn_of (show a0.toInt = a0.toInt from rfl) (by omega); have := tn_of (show x51.toInt = x51.toInt from rfl) (by omega); omega]; exact hXX _ (by have := tn_of (show a0.toInt = a0.toInt from rfl) (by omega); have := tn_of (show tn.toInt = tn.toInt from rfl) (by omega); omega))⟩), (zKp.rf.st (by have := tn_of (show s0.toInt = s0.toInt from rfl) (by omega); omega)), (fun _ => ⟨by omega, zC_1 (by have := tn_of (show s0.toInt = s0.toInt from rfl) (by omega); have := tn_of (show u38.toInt = u38.toInt from rfl) (by omega); omega) rfl (show x2.toInt = K (pS a0.toNatClampNeg) from by omega), (show pS x51.toNatClampNeg = X (pS a0.toNatClampNeg) from by rw [show x51.toNatClampNeg = a0.toNatClampNeg + 1 from by have := tn_of (show a0.toInt = a0.toInt from rfl) (by omega); have := tn_of (show x51.toInt = x51.toInt from rfl) (by omega); omega]; exact hXX _ (by have := tn_of (show a0.toInt = a0.toInt from rfl) (by omega); have := tn_of (show tn.toInt = tn.toInt from rfl) (by omega); omega))⟩)⟩), by (try dsimp only); rw [ht]; exact ⟨hT, hF, m53, m59, m60⟩⟩, hS.F ht⟩) hS.2.2 dX4_readPart_40
    · have t61 : x2.toInt < 40 := ti_nle c34 (by decide) rfl
      refine lv_iconst (v := 0) hx hb dX4_readPart_22 (by decide) ?_
      exact W.zret (v := 0) hx hb hr (by decide) (fun t ht hW => ⟨⟨0, (a0, s0, vS), rfl, (by exact ⟨(by have q8 := ti_all a0; omega), (by have q8 := ti_all s0; omega), (rg_t (a := 0) (by decide) (by first | decide | omega) (by first | decide | omega)), (by omega), (by omega), (Or.inr ⟨by omega, by decide, rfl⟩), zKp.rf, (fun h8 => absurd h8 (by decide))⟩), by (try dsimp only); rw [ht]; exact ⟨hT, hF, hm_a0, hm_s0, hc_vS⟩⟩, hS.F ht⟩) hS.2.2 dX4_readPart_23
def w_c_readSum : List Cond := .code yX4_readSum cX4_readSum 3 (some .boolean) :: (HAppend.hAppend (α := List Cond) (β := List Cond) (γ := List Cond) [.code yX4_readPart cX4_readPart 2 (some .boolean), .fieldLink RX4 11 "SeaLand$Law" "things" "[I", .fieldLink RX4 56 "SeaLand$Law" "at" "I", .code yX4_addStep cX4_addStep 2 none, .fieldLink RX4 63 "SeaLand$Law" "stepped" "I", .fieldLink RX4 39 "SeaLand$Law" "steps" "[I", .methodLink RX4 179 yX4_addStep, .instanceMethod yX4_addStep, .selects RX4 yX4_addStep yX4_addStep, .initialized RX4, .methodLink RX4 192 yX4_readPart, .instanceMethod yX4_readPart, .selects RX4 yX4_readPart yX4_readPart, .code yX4_take cX4_take 2 (some .boolean), .methodLink RX4 70 yX4_take, .instanceMethod yX4_take, .selects RX4 yX4_take yX4_take] bs2)
set_option maxHeartbeats 4000000 in
set_option maxRecDepth 100000 in
theorem c_readSum (l : Launch) (dC : Nat → ClassId) (dI : Nat → Nat → Nat) (kA : Nat → ClassId) (adK adV : Nat → Nat) (G : gT) (H0 : Heap) (nC nS : Int) (o0 : Nat) (th : Nat) (a0 : Int32) (s0 : Int32) (sp9 : Nat) (vT : Nat → Int32) (vS : Nat → Int32) (tv ix_tv : Int32) (tn : Int32) (K : Nat → Int) (X pS : Nat → Nat) (hT : gH (dC, dI) kA (SHc nC nS) G H0) (hr_o0 : G o0 = some 152) (hm_th : el H0 o0 (dI 7 0) = some (.ref th)) (hr_th : G th = some 153) (hm_a0 : el H0 o0 (dI 7 13) = some (.int a0)) (hm_s0 : el H0 o0 (dI 7 12) = some (.int s0)) (hm_sp9 : el H0 o0 (dI 7 9) = some (.ref sp9)) (hr_sp9 : G sp9 = some 162) (hq0 : 0 ≤ tn.toInt ∧ tn.toInt ≤ 400) (hq1 : 0 ≤ a0.toInt ∧ a0.toInt ≤ 400) (hat : a0.toInt ≤ tn.toInt) (hKK : ∀ m : Nat, m ≤ tn.toNatClampNeg → (vT m).toInt = K (pS m)) (hXX : ∀ m : Nat, m < tn.toNatClampNeg → pS (m + 1) = X (pS m)) (hq5 : 0 ≤ s0.toInt ∧ s0.toInt ≤ 400) (hsa : s0.toInt ≤ a0.toInt) (hc_vT : ct H0 th 401 vT) (hc_vS : ct H0 sp9 400 vS) (hx_tv : ix_tv.toInt = tn.toInt) (hm_tv : el H0 th ix_tv.toNatClampNeg = some (.int tv)) (hv_tv : 21 ≤ tv.toInt ∧ tv.toInt ≤ 21) (hgC : 0 ≤ nC ∧ nC ≤ 40) (hgS : 0 ≤ nS ∧ nS ≤ 60) : Met l yX4_readSum w_c_readSum ({ frames := 2, cells := 0, slots := 0, locals := 42 }) (va_Pc [.ref o0] (fun U => U.heap = H0 ∧ va_K (dC, dI) vwCl (tyl kA) U ∧ EVC adK adV (gA G H0.size) U U.heap)) (va_Qi (fun (r : Int32) (u : Int32 × Int32 × (Nat → Int32)) => match u with | (a1, s1, vS1) => (0 ≤ a1.toInt ∧ a1.toInt ≤ 400) ∧ (0 ≤ s1.toInt ∧ s1.toInt ≤ 400) ∧ (0 ≤ r.toInt ∧ r.toInt ≤ 1) ∧ (a0.toInt ≤ a1.toInt ∧ a1.toInt ≤ tn.toInt) ∧ (s0.toInt ≤ s1.toInt ∧ s1.toInt - s0.toInt ≤ a1.toInt - a0.toInt) ∧ (smR K X (pS a0.toNatClampNeg) r.toInt (pS a1.toNatClampNeg)) ∧ (zKp vS vS1 s0.toNatClampNeg) ∧ (r.toInt = 1 → zlZ K X (zpZ K X) 10 (pS a0.toNatClampNeg) (zC (tz vS1) s0.toNatClampNeg s1.toNatClampNeg) (pS a1.toNatClampNeg))) (fun (u : Int32 × Int32 × (Nat → Int32)) (t : State) => match u with | (a1, s1, vS1) => gH (dC, dI) kA (SHc nC nS) G t.heap ∧ gF (dC, dI) SKc G ([(152, 12), (152, 13), (162, 0)] : List (Nat × Nat)) H0 t.heap ∧ el t.heap o0 (dI 7 13) = some (.int a1) ∧ el t.heap o0 (dI 7 12) = some (.int s1) ∧ ct t.heap sp9 400 vS1) (gA G H0.size)) 0 0 (gA G H0.size) := by
  refine Met.ofW (cc := cX4_readSum) (maxL := 3) (ret := (some .boolean)) (by decide) rfl ?_
  intro p e s m args below meth c s₁ B hml hv
  obtain ⟨rfl, hH0, hK, hE⟩ := hv
  have hx := B.exec
  have hb := B.bytes
  have hr := B.returns
  have hts := atoms_spec (ws := w_c_readSum) B.pre
  have hown : s.vm.findClass RX4 = some m.cls := findClass_of_methodNamed B.named
  have hlocks := B.notSynchronized
  subst hH0
  generalize hAe : gA G s.heap.size = A at hE ⊢
  have hA : ∀ q : Nat, s.heap.size ≤ q → A q := fun q h => by rw [← hAe]; exact Or.inr h
  have hG := gA_of hAe
  have hS : va_S A s.heap s.heap [] := va_S.rf
  have hF : gF (dC, dI) SKc G ([(152, 12), (152, 13), (162, 0)] : List (Nat × Nat)) s.heap s.heap := gF.rf
  have hl := lv_entry ([.ref o0]) (n := 3) (Nat.le_of_ble_eq_true rfl)
  rw [lg_entry_eq]
  generalize (lg_sl ([.ref o0]) ++ List.replicate (3 - (lg_sl ([.ref o0])).length) Slot.unset).toArray = ls at hl ⊢
  have hl : lv_has ls 3 [(0, .ref o0)] := hl
  refine lv_aload_n hx hb dX4_readSum_0 rfl (lv_at hl 0 rfl) ?_
  have hFc := gA_free hG hA hS
  refine va_calli (va_runV (As := []) (rest := []) ⟨hx, hb, hml, hown, hts⟩ (c_readPart l dC dI kA adK adV G s.heap nC nS o0 th a0 s0 sp9 vT vS tv ix_tv ix_tv K X pS hT hr_o0 hm_th hr_th hm_a0 hm_s0 hm_sp9 hr_sp9 (by have q8 := ti_all ix_tv; omega) (by have q8 := ti_all a0; omega) (by have := (show a0.toInt = a0.toInt from rfl); have := (show ix_tv.toInt = ix_tv.toInt from rfl); omega) (fun m hm => hKK m (Nat.le_trans hm (Nat.le_of_eq (tn_same hx_tv rfl rfl)))) (fun m hm => hXX m (Nat.lt_of_lt_of_eq hm (tn_same hx_tv rfl rfl))) (by have q8 := ti_all s0; omega) (by have := (show s0.toInt = s0.toInt from rfl); have := (show a0.toInt = a0.toInt from rfl); omega) hc_vT hc_vS (by have q9 := (show ix_tv.toInt = ix_tv.toInt from rfl); have := (show ix_tv.toInt = ix_tv.toInt from rfl); omega) hm_tv (by have q8 := ti_all tv; omega) (by omega) (by omega)) (cwV 0 hts (goodIn_app (goodIn_r _ [11, 12, 13, 10] rfl (by decide +kernel)) (goodIn_ca (goodIn_r _ [1, 2, 3, 4, 5, 6, 7, 8, 9, 10] rfl (by decide +kernel)) (bs2_in _ _))) rfl rfl rfl (by decide +kernel) ⟨(Nat.le_of_ble_eq_true rfl), (Nat.le_of_ble_eq_true rfl)⟩) ⟨fun a U g mk q => by obtain ⟨q0, q1, qK, qE⟩ := q; exact ⟨q0, q1, va_K.moved (u := U) (U := U.calling g mk a) (Vm.Alike.refl U.vm) qK, EVC.blind g mk a qE⟩, gH_rc hK hT hr_o0 shc_152 rfl, fun U hU hW => ⟨rfl, hU, va_K.moved hW.alike hK, hE.call hS hFc hU hW⟩⟩ rfl rfl hl.1 rfl (lv_room (Nat.le_of_ble_eq_true rfl)) dX4_readSum_1 ⟨(Nat.le_of_ble_eq_true rfl), (Nat.le_of_ble_eq_true rfl)⟩) hS (fun q _ h => hFc q h) hFc (fun r1 u t H locs ht hvm hw2 hB _ _ hS => ?_)
  obtain ⟨u3, u4, u5⟩ := u
  obtain ⟨hT, hF1, m6, m7, m8⟩ := hB
  rw [ht] at hT hF1 m6 m7 m8
  have m9 := (hF1.fld hr_o0 skc_152 (k := 0) (by decide) (by decide)).trans hm_th
  have m12 := (hF1.fld hr_o0 skc_152 (k := 9) (by decide) (by decide)).trans hm_sp9
  have m13 := hc_vT.kept (hF1.arr hr_th skc_153 (by decide))
  have m15 := (el_kept (hF1.arr hr_th skc_153 (by decide))).trans hm_tv
  have hF := hF.more hF1 (by decide)
  try dsimp only at hw2
  obtain ⟨h16, h17, h18, hf19, hf20, hf21, hf22, hf23⟩ := hw2
  refine lv_istore_n (lv' := [(1, .int r1), (0, .ref o0)]) hx hb dX4_readSum_4 rfl hl (by decide) rfl (fun ls hl => ?_)
  refine lv_iconst (v := 0) hx hb dX4_readSum_5 (by decide) ?_
  refine lv_istore_n (lv' := [(2, .int 0), (1, .int r1), (0, .ref o0)]) hx hb dX4_readSum_6 rfl hl (by decide) rfl (fun ls hl => ?_)
  have key105 : ∀ (n105 i24 : Nat), i24 + n105 = 400 → 0 ≤ i24 → ∀ (z25 : Int32), ∀ (V28 : Nat → Int32), ∀ (z33 : Int32), ∀ (z36 : Int32), ((0 ≤ z25.toInt ∧ z25.toInt ≤ 1) ∧ (0 ≤ z33.toInt ∧ z33.toInt ≤ 400) ∧ (0 ≤ z36.toInt ∧ z36.toInt ≤ 400) ∧ (a0.toInt ≤ z33.toInt ∧ z33.toInt ≤ tn.toInt) ∧ (((z25.toInt = 1 ∧ ∀ (r : Int) (f : Nat), lpQ K X (pR K X) 10 (pS z33.toNatClampNeg) r f → smR K X (pS a0.toNatClampNeg) r f) ∨ (z25.toInt = 0 ∧ smR K X (pS a0.toNatClampNeg) 0 (pS z33.toNatClampNeg))) ∧ ((i24 : Nat) : Int) ≤ z33.toInt) ∧ (z25.toInt = 1 → zlI K X (zpZ K X) 10 (pS a0.toNatClampNeg) (zC (tz V28) s0.toNatClampNeg z36.toNatClampNeg) (pS z33.toNatClampNeg)) ∧ (zKp vS V28 s0.toNatClampNeg) ∧ (s0.toInt ≤ z36.toInt ∧ z36.toInt - s0.toInt ≤ z33.toInt - a0.toInt)) → ∀ (H : Heap) (locs : List Loc), gH (dC, dI) kA (SHc nC nS) G H → gF (dC, dI) SKc G ([(152, 12), (152, 13), (162, 0)] : List (Nat × Nat)) s.heap H → va_S A s.heap H locs → ct H th 401 vT → ct H sp9 400 V28 → el H o0 (dI 7 0) = some (.ref th) → el H o0 (dI 7 9) = some (.ref sp9) → el H th ix_tv.toNatClampNeg = some (.int tv) → el H o0 (dI 7 13) = some (.int z33) → el H o0 (dI 7 12) = some (.int z36) → ∀ ls : Array Slot, lv_has ls 3 [(2, .int (nI i24)), (1, .int z25), (0, .ref o0)] → W p l e (headSpec w_c_readSum ({ frames := 2, cells := 0, slots := 0, locals := 42 })).room s m #[.ref o0] below meth c H locs 0 0 (MQ below (va_Qi (fun (r : Int32) (u : Int32 × Int32 × (Nat → Int32)) => match u with | (a1, s1, vS1) => (0 ≤ a1.toInt ∧ a1.toInt ≤ 400) ∧ (0 ≤ s1.toInt ∧ s1.toInt ≤ 400) ∧ (0 ≤ r.toInt ∧ r.toInt ≤ 1) ∧ (a0.toInt ≤ a1.toInt ∧ a1.toInt ≤ tn.toInt) ∧ (s0.toInt ≤ s1.toInt ∧ s1.toInt - s0.toInt ≤ a1.toInt - a0.toInt) ∧ (smR K X (pS a0.toNatClampNeg) r.toInt (pS a1.toNatClampNeg)) ∧ (zKp vS vS1 s0.toNatClampNeg) ∧ (r.toInt = 1 → zlZ K X (zpZ K X) 10 (pS a0.toNatClampNeg) (zC (tz vS1) s0.toNatClampNeg s1.toNatClampNeg) (pS a1.toNatClampNeg))) (fun (u : Int32 × Int32 × (Nat → Int32)) (t : State) => match u with | (a1, s1, vS1) => gH (dC, dI) kA (SHc nC nS) G t.heap ∧ gF (dC, dI) SKc G ([(152, 12), (152, 13), (162, 0)] : List (Nat × Nat)) s.heap t.heap ∧ el t.heap o0 (dI 7 13) = some (.int a1) ∧ el t.heap o0 (dI 7 12) = some (.int s1) ∧ ct t.heap sp9 400 vS1) A) #[.ref o0] s 0 0 A) (F0 m 7 ls []) := by
    intro n105
    induction n105 with
    | zero =>
      intro i24 hn105 hlo106 z25 V28 z33 z36 ⟨h26, h34, h37, hj39, hj40, hj41, hj42, hj43⟩ H locs hT hF hS m27 m29 m30 m31 m32 m35 m38 ls hl
      obtain rfl : 400 = i24 := by omega
      refine lv_iload_n hx hb dX4_readSum_7 rfl (lv_at hl 0 rfl) ?_
      refine lv_sipush (v := 400) hx hb dX4_readSum_8 (by decide) ?_
      refine lv_icmp_ge (tgt := 44) hx hb dX4_readSum_11 (by decide) (fun c107 => ?_) (fun c107 => (by exfalso; have q9 : ((400 : Nat) : Int) < 400 := ti_nle c107 (by decide) (nI_toInt (by omega)); omega))
      have t108 : 400 ≤ ((400 : Nat) : Int) := ti_le c107 (by decide) (nI_toInt (by omega))
      refine lv_iload_n hx hb dX4_readSum_44 rfl (lv_at hl 1 rfl) ?_
      exact W.zret (v := z25) hx hb hr (nar_b (by have q8 := ti_all z25; omega)) (fun t ht hW => ⟨⟨z25, (z33, z36, V28), rfl, (by exact ⟨(by have q8 := ti_all z33; omega), (by have q8 := ti_all z36; omega), (by have q8 := ti_all z25; omega), (by omega), (by omega), (by rcases hj40.1 with ⟨h8, l9⟩ | ⟨h8, l9⟩; (rw [h8]; exact lp_e l9 (fun h7 => by have := tn_of (show z33.toInt = z33.toInt from rfl) (by omega); have := tn_of (show tn.toInt = tn.toInt from rfl) (by omega); have k9 := hKK tn.toNatClampNeg (Nat.le_refl _); have e9 := hc_vT.at hm_tv (by have q9 := tn_of hx_tv (by omega); omega); have k8 : (vT tn.toNatClampNeg).toInt = 21 := (by have q8 := congrArg Int32.toInt e9; rw [show ix_tv.toNatClampNeg = tn.toNatClampNeg from tn_same hx_tv rfl rfl] at q8; omega); rw [show z33.toNatClampNeg = tn.toNatClampNeg from by omega] at h7; omega)); rw [h8]; exact l9), hj42, (fun h8 => ⟨hj41 h8, fun h7 => by have := tn_of (show z33.toInt = z33.toInt from rfl) (by omega); have := tn_of (show tn.toInt = tn.toInt from rfl) (by omega); have k9 := hKK tn.toNatClampNeg (Nat.le_refl _); have e9 := hc_vT.at hm_tv (by have q9 := tn_of hx_tv (by omega); omega); have k8 : (vT tn.toNatClampNeg).toInt = 21 := (by have q8 := congrArg Int32.toInt e9; rw [show ix_tv.toNatClampNeg = tn.toNatClampNeg from tn_same hx_tv rfl rfl] at q8; omega); rw [show z33.toNatClampNeg = tn.toNatClampNeg from by omega] at h7; omega⟩)⟩), by (try dsimp only); rw [ht]; exact ⟨hT, hF, m35, m38, m29⟩⟩, hS.F ht⟩) hS.2.2 dX4_readSum_45
    | succ n105 ih105 =>
      intro i24 hn105 hlo106 z25 V28 z33 z36 ⟨h26, h34, h37, hj39, hj40, hj41, hj42, hj43⟩ H locs hT hF hS m27 m29 m30 m31 m32 m35 m38 ls hl
      have hlt108 : i24 < 400 := by omega
      refine lv_iload_n hx hb dX4_readSum_7 rfl (lv_at hl 0 rfl) ?_
      refine lv_sipush (v := 400) hx hb dX4_readSum_8 (by decide) ?_
      refine lv_icmp_ge (tgt := 44) hx hb dX4_readSum_11 (by decide) (fun c109 => (by exfalso; have q9 : 400 ≤ ((i24 : Nat) : Int) := ti_le c109 (by decide) (nI_toInt (by omega)); omega)) (fun c109 => ?_)
      have t110 : ((i24 : Nat) : Int) < 400 := ti_nle c109 (by decide) (nI_toInt (by omega))
      refine lv_iload_n hx hb dX4_readSum_14 rfl (lv_at hl 1 rfl) ?_
      refine lv_if_eq (tgt := 44) hx hb dX4_readSum_15 (by decide) (fun c111 => ?_) (fun c111 => ?_)
      · have t112 : z25.toInt = 0 := ti_eq c111 rfl (by decide)
        refine lv_iload_n hx hb dX4_readSum_44 rfl (lv_at hl 1 rfl) ?_
        exact W.zret (v := z25) hx hb hr (nar_b (by have q8 := ti_all z25; omega)) (fun t ht hW => ⟨⟨z25, (z33, z36, V28), rfl, (by exact ⟨(by have q8 := ti_all z33; omega), (by have q8 := ti_all z36; omega), (by have q8 := ti_all z25; omega), (by omega), (by omega), (by rcases hj40.1 with ⟨h8, l9⟩ | ⟨h8, l9⟩; (rw [h8]; exact lp_e l9 (fun h7 => by have := tn_of (show z33.toInt = z33.toInt from rfl) (by omega); have := tn_of (show tn.toInt = tn.toInt from rfl) (by omega); have k9 := hKK tn.toNatClampNeg (Nat.le_refl _); have e9 := hc_vT.at hm_tv (by have q9 := tn_of hx_tv (by omega); omega); have k8 : (vT tn.toNatClampNeg).toInt = 21 := (by have q8 := congrArg Int32.toInt e9; rw [show ix_tv.toNatClampNeg = tn.toNatClampNeg from tn_same hx_tv rfl rfl] at q8; omega); rw [show z33.toNatClampNeg = tn.toNatClampNeg from by omega] at h7; omega)); rw [h8]; exact l9), hj42, (fun h8 => ⟨hj41 h8, fun h7 => by have := tn_of (show z33.toInt = z33.toInt from rfl) (by omega); have := tn_of (show tn.toInt = tn.toInt from rfl) (by omega); have k9 := hKK tn.toNatClampNeg (Nat.le_refl _); have e9 := hc_vT.at hm_tv (by have q9 := tn_of hx_tv (by omega); omega); have k8 : (vT tn.toNatClampNeg).toInt = 21 := (by have q8 := congrArg Int32.toInt e9; rw [show ix_tv.toNatClampNeg = tn.toNatClampNeg from tn_same hx_tv rfl rfl] at q8; omega); rw [show z33.toNatClampNeg = tn.toNatClampNeg from by omega] at h7; omega⟩)⟩), by (try dsimp only); rw [ht]; exact ⟨hT, hF, m35, m38, m29⟩⟩, hS.F ht⟩) hS.2.2 dX4_readSum_45
      · have t113 : z25.toInt ≠ 0 := ti_ne c111 rfl (by decide)
        refine lv_aload_n hx hb dX4_readSum_18 rfl (lv_at hl 2 rfl) ?_
        refine lv_bipush (v := 10) hx hb dX4_readSum_19 (by decide) ?_
        have hFc := gA_free hG hA hS
        refine va_calli (va_runV (As := [.int 10]) (rest := []) ⟨hx, hb, hml, hown, hts⟩ (c_take l dC dI kA adK adV G H nC nS o0 10 th z33 vT tv ix_tv ix_tv K X pS hT hr_o0 m30 hr_th m35 (by have q8 := ti_all ix_tv; omega) (by have q8 := ti_all z33; omega) (by have := (show z33.toInt = z33.toInt from rfl); have := (show ix_tv.toInt = ix_tv.toInt from rfl); omega) (by have := (show (10 : Int32).toInt = 10 from (by decide)); omega) (fun m hm => hKK m (Nat.le_trans hm (Nat.le_of_eq (tn_same hx_tv rfl rfl)))) (fun m hm => hXX m (Nat.lt_of_lt_of_eq hm (tn_same hx_tv rfl rfl))) m27 (by have q9 := (show ix_tv.toInt = ix_tv.toInt from rfl); have := (show ix_tv.toInt = ix_tv.toInt from rfl); omega) m32 (by have q8 := ti_all tv; omega) (by omega) (by omega)) (cwV 1 hts (goodIn_app (goodIn_r _ [15, 16, 17, 10] rfl (by decide +kernel)) (goodIn_ca (goodIn_r _ [14, 2, 3] rfl (by decide +kernel)) (bs2_in _ _))) rfl rfl rfl (by decide +kernel) ⟨(Nat.le_of_ble_eq_true rfl), (Nat.le_of_ble_eq_true rfl)⟩) ⟨fun a U g mk q => by obtain ⟨q0, q1, qK, qE⟩ := q; exact ⟨q0, q1, va_K.moved (u := U) (U := U.calling g mk a) (Vm.Alike.refl U.vm) qK, EVC.blind g mk a qE⟩, gH_rc hK hT hr_o0 shc_152 rfl, fun U hU hW => ⟨rfl, hU, va_K.moved hW.alike hK, hE.call hS hFc hU hW⟩⟩ rfl rfl hl.1 rfl (lv_room (Nat.le_of_ble_eq_true rfl)) dX4_readSum_21 ⟨(Nat.le_of_ble_eq_true rfl), (Nat.le_of_ble_eq_true rfl)⟩) hS (fun q _ h => hFc q h) hFc (fun r114 u t H locs ht hvm hw115 hB _ _ hS => ?_)
        obtain ⟨u116, rfl⟩ : ∃ z, z = u := ⟨_, rfl⟩
        obtain ⟨hT, hF1, m117⟩ := hB
        rw [ht] at hT hF1 m117
        have m118 := m27.kept (hF1.arr hr_th skc_153 (by decide))
        have m119 := m29.kept (hF1.arr hr_sp9 skc_162 (by decide))
        have m120 := (hF1.fld hr_o0 skc_152 (k := 0) (by decide) (by decide)).trans m30
        have m121 := (hF1.fld hr_o0 skc_152 (k := 9) (by decide) (by decide)).trans m31
        have m122 := (el_kept (hF1.arr hr_th skc_153 (by decide))).trans m32
        have m124 := (hF1.fld hr_o0 skc_152 (k := 12) (by decide) (by decide)).trans m38
        have hF := hF.more hF1 (by decide)
        try dsimp only at hw115
        obtain ⟨h125, h126, hf127, hf128, hf129⟩ := hw115
        refine lv_if_eq (tgt := 44) hx hb dX4_readSum_24 (by decide) (fun c130 => ?_) (fun c130 => ?_)
        · have t131 : r114.toInt = 0 := ti_eq c130 rfl (by decide)
          refine lv_iload_n hx hb dX4_readSum_44 rfl (lv_at hl 1 rfl) ?_
          exact W.zret (v := z25) hx hb hr (nar_b (by have q8 := ti_all z25; omega)) (fun t ht hW => ⟨⟨z25, (u116, z36, V28), rfl, (by exact ⟨(by have q8 := ti_all u116; omega), (by have q8 := ti_all z36; omega), (by have q8 := ti_all z25; omega), (by omega), (by omega), (by have l9 := (hj40.1.resolve_right (fun h8 => by have := h8.1; omega)).2; have a9 := hf128.resolve_left (fun h8 => by have := h8.2.1; omega); rw [show z25.toInt = 1 from by omega, a9.2.2]; exact lp_e l9 (fun h7 => a9.1 (h7.trans (by decide)))), hj42, (fun h8 => ⟨by (try dsimp only); have a9 := hf128.resolve_left (fun h8 => by have := h8.2.1; omega); rw [a9.2.2]; exact hj41 h8, by (try dsimp only); have a9 := hf128.resolve_left (fun h8 => by have := h8.2.1; omega); rw [a9.2.2]; exact fun h7 => a9.1 (h7.trans (by decide))⟩)⟩), by (try dsimp only); rw [ht]; exact ⟨hT, hF, m117, m124, m119⟩⟩, hS.F ht⟩) hS.2.2 dX4_readSum_45
        · have t132 : r114.toInt ≠ 0 := ti_ne c130 rfl (by decide)
          refine lv_aload_n hx hb dX4_readSum_27 rfl (lv_at hl 2 rfl) ?_
          have hFc := gA_free hG hA hS
          refine va_calli (va_runV (As := []) (rest := []) ⟨hx, hb, hml, hown, hts⟩ (c_readPart l dC dI kA adK adV G H nC nS o0 th u116 z36 sp9 vT V28 tv ix_tv ix_tv K X pS hT hr_o0 m120 hr_th m117 m124 m121 hr_sp9 (by have q8 := ti_all ix_tv; omega) (by have q8 := ti_all u116; omega) (by have := (show u116.toInt = u116.toInt from rfl); have := (show ix_tv.toInt = ix_tv.toInt from rfl); omega) (fun m hm => hKK m (Nat.le_trans hm (Nat.le_of_eq (tn_same hx_tv rfl rfl)))) (fun m hm => hXX m (Nat.lt_of_lt_of_eq hm (tn_same hx_tv rfl rfl))) (by have q8 := ti_all z36; omega) (by have := (show z36.toInt = z36.toInt from rfl); have := (show u116.toInt = u116.toInt from rfl); omega) m118 m119 (by have q9 := (show ix_tv.toInt = ix_tv.toInt from rfl); have := (show ix_tv.toInt = ix_tv.toInt from rfl); omega) m122 (by have q8 := ti_all tv; omega) (by omega) (by omega)) (cwV 0 hts (goodIn_app (goodIn_r _ [11, 12, 13, 10] rfl (by decide +kernel)) (goodIn_ca (goodIn_r _ [1, 2, 3, 4, 5, 6, 7, 8, 9, 10] rfl (by decide +kernel)) (bs2_in _ _))) rfl rfl rfl (by decide +kernel) ⟨(Nat.le_of_ble_eq_true rfl), (Nat.le_of_ble_eq_true rfl)⟩) ⟨fun a U g mk q => by obtain ⟨q0, q1, qK, qE⟩ := q; exact ⟨q0, q1, va_K.moved (u := U) (U := U.calling g mk a) (Vm.Alike.refl U.vm) qK, EVC.blind g mk a qE⟩, gH_rc hK hT hr_o0 shc_152 rfl, fun U hU hW => ⟨rfl, hU, va_K.moved hW.alike hK, hE.call hS hFc hU hW⟩⟩ rfl rfl hl.1 rfl (lv_room (Nat.le_of_ble_eq_true rfl)) dX4_readSum_28 ⟨(Nat.le_of_ble_eq_true rfl), (Nat.le_of_ble_eq_true rfl)⟩) hS (fun q _ h => hFc q h) hFc (fun r133 u t H locs ht hvm hw134 hB _ _ hS => ?_)
          obtain ⟨u135, u136, u137⟩ := u
          obtain ⟨hT, hF1, m138, m139, m140⟩ := hB
          rw [ht] at hT hF1 m138 m139 m140
          have m141 := m118.kept (hF1.arr hr_th skc_153 (by decide))
          have m143 := (hF1.fld hr_o0 skc_152 (k := 0) (by decide) (by decide)).trans m120
          have m144 := (hF1.fld hr_o0 skc_152 (k := 9) (by decide) (by decide)).trans m121
          have m145 := (el_kept (hF1.arr hr_th skc_153 (by decide))).trans m122
          have hF := hF.more hF1 (by decide)
          try dsimp only at hw134
          obtain ⟨h148, h149, h150, hf151, hf152, hf153, hf154, hf155⟩ := hw134
          refine lv_istore_n (lv' := [(1, .int r133), (2, .int (nI i24)), (0, .ref o0)]) hx hb dX4_readSum_31 rfl hl (by decide) rfl (fun ls hl => ?_)
          refine lv_aload_n hx hb dX4_readSum_32 rfl (lv_at hl 2 rfl) ?_
          refine lv_bipush (v := 10) hx hb dX4_readSum_33 (by decide) ?_
          have hFc := gA_free hG hA hS
          refine va_callv (va_runV (As := [.int 10]) (rest := []) ⟨hx, hb, hml, hown, hts⟩ (c_addStep l dC dI kA adK adV G H nC nS o0 10 u136 sp9 u137 hT hr_o0 m139 m144 hr_sp9 (rg_t (a := 10) (by decide) (by first | decide | omega) (by first | decide | omega)) (by have q8 := ti_all u136; omega) m140 (by omega) (by omega)) (cwV 1 hts (goodIn_app (goodIn_r _ [7, 8, 9, 10] rfl (by decide +kernel)) (goodIn_ca (goodIn_r _ [4, 5, 6] rfl (by decide +kernel)) (bs2_in _ _))) rfl rfl rfl (by decide +kernel) ⟨(Nat.le_of_ble_eq_true rfl), (Nat.le_of_ble_eq_true rfl)⟩) ⟨fun a U g mk q => by obtain ⟨q0, q1, qK, qE⟩ := q; exact ⟨q0, q1, va_K.moved (u := U) (U := U.calling g mk a) (Vm.Alike.refl U.vm) qK, EVC.blind g mk a qE⟩, gH_rc hK hT hr_o0 shc_152 rfl, fun U hU hW => ⟨rfl, hU, va_K.moved hW.alike hK, hE.call hS hFc hU hW⟩⟩ rfl rfl hl.1 rfl (lv_room (Nat.le_of_ble_eq_true rfl)) dX4_readSum_35 ⟨(Nat.le_of_ble_eq_true rfl), (Nat.le_of_ble_eq_true rfl)⟩) hS (fun q _ h => hFc q h) hFc (fun u t H locs ht hvm hw157 hB _ _ hS => ?_)
          obtain ⟨u158, rfl⟩ : ∃ z, z = u := ⟨_, rfl⟩
          obtain ⟨hT, hF1, m159, m160⟩ := hB
          rw [ht] at hT hF1 m159 m160
          have m161 := m141.kept (hF1.arr hr_th skc_153 (by decide))
          have m162 := (hF1.fld hr_o0 skc_152 (k := 0) (by decide) (by decide)).trans m143
          have m163 := (hF1.fld hr_o0 skc_152 (k := 9) (by decide) (by decide)).trans m144
          have m164 := (el_kept (hF1.arr hr_th skc_153 (by decide))).trans m145
          have m165 := (hF1.fld hr_o0 skc_152 (k := 13) (by decide) (by decide)).trans m138
          have hF := hF.more hF1 (by decide)
          try dsimp only at hw157
          obtain ⟨h168, hf169⟩ := hw157
          refine lv_iinc (v := nI (i24 + 1)) (lv' := [(2, .int (nI (i24 + 1))), (1, .int r133), (0, .ref o0)]) hx hb dX4_readSum_38 hl (k := 1) rfl (nI_add i24 1) (by decide) rfl (fun ls hl => ?_)
          refine lv_goto (tgt := 7) hx hb dX4_readSum_41 (by decide) ?_
          exact ih105 (i24 + 1) (by omega) (by omega) r133 (cu u137 u136.toNatClampNeg 10) u135 u158 ⟨(by have q8 := ti_all r133; omega), (by have q8 := ti_all u135; omega), (by have q8 := ti_all u158; omega), (by have := hx_tv; have := (show u135.toInt = u135.toInt from rfl); omega), ⟨(by have l9 := (hj40.1.resolve_right (fun h8 => by have := h8.1; omega)).2; have a9 := hf128.resolve_right (fun h8 => by have := h8.2.1; omega); have h9 := hf153; rw [a9.2.2] at h9; rcases (show r133.toInt = 1 ∨ r133.toInt = 0 by omega) with h8 | h8 <;> rw [h8] at h9; (exact Or.inl ⟨h8, lp_s l9 (a9.1.trans (by decide)) h9⟩); exact Or.inr ⟨h8, lp_f l9 (a9.1.trans (by decide)) h9⟩), by omega⟩, (fun h8 => by have := tn_of (show s0.toInt = s0.toInt from rfl) (by omega); have := tn_of (show z36.toInt = z36.toInt from rfl) (by omega); have := tn_of (show u136.toInt = u136.toInt from rfl) (by omega); have := tn_of (show u158.toInt = u158.toInt from rfl) (by omega); have l9 := hj41 (by omega); have a9 := hf128.resolve_right (fun h8 => by have := h8.2.1; omega); have h9 := hf155 h8; rw [a9.2.2] at h9; rw [zC_3 (sx := z36.toNatClampNeg) (s2 := u136.toNatClampNeg) (c := 10) (by omega) (by omega) hf154 (by omega) rfl (by decide)]; exact zlI_s l9 (a9.1.trans (by decide)) h9), ((hj42.tr hf154 (by have := tn_of (show s0.toInt = s0.toInt from rfl) (by omega); have := tn_of (show z36.toInt = z36.toInt from rfl) (by omega); omega)).st (by have := tn_of (show s0.toInt = s0.toInt from rfl) (by omega); have := tn_of (show u136.toInt = u136.toInt from rfl) (by omega); omega)), (by have := (show u158.toInt = u158.toInt from rfl); have := (show u135.toInt = u135.toInt from rfl); omega)⟩ _ _ hT hF hS m161 m160 m162 m163 m164 m165 m159 ls (lv_sub hl [0, 1, 2] rfl)
  exact key105 (400 - 0) 0 (by omega) (Nat.le_refl _) r1 u5 u3 u4 ⟨(by have q8 := ti_all r1; omega), (by have q8 := ti_all u3; omega), (by have q8 := ti_all u4; omega), (by have := hx_tv; have := (show u3.toInt = u3.toInt from rfl); omega), ⟨(by have h9 := hf21; rcases (show r1.toInt = 1 ∨ r1.toInt = 0 by omega) with h8 | h8 <;> rw [h8] at h9; (exact Or.inl ⟨h8, lp_1 h9⟩); exact Or.inr ⟨h8, lp_0 h9⟩), by omega⟩, (fun h8 => zlI_0 (hf23 h8)), (zKp.rf.tr hf22 (by have := tn_of (show s0.toInt = s0.toInt from rfl) (by omega); omega)), (by have := (show u4.toInt = u4.toInt from rfl); have := (show u3.toInt = u3.toInt from rfl); omega)⟩ _ _ hT hF hS m13 m8 m9 m12 m15 m6 m7 ls (lv_sub hl [0, 1, 2] rfl)
def w_c_readComparison : List Cond := .code yX4_readComparison cX4_readComparison 3 (some .boolean) :: (HAppend.hAppend (α := List Cond) (β := List Cond) (γ := List Cond) [.code yX4_readSum cX4_readSum 3 (some .boolean), .code yX4_readPart cX4_readPart 2 (some .boolean), .fieldLink RX4 11 "SeaLand$Law" "things" "[I", .fieldLink RX4 56 "SeaLand$Law" "at" "I", .code yX4_addStep cX4_addStep 2 none, .fieldLink RX4 63 "SeaLand$Law" "stepped" "I", .fieldLink RX4 39 "SeaLand$Law" "steps" "[I", .methodLink RX4 179 yX4_addStep, .instanceMethod yX4_addStep, .selects RX4 yX4_addStep yX4_addStep, .initialized RX4, .methodLink RX4 192 yX4_readPart, .instanceMethod yX4_readPart, .selects RX4 yX4_readPart yX4_readPart, .code yX4_take cX4_take 2 (some .boolean), .methodLink RX4 70 yX4_take, .instanceMethod yX4_take, .selects RX4 yX4_take yX4_take, .methodLink RX4 189 yX4_readSum, .instanceMethod yX4_readSum, .selects RX4 yX4_readSum yX4_readSum] bs2)
set_option maxHeartbeats 4000000 in
set_option maxRecDepth 100000 in
theorem c_readComparison (l : Launch) (dC : Nat → ClassId) (dI : Nat → Nat → Nat) (kA : Nat → ClassId) (adK adV : Nat → Nat) (G : gT) (H0 : Heap) (nC nS : Int) (o0 : Nat) (th : Nat) (a0 : Int32) (s0 : Int32) (sp9 : Nat) (vT : Nat → Int32) (vS : Nat → Int32) (tv ix_tv : Int32) (tn : Int32) (K : Nat → Int) (X pS : Nat → Nat) (hT : gH (dC, dI) kA (SHc nC nS) G H0) (hr_o0 : G o0 = some 152) (hm_th : el H0 o0 (dI 7 0) = some (.ref th)) (hr_th : G th = some 153) (hm_a0 : el H0 o0 (dI 7 13) = some (.int a0)) (hm_s0 : el H0 o0 (dI 7 12) = some (.int s0)) (hm_sp9 : el H0 o0 (dI 7 9) = some (.ref sp9)) (hr_sp9 : G sp9 = some 162) (hq0 : 0 ≤ tn.toInt ∧ tn.toInt ≤ 400) (hq1 : 0 ≤ a0.toInt ∧ a0.toInt ≤ 400) (hat : a0.toInt ≤ tn.toInt) (hKK : ∀ m : Nat, m ≤ tn.toNatClampNeg → (vT m).toInt = K (pS m)) (hXX : ∀ m : Nat, m < tn.toNatClampNeg → pS (m + 1) = X (pS m)) (hq5 : 0 ≤ s0.toInt ∧ s0.toInt ≤ 400) (hsa : s0.toInt ≤ a0.toInt) (hc_vT : ct H0 th 401 vT) (hc_vS : ct H0 sp9 400 vS) (hx_tv : ix_tv.toInt = tn.toInt) (hm_tv : el H0 th ix_tv.toNatClampNeg = some (.int tv)) (hv_tv : 21 ≤ tv.toInt ∧ tv.toInt ≤ 21) (hgC : 0 ≤ nC ∧ nC ≤ 40) (hgS : 0 ≤ nS ∧ nS ≤ 60) : Met l yX4_readComparison w_c_readComparison ({ frames := 3, cells := 0, slots := 0, locals := 64 }) (va_Pc [.ref o0] (fun U => U.heap = H0 ∧ va_K (dC, dI) vwCl (tyl kA) U ∧ EVC adK adV (gA G H0.size) U U.heap)) (va_Qi (fun (r : Int32) (u : Int32 × Int32 × (Nat → Int32)) => match u with | (a1, s1, vS1) => (0 ≤ a1.toInt ∧ a1.toInt ≤ 400) ∧ (0 ≤ s1.toInt ∧ s1.toInt ≤ 400) ∧ (0 ≤ r.toInt ∧ r.toInt ≤ 1) ∧ (a0.toInt ≤ a1.toInt ∧ a1.toInt ≤ tn.toInt) ∧ (s0.toInt ≤ s1.toInt ∧ s1.toInt - s0.toInt ≤ a1.toInt - a0.toInt) ∧ (cmR K X (pS a0.toNatClampNeg) r.toInt (pS a1.toNatClampNeg)) ∧ (zKp vS vS1 s0.toNatClampNeg) ∧ (r.toInt = 1 → zcZ K X (pS a0.toNatClampNeg) (zC (tz vS1) s0.toNatClampNeg s1.toNatClampNeg) (pS a1.toNatClampNeg))) (fun (u : Int32 × Int32 × (Nat → Int32)) (t : State) => match u with | (a1, s1, vS1) => gH (dC, dI) kA (SHc nC nS) G t.heap ∧ gF (dC, dI) SKc G ([(152, 12), (152, 13), (162, 0)] : List (Nat × Nat)) H0 t.heap ∧ el t.heap o0 (dI 7 13) = some (.int a1) ∧ el t.heap o0 (dI 7 12) = some (.int s1) ∧ ct t.heap sp9 400 vS1) (gA G H0.size)) 0 0 (gA G H0.size) := by
  refine Met.ofW (cc := cX4_readComparison) (maxL := 3) (ret := (some .boolean)) (by decide) rfl ?_
  intro p e s m args below meth c s₁ B hml hv
  obtain ⟨rfl, hH0, hK, hE⟩ := hv
  have hx := B.exec
  have hb := B.bytes
  have hr := B.returns
  have hts := atoms_spec (ws := w_c_readComparison) B.pre
  have hown : s.vm.findClass RX4 = some m.cls := findClass_of_methodNamed B.named
  have hlocks := B.notSynchronized
  subst hH0
  generalize hAe : gA G s.heap.size = A at hE ⊢
  have hA : ∀ q : Nat, s.heap.size ≤ q → A q := fun q h => by rw [← hAe]; exact Or.inr h
  have hG := gA_of hAe
  have hS : va_S A s.heap s.heap [] := va_S.rf
  have hF : gF (dC, dI) SKc G ([(152, 12), (152, 13), (162, 0)] : List (Nat × Nat)) s.heap s.heap := gF.rf
  have hl := lv_entry ([.ref o0]) (n := 3) (Nat.le_of_ble_eq_true rfl)
  rw [lg_entry_eq]
  generalize (lg_sl ([.ref o0]) ++ List.replicate (3 - (lg_sl ([.ref o0])).length) Slot.unset).toArray = ls at hl ⊢
  have hl : lv_has ls 3 [(0, .ref o0)] := hl
  refine lv_aload_n hx hb dX4_readComparison_0 rfl (lv_at hl 0 rfl) ?_
  have hFc := gA_free hG hA hS
  refine va_calli (va_runV (As := []) (rest := []) ⟨hx, hb, hml, hown, hts⟩ (c_readSum l dC dI kA adK adV G s.heap nC nS o0 th a0 s0 sp9 vT vS tv ix_tv ix_tv K X pS hT hr_o0 hm_th hr_th hm_a0 hm_s0 hm_sp9 hr_sp9 (by have q8 := ti_all ix_tv; omega) (by have q8 := ti_all a0; omega) (by have := (show a0.toInt = a0.toInt from rfl); have := (show ix_tv.toInt = ix_tv.toInt from rfl); omega) (fun m hm => hKK m (Nat.le_trans hm (Nat.le_of_eq (tn_same hx_tv rfl rfl)))) (fun m hm => hXX m (Nat.lt_of_lt_of_eq hm (tn_same hx_tv rfl rfl))) (by have q8 := ti_all s0; omega) (by have := (show s0.toInt = s0.toInt from rfl); have := (show a0.toInt = a0.toInt from rfl); omega) hc_vT hc_vS (by have q9 := (show ix_tv.toInt = ix_tv.toInt from rfl); have := (show ix_tv.toInt = ix_tv.toInt from rfl); omega) hm_tv (by have q8 := ti_all tv; omega) (by omega) (by omega)) (cwV 0 hts (goodIn_app (goodIn_r _ [19, 20, 21, 11] rfl (by decide +kernel)) (goodIn_ca (goodIn_r _ [1, 2, 3, 4, 5, 6, 7, 8, 9, 10, 11, 12, 13, 14, 15, 16, 17, 18] rfl (by decide +kernel)) (bs2_in _ _))) rfl rfl rfl (by decide +kernel) ⟨(Nat.le_of_ble_eq_true rfl), (Nat.le_of_ble_eq_true rfl)⟩) ⟨fun a U g mk q => by obtain ⟨q0, q1, qK, qE⟩ := q; exact ⟨q0, q1, va_K.moved (u := U) (U := U.calling g mk a) (Vm.Alike.refl U.vm) qK, EVC.blind g mk a qE⟩, gH_rc hK hT hr_o0 shc_152 rfl, fun U hU hW => ⟨rfl, hU, va_K.moved hW.alike hK, hE.call hS hFc hU hW⟩⟩ rfl rfl hl.1 rfl (lv_room (Nat.le_of_ble_eq_true rfl)) dX4_readComparison_1 ⟨(Nat.le_of_ble_eq_true rfl), (Nat.le_of_ble_eq_true rfl)⟩) hS (fun q _ h => hFc q h) hFc (fun r1 u t H locs ht hvm hw2 hB _ _ hS => ?_)
  obtain ⟨u3, u4, u5⟩ := u
  obtain ⟨hT, hF1, m6, m7, m8⟩ := hB
  rw [ht] at hT hF1 m6 m7 m8
  have m9 := (hF1.fld hr_o0 skc_152 (k := 0) (by decide) (by decide)).trans hm_th
  have m12 := (hF1.fld hr_o0 skc_152 (k := 9) (by decide) (by decide)).trans hm_sp9
  have m13 := hc_vT.kept (hF1.arr hr_th skc_153 (by decide))
  have m15 := (el_kept (hF1.arr hr_th skc_153 (by decide))).trans hm_tv
  have hF := hF.more hF1 (by decide)
  try dsimp only at hw2
  obtain ⟨h16, h17, h18, hf19, hf20, hf21, hf22, hf23⟩ := hw2
  refine lv_if_ne (tgt := 9) hx hb dX4_readComparison_4 (by decide) (fun c24 => ?_) (fun c24 => ?_)
  · have t25 : r1.toInt ≠ 0 := ti_ne c24 rfl (by decide)
    refine lv_aload_n hx hb dX4_readComparison_9 rfl (lv_at hl 0 rfl) ?_
    refine tw_getM (v := .ref th) hx hb hts bF2_X4 hown hK hT hr_o0 shc_152 rfl 0 (by decide) (ht_at2 hts 2 rfl) (fun _ h9 => h9) m9 dX4_readComparison_10 ?_
    refine lv_aload_n hx hb dX4_readComparison_13 rfl (lv_at hl 0 rfl) ?_
    refine tw_getM (v := .int u3) hx hb hts bF2_X4 hown hK hT hr_o0 shc_152 rfl 13 (by decide) (ht_at2 hts 3 rfl) (fun _ h9 => h9) m6 dX4_readComparison_14 ?_
    refine tw_iald (i := u3) hx hb hK hT hr_th shc_153 rfl (vin_t (a := u3.toInt) rfl (by omega) (by omega)) dX4_readComparison_17 (fun v9 m26 h9 => ?_)
    obtain ⟨x27, rfl, gx27, kx27⟩ := h9
    have cx27 := m13.at m26 (by have q9 := tn_of (show u3.toInt = u3.toInt from rfl) (by omega); omega)
    have t28 : u3.toInt = ix_tv.toInt → x27.toInt = tv.toInt := fun h8 => congrArg Int32.toInt (el_same m26 m15 h8)
    have t29 : x27.toInt = K (pS u3.toNatClampNeg) := (congrArg Int32.toInt cx27).trans (hKK _ (by have := tn_of (show u3.toInt = u3.toInt from rfl) (by omega); have := tn_of (show tn.toInt = tn.toInt from rfl) (by omega); omega))
    refine lv_istore_n (lv' := [(1, .int x27), (0, .ref o0)]) hx hb dX4_readComparison_18 rfl hl (by decide) rfl (fun ls hl => ?_)
    refine lv_iload_n hx hb dX4_readComparison_19 rfl (lv_at hl 0 rfl) ?_
    refine lv_bipush (v := 11) hx hb dX4_readComparison_20 (by decide) ?_
    have t30 : -2147483648 ≤ x27.toInt ∧ x27.toInt ≤ 2147483647 := ti_all x27
    refine lv_icmp_eq (tgt := 33) hx hb dX4_readComparison_22 (by decide) (fun c31 => ?_) (fun c31 => ?_)
    · have t32 : x27.toInt = 11 := ti_eq c31 rfl (by decide)
      refine lv_aload_n hx hb dX4_readComparison_33 rfl (lv_at hl 1 rfl) ?_
      refine lv_dup hx hb dX4_readComparison_34 rfl ?_
      refine tw_getM (v := .int u3) hx hb hts bF2_X4 hown hK hT hr_o0 shc_152 rfl 13 (by decide) (ht_at2 hts 3 rfl) (fun _ h9 => h9) m6 dX4_readComparison_35 ?_
      refine lv_iconst (v := 1) hx hb dX4_readComparison_38 (by decide) ?_
      refine lv_iadd hx hb dX4_readComparison_39 ?_
      refine lv_topi (fun x33 ex33 => ?_)
      have t34 : x33.toInt = u3.toInt + 1 := ti_add ex33 rfl (by decide) (by omega) (by omega)
      refine tw_put (v := .int x33) (ty := .int) hx hb hts bF2_X4 tyX4 tyX4_ok nmX4 hown hK hT hG hS hr_o0 shc_152 rfl 13 (by decide) (ht_at2 hts 3 rfl) (fun _ h9 => h9) rfl (by decide +kernel) rfl rfl (gl_at rfl (gi_of (show x33.toInt = x33.toInt from rfl) (by omega) (by omega))) dX4_readComparison_40 (fun H locs hT oq m35 oj hS => ?_)
      have hF := hF.put hr_o0 skc_152 oq oj (by decide)
      have m36 := (oj 0 (by decide) (by decide)).trans m9
      have m37 := (oj 9 (by decide) (by decide)).trans m12
      have m38 := m13.kept (oq _ (gne hr_th hr_o0 (by decide)))
      have m39 := (el_kept (oq _ (gne hr_th hr_o0 (by decide)))).trans m15
      have m40 := (oj 12 (by decide) (by decide)).trans m7
      have m41 := m8.kept (oq _ (gne hr_sp9 hr_o0 (by decide)))
      refine lv_aload_n hx hb dX4_readComparison_43 rfl (lv_at hl 1 rfl) ?_
      have hFc := gA_free hG hA hS
      refine va_calli (va_runV (As := []) (rest := []) ⟨hx, hb, hml, hown, hts⟩ (c_readSum l dC dI kA adK adV G H nC nS o0 th x33 u4 sp9 vT u5 tv ix_tv ix_tv K X pS hT hr_o0 m36 hr_th m35 m40 m37 hr_sp9 (by have q8 := ti_all ix_tv; omega) (by have q8 := ti_all x33; omega) (by have := (show x33.toInt = x33.toInt from rfl); have := (show ix_tv.toInt = ix_tv.toInt from rfl); omega) (fun m hm => hKK m (Nat.le_trans hm (Nat.le_of_eq (tn_same hx_tv rfl rfl)))) (fun m hm => hXX m (Nat.lt_of_lt_of_eq hm (tn_same hx_tv rfl rfl))) (by have q8 := ti_all u4; omega) (by have := (show u4.toInt = u4.toInt from rfl); have := (show x33.toInt = x33.toInt from rfl); omega) m38 m41 (by have q9 := (show ix_tv.toInt = ix_tv.toInt from rfl); have := (show ix_tv.toInt = ix_tv.toInt from rfl); omega) m39 (by have q8 := ti_all tv; omega) (by omega) (by omega)) (cwV 0 hts (goodIn_app (goodIn_r _ [19, 20, 21, 11] rfl (by decide +kernel)) (goodIn_ca (goodIn_r _ [1, 2, 3, 4, 5, 6, 7, 8, 9, 10, 11, 12, 13, 14, 15, 16, 17, 18] rfl (by decide +kernel)) (bs2_in _ _))) rfl rfl rfl (by decide +kernel) ⟨(Nat.le_of_ble_eq_true rfl), (Nat.le_of_ble_eq_true rfl)⟩) ⟨fun a U g mk q => by obtain ⟨q0, q1, qK, qE⟩ := q; exact ⟨q0, q1, va_K.moved (u := U) (U := U.calling g mk a) (Vm.Alike.refl U.vm) qK, EVC.blind g mk a qE⟩, gH_rc hK hT hr_o0 shc_152 rfl, fun U hU hW => ⟨rfl, hU, va_K.moved hW.alike hK, hE.call hS hFc hU hW⟩⟩ rfl rfl hl.1 rfl (lv_room (Nat.le_of_ble_eq_true rfl)) dX4_readComparison_44 ⟨(Nat.le_of_ble_eq_true rfl), (Nat.le_of_ble_eq_true rfl)⟩) hS (fun q _ h => hFc q h) hFc (fun r43 u t H locs ht hvm hw44 hB _ _ hS => ?_)
      obtain ⟨u45, u46, u47⟩ := u
      obtain ⟨hT, hF1, m48, m49, m50⟩ := hB
      rw [ht] at hT hF1 m48 m49 m50
      have m52 := (hF1.fld hr_o0 skc_152 (k := 9) (by decide) (by decide)).trans m37
      have hF := hF.more hF1 (by decide)
      try dsimp only at hw44
      obtain ⟨h59, h60, h61, hf62, hf63, hf64, hf65, hf66⟩ := hw44
      refine lv_istore_n (lv' := [(2, .int r43), (1, .int x27), (0, .ref o0)]) hx hb dX4_readComparison_47 rfl hl (by decide) rfl (fun ls hl => ?_)
      refine lv_aload_n hx hb dX4_readComparison_48 rfl (lv_at hl 2 rfl) ?_
      refine lv_iload_n hx hb dX4_readComparison_49 rfl (lv_at hl 1 rfl) ?_
      have hFc := gA_free hG hA hS
      refine va_callv (va_runV (As := [.int x27]) (rest := []) ⟨hx, hb, hml, hown, hts⟩ (c_addStep l dC dI kA adK adV G H nC nS o0 x27 u46 sp9 u47 hT hr_o0 m49 m52 hr_sp9 (by have q8 := ti_all x27; omega) (by have q8 := ti_all u46; omega) m50 (by omega) (by omega)) (cwV 1 hts (goodIn_app (goodIn_r _ [8, 9, 10, 11] rfl (by decide +kernel)) (goodIn_ca (goodIn_r _ [5, 6, 7] rfl (by decide +kernel)) (bs2_in _ _))) rfl rfl rfl (by decide +kernel) ⟨(Nat.le_of_ble_eq_true rfl), (Nat.le_of_ble_eq_true rfl)⟩) ⟨fun a U g mk q => by obtain ⟨q0, q1, qK, qE⟩ := q; exact ⟨q0, q1, va_K.moved (u := U) (U := U.calling g mk a) (Vm.Alike.refl U.vm) qK, EVC.blind g mk a qE⟩, gH_rc hK hT hr_o0 shc_152 rfl, fun U hU hW => ⟨rfl, hU, va_K.moved hW.alike hK, hE.call hS hFc hU hW⟩⟩ rfl rfl hl.1 rfl (lv_room (Nat.le_of_ble_eq_true rfl)) dX4_readComparison_50 ⟨(Nat.le_of_ble_eq_true rfl), (Nat.le_of_ble_eq_true rfl)⟩) hS (fun q _ h => hFc q h) hFc (fun u t H locs ht hvm hw68 hB _ _ hS => ?_)
      obtain ⟨u69, rfl⟩ : ∃ z, z = u := ⟨_, rfl⟩
      obtain ⟨hT, hF1, m70, m71⟩ := hB
      rw [ht] at hT hF1 m70 m71
      have m77 := (hF1.fld hr_o0 skc_152 (k := 13) (by decide) (by decide)).trans m48
      have hF := hF.more hF1 (by decide)
      try dsimp only at hw68
      obtain ⟨h80, hf81⟩ := hw68
      refine lv_iload_n hx hb dX4_readComparison_53 rfl (lv_at hl 0 rfl) ?_
      exact W.zret (v := r43) hx hb hr (nar_b (by have q8 := ti_all r43; omega)) (fun t ht hW => ⟨⟨r43, (u45, u69, (cu u47 u46.toNatClampNeg x27)), rfl, (by exact ⟨(by have q8 := ti_all u45; omega), (by have q8 := ti_all u69; omega), (by have q8 := ti_all r43; omega), (by omega), (by omega), (by have h9 := hf21; rw [show r1.toInt = 1 from by omega] at h9; exact Or.inr ⟨_, h9, Or.inr ⟨_, Or.inl ⟨by omega, rfl, (show pS x33.toNatClampNeg = X (pS u3.toNatClampNeg) from by rw [show x33.toNatClampNeg = u3.toNatClampNeg + 1 from by have := tn_of (show u3.toInt = u3.toInt from rfl) (by omega); have := tn_of (show x33.toInt = x33.toInt from rfl) (by omega); omega]; exact hXX _ (by have := tn_of (show u3.toInt = u3.toInt from rfl) (by omega); have := tn_of (show tn.toInt = tn.toInt from rfl) (by omega); omega))⟩, hf64⟩⟩), (((zKp.rf.tr hf22 (by have := tn_of (show s0.toInt = s0.toInt from rfl) (by omega); omega)).tr hf65 (by have := tn_of (show s0.toInt = s0.toInt from rfl) (by omega); have := tn_of (show u4.toInt = u4.toInt from rfl) (by omega); omega)).st (by have := tn_of (show s0.toInt = s0.toInt from rfl) (by omega); have := tn_of (show u46.toInt = u46.toInt from rfl) (by omega); omega)), (fun h8 => by have := tn_of (show s0.toInt = s0.toInt from rfl) (by omega); have := tn_of (show u4.toInt = u4.toInt from rfl) (by omega); have := tn_of (show u46.toInt = u46.toInt from rfl) (by omega); have := tn_of (show u69.toInt = u69.toInt from rfl) (by omega); have h9 := hf23 (by omega); have k9 := hf66 h8; rw [(show pS x33.toNatClampNeg = X (pS u3.toNatClampNeg) from by rw [show x33.toNatClampNeg = u3.toNatClampNeg + 1 from by have := tn_of (show u3.toInt = u3.toInt from rfl) (by omega); have := tn_of (show x33.toInt = x33.toInt from rfl) (by omega); omega]; exact hXX _ (by have := tn_of (show u3.toInt = u3.toInt from rfl) (by omega); have := tn_of (show tn.toInt = tn.toInt from rfl) (by omega); omega))] at k9; exact ⟨_, _, _, h9, by omega, k9, zC_3 (sx := u4.toNatClampNeg) (s2 := u46.toNatClampNeg) (by omega) (by omega) hf65 (by omega) rfl (by omega)⟩)⟩), by (try dsimp only); rw [ht]; exact ⟨hT, hF, m77, m70, m71⟩⟩, hS.F ht⟩) hS.2.2 dX4_readComparison_54
    · have t82 : x27.toInt ≠ 11 := ti_ne c31 rfl (by decide)
      refine lv_iload_n hx hb dX4_readComparison_25 rfl (lv_at hl 0 rfl) ?_
      refine lv_bipush (v := 12) hx hb dX4_readComparison_26 (by decide) ?_
      refine lv_icmp_eq (tgt := 33) hx hb dX4_readComparison_28 (by decide) (fun c83 => ?_) (fun c83 => ?_)
      · have t84 : x27.toInt = 12 := ti_eq c83 rfl (by decide)
        refine lv_aload_n hx hb dX4_readComparison_33 rfl (lv_at hl 1 rfl) ?_
        refine lv_dup hx hb dX4_readComparison_34 rfl ?_
        refine tw_getM (v := .int u3) hx hb hts bF2_X4 hown hK hT hr_o0 shc_152 rfl 13 (by decide) (ht_at2 hts 3 rfl) (fun _ h9 => h9) m6 dX4_readComparison_35 ?_
        refine lv_iconst (v := 1) hx hb dX4_readComparison_38 (by decide) ?_
        refine lv_iadd hx hb dX4_readComparison_39 ?_
        refine lv_topi (fun x85 ex85 => ?_)
        have t86 : x85.toInt = u3.toInt + 1 := ti_add ex85 rfl (by decide) (by omega) (by omega)
        refine tw_put (v := .int x85) (ty := .int) hx hb hts bF2_X4 tyX4 tyX4_ok nmX4 hown hK hT hG hS hr_o0 shc_152 rfl 13 (by decide) (ht_at2 hts 3 rfl) (fun _ h9 => h9) rfl (by decide +kernel) rfl rfl (gl_at rfl (gi_of (show x85.toInt = x85.toInt from rfl) (by omega) (by omega))) dX4_readComparison_40 (fun H locs hT oq m87 oj hS => ?_)
        have hF := hF.put hr_o0 skc_152 oq oj (by decide)
        have m88 := (oj 0 (by decide) (by decide)).trans m9
        have m89 := (oj 9 (by decide) (by decide)).trans m12
        have m90 := m13.kept (oq _ (gne hr_th hr_o0 (by decide)))
        have m91 := (el_kept (oq _ (gne hr_th hr_o0 (by decide)))).trans m15
        have m92 := (oj 12 (by decide) (by decide)).trans m7
        have m93 := m8.kept (oq _ (gne hr_sp9 hr_o0 (by decide)))
        refine lv_aload_n hx hb dX4_readComparison_43 rfl (lv_at hl 1 rfl) ?_
        have hFc := gA_free hG hA hS
        refine va_calli (va_runV (As := []) (rest := []) ⟨hx, hb, hml, hown, hts⟩ (c_readSum l dC dI kA adK adV G H nC nS o0 th x85 u4 sp9 vT u5 tv ix_tv ix_tv K X pS hT hr_o0 m88 hr_th m87 m92 m89 hr_sp9 (by have q8 := ti_all ix_tv; omega) (by have q8 := ti_all x85; omega) (by have := (show x85.toInt = x85.toInt from rfl); have := (show ix_tv.toInt = ix_tv.toInt from rfl); omega) (fun m hm => hKK m (Nat.le_trans hm (Nat.le_of_eq (tn_same hx_tv rfl rfl)))) (fun m hm => hXX m (Nat.lt_of_lt_of_eq hm (tn_same hx_tv rfl rfl))) (by have q8 := ti_all u4; omega) (by have := (show u4.toInt = u4.toInt from rfl); have := (show x85.toInt = x85.toInt from rfl); omega) m90 m93 (by have q9 := (show ix_tv.toInt = ix_tv.toInt from rfl); have := (show ix_tv.toInt = ix_tv.toInt from rfl); omega) m91 (by have q8 := ti_all tv; omega) (by omega) (by omega)) (cwV 0 hts (goodIn_app (goodIn_r _ [19, 20, 21, 11] rfl (by decide +kernel)) (goodIn_ca (goodIn_r _ [1, 2, 3, 4, 5, 6, 7, 8, 9, 10, 11, 12, 13, 14, 15, 16, 17, 18] rfl (by decide +kernel)) (bs2_in _ _))) rfl rfl rfl (by decide +kernel) ⟨(Nat.le_of_ble_eq_true rfl), (Nat.le_of_ble_eq_true rfl)⟩) ⟨fun a U g mk q => by obtain ⟨q0, q1, qK, qE⟩ := q; exact ⟨q0, q1, va_K.moved (u := U) (U := U.calling g mk a) (Vm.Alike.refl U.vm) qK, EVC.blind g mk a qE⟩, gH_rc hK hT hr_o0 shc_152 rfl, fun U hU hW => ⟨rfl, hU, va_K.moved hW.alike hK, hE.call hS hFc hU hW⟩⟩ rfl rfl hl.1 rfl (lv_room (Nat.le_of_ble_eq_true rfl)) dX4_readComparison_44 ⟨(Nat.le_of_ble_eq_true rfl), (Nat.le_of_ble_eq_true rfl)⟩) hS (fun q _ h => hFc q h) hFc (fun r95 u t H locs ht hvm hw96 hB _ _ hS => ?_)
        obtain ⟨u97, u98, u99⟩ := u
        obtain ⟨hT, hF1, m100, m101, m102⟩ := hB
        rw [ht] at hT hF1 m100 m101 m102
        have m104 := (hF1.fld hr_o0 skc_152 (k := 9) (by decide) (by decide)).trans m89
        have hF := hF.more hF1 (by decide)
        try dsimp only at hw96
        obtain ⟨h111, h112, h113, hf114, hf115, hf116, hf117, hf118⟩ := hw96
        refine lv_istore_n (lv' := [(2, .int r95), (1, .int x27), (0, .ref o0)]) hx hb dX4_readComparison_47 rfl hl (by decide) rfl (fun ls hl => ?_)
        refine lv_aload_n hx hb dX4_readComparison_48 rfl (lv_at hl 2 rfl) ?_
        refine lv_iload_n hx hb dX4_readComparison_49 rfl (lv_at hl 1 rfl) ?_
        have hFc := gA_free hG hA hS
        refine va_callv (va_runV (As := [.int x27]) (rest := []) ⟨hx, hb, hml, hown, hts⟩ (c_addStep l dC dI kA adK adV G H nC nS o0 x27 u98 sp9 u99 hT hr_o0 m101 m104 hr_sp9 (by have q8 := ti_all x27; omega) (by have q8 := ti_all u98; omega) m102 (by omega) (by omega)) (cwV 1 hts (goodIn_app (goodIn_r _ [8, 9, 10, 11] rfl (by decide +kernel)) (goodIn_ca (goodIn_r _ [5, 6, 7] rfl (by decide +kernel)) (bs2_in _ _))) rfl rfl rfl (by decide +kernel) ⟨(Nat.le_of_ble_eq_true rfl), (Nat.le_of_ble_eq_true rfl)⟩) ⟨fun a U g mk q => by obtain ⟨q0, q1, qK, qE⟩ := q; exact ⟨q0, q1, va_K.moved (u := U) (U := U.calling g mk a) (Vm.Alike.refl U.vm) qK, EVC.blind g mk a qE⟩, gH_rc hK hT hr_o0 shc_152 rfl, fun U hU hW => ⟨rfl, hU, va_K.moved hW.alike hK, hE.call hS hFc hU hW⟩⟩ rfl rfl hl.1 rfl (lv_room (Nat.le_of_ble_eq_true rfl)) dX4_readComparison_50 ⟨(Nat.le_of_ble_eq_true rfl), (Nat.le_of_ble_eq_true rfl)⟩) hS (fun q _ h => hFc q h) hFc (fun u t H locs ht hvm hw120 hB _ _ hS => ?_)
        obtain ⟨u121, rfl⟩ : ∃ z, z = u := ⟨_, rfl⟩
        obtain ⟨hT, hF1, m122, m123⟩ := hB
        rw [ht] at hT hF1 m122 m123
        have m129 := (hF1.fld hr_o0 skc_152 (k := 13) (by decide) (by decide)).trans m100
        have hF := hF.more hF1 (by decide)
        try dsimp only at hw120
        obtain ⟨h132, hf133⟩ := hw120
        refine lv_iload_n hx hb dX4_readComparison_53 rfl (lv_at hl 0 rfl) ?_
        exact W.zret (v := r95) hx hb hr (nar_b (by have q8 := ti_all r95; omega)) (fun t ht hW => ⟨⟨r95, (u97, u121, (cu u99 u98.toNatClampNeg x27)), rfl, (by exact ⟨(by have q8 := ti_all u97; omega), (by have q8 := ti_all u121; omega), (by have q8 := ti_all r95; omega), (by omega), (by omega), (by have h9 := hf21; rw [show r1.toInt = 1 from by omega] at h9; exact Or.inr ⟨_, h9, Or.inr ⟨_, Or.inl ⟨by omega, rfl, (show pS x85.toNatClampNeg = X (pS u3.toNatClampNeg) from by rw [show x85.toNatClampNeg = u3.toNatClampNeg + 1 from by have := tn_of (show u3.toInt = u3.toInt from rfl) (by omega); have := tn_of (show x85.toInt = x85.toInt from rfl) (by omega); omega]; exact hXX _ (by have := tn_of (show u3.toInt = u3.toInt from rfl) (by omega); have := tn_of (show tn.toInt = tn.toInt from rfl) (by omega); omega))⟩, hf116⟩⟩), (((zKp.rf.tr hf22 (by have := tn_of (show s0.toInt = s0.toInt from rfl) (by omega); omega)).tr hf117 (by have := tn_of (show s0.toInt = s0.toInt from rfl) (by omega); have := tn_of (show u4.toInt = u4.toInt from rfl) (by omega); omega)).st (by have := tn_of (show s0.toInt = s0.toInt from rfl) (by omega); have := tn_of (show u98.toInt = u98.toInt from rfl) (by omega); omega)), (fun h8 => by have := tn_of (show s0.toInt = s0.toInt from rfl) (by omega); have := tn_of (show u4.toInt = u4.toInt from rfl) (by omega); have := tn_of (show u98.toInt = u98.toInt from rfl) (by omega); have := tn_of (show u121.toInt = u121.toInt from rfl) (by omega); have h9 := hf23 (by omega); have k9 := hf118 h8; rw [(show pS x85.toNatClampNeg = X (pS u3.toNatClampNeg) from by rw [show x85.toNatClampNeg = u3.toNatClampNeg + 1 from by have := tn_of (show u3.toInt = u3.toInt from rfl) (by omega); have := tn_of (show x85.toInt = x85.toInt from rfl) (by omega); omega]; exact hXX _ (by have := tn_of (show u3.toInt = u3.toInt from rfl) (by omega); have := tn_of (show tn.toInt = tn.toInt from rfl) (by omega); omega))] at k9; exact ⟨_, _, _, h9, by omega, k9, zC_3 (sx := u4.toNatClampNeg) (s2 := u98.toNatClampNeg) (by omega) (by omega) hf117 (by omega) rfl (by omega)⟩)⟩), by (try dsimp only); rw [ht]; exact ⟨hT, hF, m129, m122, m123⟩⟩, hS.F ht⟩) hS.2.2 dX4_readComparison_54
      · have t134 : x27.toInt ≠ 12 := ti_ne c83 rfl (by decide)
        refine lv_iconst (v := 0) hx hb dX4_readComparison_31 (by decide) ?_
        exact W.zret (v := 0) hx hb hr (by decide) (fun t ht hW => ⟨⟨0, (u3, u4, u5), rfl, (by exact ⟨(by have q8 := ti_all u3; omega), (by have q8 := ti_all u4; omega), (rg_t (a := 0) (by decide) (by first | decide | omega) (by first | decide | omega)), (by omega), (by omega), (by have h9 := hf21; rw [show r1.toInt = 1 from by omega] at h9; exact Or.inr ⟨_, h9, Or.inl ⟨Or.inr ⟨by omega, rfl, rfl⟩, by decide⟩⟩), (zKp.rf.tr hf22 (by have := tn_of (show s0.toInt = s0.toInt from rfl) (by omega); omega)), (fun h8 => absurd h8 (by decide))⟩), by (try dsimp only); rw [ht]; exact ⟨hT, hF, m6, m7, m8⟩⟩, hS.F ht⟩) hS.2.2 dX4_readComparison_32
  · have t135 : r1.toInt = 0 := ti_eq c24 rfl (by decide)
    refine lv_iconst (v := 0) hx hb dX4_readComparison_7 (by decide) ?_
    exact W.zret (v := 0) hx hb hr (by decide) (fun t ht hW => ⟨⟨0, (u3, u4, u5), rfl, (by exact ⟨(by have q8 := ti_all u3; omega), (by have q8 := ti_all u4; omega), (rg_t (a := 0) (by decide) (by first | decide | omega) (by first | decide | omega)), (by omega), (by omega), (by have h9 := hf21; rw [show r1.toInt = 0 from by omega] at h9; exact Or.inl ⟨h9, by decide⟩), (zKp.rf.tr hf22 (by have := tn_of (show s0.toInt = s0.toInt from rfl) (by omega); omega)), (fun h8 => absurd h8 (by decide))⟩), by (try dsimp only); rw [ht]; exact ⟨hT, hF, m6, m7, m8⟩⟩, hS.F ht⟩) hS.2.2 dX4_readComparison_8
