def w_s_readAtom4 : List Cond := .code yX12_readAtom cX12_readAtom 2 (some .boolean) :: (HAppend.hAppend (α := List Cond) (β := List Cond) (γ := List Cond) [.code yX12_sign cX12_sign 2 (some .boolean), .code yX12_blanks cX12_blanks 1 none, .code yX12_isAt cX12_isAt 3 (some .boolean), .fieldLink RX12 335 "SeaLandModel" "point" "I", .fieldLink RX12 338 "SeaLandModel" "end" "I", .fieldLink RX12 31 "SeaLandModel" "tape" "[B", .methodLink RX12 341 yX12_isAt, .instanceMethod yX12_isAt, .selects RX12 yX12_isAt yX12_isAt, .initialized RX12, .fieldLink RX12 345 "SeaLandModel" "begin" "I", .methodLink RX12 348 yX12_blanks, .instanceMethod yX12_blanks, .selects RX12 yX12_blanks yX12_blanks, .methodLink RX12 398 yX12_sign, .instanceMethod yX12_sign, .selects RX12 yX12_sign yX12_sign, .code yX12_passes cX12_passes 2 (some .boolean), .code yX12_word cX12_word 1 none, .methodLink RX12 360 yX12_word, .instanceMethod yX12_word, .selects RX12 yX12_word yX12_word, .code yX12_isWord cX12_isWord 4 (some .boolean), .code yJ0_length_8abf5 cJ0_length_8abf5 1 (some .int), .fieldLink RJ0 9 "java/lang/String" "value" "[B", .code yJ0_coder_7d493 cJ0_coder_7d493 1 (some .byte), .fieldLink RJ0 38 "java/lang/String" "COMPACT_STRINGS" "Z", .fieldLink RJ0 15 "java/lang/String" "coder" "B", .methodLink RJ0 335 yJ0_coder_7d493, .instanceMethod yJ0_coder_7d493, .selects RJ0 yJ0_coder_7d493 yJ0_coder_7d493, .initialized RJ0, .methodLink RX12 351 yJ0_length_8abf5, .instanceMethod yJ0_length_8abf5, .selects RJ0 yJ0_length_8abf5 yJ0_length_8abf5, .code yJ0_charAt_5068e cJ0_charAt_5068e 2 (some .char), .code yJ0_isLatin1_aae02 cJ0_isLatin1_aae02 1 (some .boolean), .methodLink RJ0 492 yJ0_isLatin1_aae02, .instanceMethod yJ0_isLatin1_aae02, .selects RJ0 yJ0_isLatin1_aae02 yJ0_isLatin1_aae02, .code yJ1_charAt_3b067 cJ1_charAt_3b067 2 (some .char), .code yJ0_checkIndex_df160 cJ0_checkIndex_df160 2 none, .fieldLink RJ0 1053 "jdk/internal/util/Preconditions" "SIOOBE_FORMATTER" "Ljava/util/function/BiFunction;", .code yJ3_checkIndex_8e157 cJ3_checkIndex_8e157 3 (some .int), .methodLink RJ0 1059 yJ3_checkIndex_8e157, .static yJ3_checkIndex_8e157, .initialized RJ3, .methodLink RJ1 9 yJ0_checkIndex_df160, .static yJ0_checkIndex_df160, .methodLink RJ0 495 yJ1_charAt_3b067, .static yJ1_charAt_3b067, .initialized RJ1, .methodLink RX12 356 yJ0_charAt_5068e, .instanceMethod yJ0_charAt_5068e, .selects RJ0 yJ0_charAt_5068e yJ0_charAt_5068e, .methodLink RX12 363 yX12_isWord, .instanceMethod yX12_isWord, .selects RX12 yX12_isWord yX12_isWord, .methodLink RX12 409 yX12_passes, .instanceMethod yX12_passes, .selects RX12 yX12_passes yX12_passes, .code yX12_readSum cX12_readSum 1 (some .boolean), .code yX12_readPart cX12_readPart 2 (some .boolean), .constant RX12 390 99999, .code yX12_number cX12_number 3 (some .int), .methodLink RX12 391 yX12_number, .instanceMethod yX12_number, .selects RX12 yX12_number yX12_number, .code yX12_adds cX12_adds 3 none, .fieldLink RX12 66 "SeaLandModel" "step" "[I", .fieldLink RX12 367 "SeaLandModel" "steps" "I", .fieldLink RX12 69 "SeaLandModel" "than" "[I", .methodLink RX12 387 yX12_adds, .instanceMethod yX12_adds, .selects RX12 yX12_adds yX12_adds, .code yX12_fact cX12_fact 1 (some (.object "java/lang/String")), .methodLink RX12 383 yX12_fact, .static yX12_fact, .methodLink RX12 394 yX12_readPart, .instanceMethod yX12_readPart, .selects RX12 yX12_readPart yX12_readPart, .methodLink RX12 415 yX12_readSum, .instanceMethod yX12_readSum, .selects RX12 yX12_readSum yX12_readSum, .fieldLink RX12 401 "SeaLandModel" "deep" "I", .code yX12_readAtom cX12_readAtom 2 (some .boolean), .methodLink RX12 412 yX12_readAtom, .instanceMethod yX12_readAtom, .selects RX12 yX12_readAtom yX12_readAtom, .code yX12_readCond cX12_readCond 1 (some .boolean), .code yX12_readAllOf cX12_readAllOf 1 (some .boolean), .methodLink RX12 420 yX12_readAllOf, .instanceMethod yX12_readAllOf, .selects RX12 yX12_readAllOf yX12_readAllOf, .methodLink RX12 404 yX12_readCond, .instanceMethod yX12_readCond, .selects RX12 yX12_readCond yX12_readCond] bs)
set_option maxHeartbeats 4000000 in
set_option maxRecDepth 100000 in
theorem s_readAtom4 (l : Launch) (dC : Nat → ClassId) (dI : Nat → Nat → Nat) (kA : Nat → ClassId) (adK adV : Nat → Nat) (G : gT) (H0 : Heap) (q : Nat → Nat) (wZ wN : Nat → Int) (wH wB wC : Int) (wL wK : Nat → Prop) (wU wV : Nat → Nat) (PI : Nat → Int → Prop) (im : Int) (PM PT : Nat → Int → Prop) (lS lB lE : Nat → Nat → Int → Prop) (lN : Nat → Int) (o0 : Nat) (pt : Int32) (en : Int32) (sv : Int32) (dv : Int32) (S0 : Nat → Int → Prop) (lb : Int) (ld : Nat → Int) (hT : gH (dC, dI) kA (SHm q (wP wZ wN wH wB wC wL wK wU wV) PI im PM PT (lD (dS S0 lb sv.toInt ld) lS) lB lE lN) G H0) (hr_o0 : G o0 = some 0) (hm_pt : el H0 o0 (dI 15 12) = some (.int pt)) (hm_en : el H0 o0 (dI 15 13) = some (.int en)) (hm_sv : el H0 o0 (dI 15 28) = some (.int sv)) (hm_dv : el H0 o0 (dI 15 15) = some (.int dv)) (hq0 : 0 ≤ pt.toInt ∧ pt.toInt ≤ 400) (hq1 : 0 ≤ en.toInt ∧ en.toInt ≤ 400) (hq2 : 0 ≤ sv.toInt ∧ sv.toInt ≤ 400) (hpe : pt.toInt ≤ en.toInt) (hsp : sv.toInt ≤ pt.toInt) (hS0 : ∀ (i : Nat) x, lb ≤ (i : Int) → S0 i x) (hlb : 0 ≤ lb ∧ lb ≤ sv.toInt) (hlg : lG lb ld) (hd0 : 0 ≤ ld sv.toNatClampNeg) (hq9 : 4 ≤ dv.toInt ∧ dv.toInt ≤ 4) (hgz : ∀ i, 0 ≤ wZ i) (hgn : ∀ i, 6500000 ≤ wN i ∧ wN i ≤ 20200000) (hgh : 0 ≤ wH ∧ wH ≤ 40000) (hgb : 0 ≤ wB ∧ wB ≤ 3850000) (hgc : 0 ≤ wC ∧ wC ≤ 30) (hgi : 0 ≤ im ∧ im ≤ 1) (hgu : ∀ a t, G a = some (t + 1) → a = q t) : Met l yX12_readAtom w_s_readAtom4 ({ frames := 13, cells := 0, slots := 0, locals := 271 }) (va_Pc [.ref o0] (fun U => U.heap = H0 ∧ va_K (dC, dI) vwCl (tyl kA) U ∧ EVS adK adV (gA G H0.size) U U.heap)) (va_Qi (fun (r : Int32) (u : Int32 × Int32 × Int32 × Int32 × (Nat → Int)) => match u with | (p1, b1, s1, d1, ld1) => (0 ≤ p1.toInt ∧ p1.toInt ≤ 400) ∧ (0 ≤ b1.toInt ∧ b1.toInt ≤ 400) ∧ (0 ≤ s1.toInt ∧ s1.toInt ≤ 400) ∧ (0 ≤ r.toInt ∧ r.toInt ≤ 1) ∧ (r = 1 → ld1 s1.toNatClampNeg = ld sv.toNatClampNeg + 1) ∧ (r = 1 → d1.toInt = 4) ∧ (pt.toInt ≤ p1.toInt ∧ p1.toInt ≤ en.toInt ∧ sv.toInt ≤ s1.toInt ∧ s1.toInt - sv.toInt ≤ p1.toInt - pt.toInt) ∧ (lG lb ld1)) (fun (u : Int32 × Int32 × Int32 × Int32 × (Nat → Int)) (t : State) => match u with | (p1, b1, s1, d1, ld1) => gH (dC, dI) kA (SHm q (wP wZ wN wH wB wC wL wK wU wV) PI im PM PT (lD (dS S0 lb s1.toInt ld1) lS) lB lE lN) G t.heap ∧ gF (dC, dI) SKm G ([(0, 12), (0, 14), (0, 15), (0, 28), (27, 0), (28, 0)] : List (Nat × Nat)) H0 t.heap ∧ el t.heap o0 (dI 15 12) = some (.int p1) ∧ el t.heap o0 (dI 15 14) = some (.int b1) ∧ el t.heap o0 (dI 15 28) = some (.int s1) ∧ el t.heap o0 (dI 15 15) = some (.int d1)) (gA G H0.size)) 0 0 (gA G H0.size) := by
  refine Met.ofW (cc := cX12_readAtom) (maxL := 2) (ret := (some .boolean)) (by decide) rfl ?_
  intro p e s m args below meth c s₁ B hml hv
  obtain ⟨rfl, hH0, hK, hE⟩ := hv
  have hx := B.exec
  have hb := B.bytes
  have hr := B.returns
  have hts := atoms_spec (ws := w_s_readAtom4) B.pre
  have hown : s.vm.findClass RX12 = some m.cls := findClass_of_methodNamed B.named
  have hlocks := B.notSynchronized
  subst hH0
  generalize hAe : gA G s.heap.size = A at hE ⊢
  have hA : ∀ q : Nat, s.heap.size ≤ q → A q := fun q h => by rw [← hAe]; exact Or.inr h
  have hG := gA_of hAe
  have hS : va_S A s.heap s.heap [] := va_S.rf
  have hF : gF (dC, dI) SKm G ([(0, 12), (0, 14), (0, 15), (0, 28), (27, 0), (28, 0)] : List (Nat × Nat)) s.heap s.heap := gF.rf
  have hl := lv_entry ([.ref o0]) (n := 2) (Nat.le_of_ble_eq_true rfl)
  rw [lg_entry_eq]
  generalize (lg_sl ([.ref o0]) ++ List.replicate (2 - (lg_sl ([.ref o0])).length) Slot.unset).toArray = ls at hl ⊢
  have hl : lv_has ls 2 [(0, .ref o0)] := hl
  refine lv_aload_n hx hb dX12_readAtom_0 rfl (lv_at hl 0 rfl) ?_
  refine lv_bipush (v := 40) hx hb dX12_readAtom_1 (by decide) ?_
  have hFc := gA_free hG hA hS
  refine va_calli (va_runV (As := [.int 40]) (rest := []) ⟨hx, hb, hml, hown, hts⟩ (s_sign l dC dI kA adK adV G s.heap q wZ wN wH wB wC wL wK wU wV PI im PM PT (lD (dS S0 lb sv.toInt ld) lS) lB lE lN o0 40 pt en hT hr_o0 hm_pt hm_en (by have q8 := ti_all pt; omega) (by have q8 := ti_all en; omega) (by have := (show pt.toInt = pt.toInt from rfl); have := (show en.toInt = en.toInt from rfl); omega) hgz hgn hgh hgb hgc hgi hgu) (cwV 1 hts (goodIn_app (goodIn_r _ [15, 16, 17, 10] rfl (by decide +kernel)) (goodIn_ca (goodIn_r _ [1, 2, 3, 4, 5, 6, 7, 8, 9, 10, 11, 12, 13, 14] rfl (by decide +kernel)) (bs_in _ _))) rfl rfl rfl (by decide +kernel) ⟨(Nat.le_of_ble_eq_true rfl), (Nat.le_of_ble_eq_true rfl)⟩) ⟨fun a U g mk q => by obtain ⟨q0, q1, qK, qE⟩ := q; exact ⟨q0, q1, va_K.moved (u := U) (U := U.calling g mk a) (Vm.Alike.refl U.vm) qK, EVS.blind g mk a qE⟩, gH_rc hK hT hr_o0 shm_0 rfl, fun U hU hW => ⟨rfl, hU, va_K.moved hW.alike hK, hE.call hS hFc hU hW⟩⟩ rfl rfl hl.1 rfl (lv_room (Nat.le_of_ble_eq_true rfl)) dX12_readAtom_3 ⟨(Nat.le_of_ble_eq_true rfl), (Nat.le_of_ble_eq_true rfl)⟩) hS (fun q _ h => hFc q h) hFc (fun r1 u t H locs ht hvm hw2 hB _ _ hS => ?_)
  obtain ⟨u3, u4⟩ := u
  obtain ⟨hT, hF1, m5, m6⟩ := hB
  rw [ht] at hT hF1 m5 m6
  have m8 := (hF1.fld hr_o0 skm_0 (k := 13) (by decide) (by decide)).trans hm_en
  have m9 := (hF1.fld hr_o0 skm_0 (k := 28) (by decide) (by decide)).trans hm_sv
  have m10 := (hF1.fld hr_o0 skm_0 (k := 15) (by decide) (by decide)).trans hm_dv
  have hF := hF.more hF1 (by decide)
  try dsimp only at hw2
  obtain ⟨h11, h12, h13, hi14, hf15⟩ := hw2
  refine lv_if_eq (tgt := 56) hx hb dX12_readAtom_6 (by decide) (fun c16 => ?_) (fun c16 => ?_)
  · have t17 : r1.toInt = 0 := ti_eq c16 rfl (by decide)
    refine lv_aload_n hx hb dX12_readAtom_56 rfl (lv_at hl 0 rfl) ?_
    refine tw_ldcwS hx hb hown hE.s10 dX12_readAtom_57 ?_
    have hFc := gA_free hG hA hS
    refine va_calli (va_runV (As := [.ref (adK 10)]) (rest := []) ⟨hx, hb, hml, hown, hts⟩ (s_passes l dC dI kA adK adV G H q wZ wN wH wB wC wL wK wU wV PI im PM PT (lD (dS S0 lb sv.toInt ld) lS) lB lE lN o0 u3 en 10 hT hr_o0 m5 m8 (by have q8 := ti_all u3; omega) (by have q8 := ti_all en; omega) (by have := (show u3.toInt = u3.toInt from rfl); have := (show en.toInt = en.toInt from rfl); omega) (by first | omega | decide) hgz hgn hgh hgb hgc hgi hgu) (cwV 1 hts (goodIn_app (goodIn_r _ [59, 60, 61, 10] rfl (by decide +kernel)) (goodIn_ca (goodIn_r _ [18, 19, 2, 3, 4, 5, 6, 7, 8, 9, 10, 11, 12, 13, 14, 20, 21, 22, 23, 24, 25, 26, 27, 28, 29, 30, 31, 32, 33, 34, 35, 36, 37, 38, 39, 40, 41, 42, 43, 44, 45, 46, 47, 48, 49, 50, 51, 52, 53, 54, 55, 56, 57, 58] rfl (by decide +kernel)) (bs_in _ _))) rfl rfl rfl (by decide +kernel) ⟨(Nat.le_of_ble_eq_true rfl), (Nat.le_of_ble_eq_true rfl)⟩) ⟨fun a U g mk q => by obtain ⟨q0, q1, qK, qE⟩ := q; exact ⟨q0, q1, va_K.moved (u := U) (U := U.calling g mk a) (Vm.Alike.refl U.vm) qK, EVS.blind g mk a qE⟩, gH_rc hK hT hr_o0 shm_0 rfl, fun U hU hW => ⟨rfl, hU, va_K.moved hW.alike hK, hE.call hS hFc hU hW⟩⟩ rfl rfl hl.1 rfl (lv_room (Nat.le_of_ble_eq_true rfl)) dX12_readAtom_60 ⟨(Nat.le_of_ble_eq_true rfl), (Nat.le_of_ble_eq_true rfl)⟩) hS (fun q _ h => hFc q h) hFc (fun r18 u t H locs ht hvm hw19 hB _ _ hS => ?_)
    obtain ⟨u20, u21⟩ := u
    obtain ⟨hT, hF1, m22, m23⟩ := hB
    rw [ht] at hT hF1 m22 m23
    have m24 := (hF1.fld hr_o0 skm_0 (k := 13) (by decide) (by decide)).trans m8
    have m25 := (hF1.fld hr_o0 skm_0 (k := 28) (by decide) (by decide)).trans m9
    have m26 := (hF1.fld hr_o0 skm_0 (k := 15) (by decide) (by decide)).trans m10
    have hF := hF.more hF1 (by decide)
    try dsimp only at hw19
    obtain ⟨h29, h30, h31, hi32, hf33⟩ := hw19
    refine lv_if_eq (tgt := 115) hx hb dX12_readAtom_63 (by decide) (fun c34 => ?_) (fun c34 => ?_)
    · have t35 : r18.toInt = 0 := ti_eq c34 rfl (by decide)
      refine lv_aload_n hx hb dX12_readAtom_115 rfl (lv_at hl 0 rfl) ?_
      have hFc := gA_free hG hA hS
      refine va_calli (va_runV (As := []) (rest := []) ⟨hx, hb, hml, hown, hts⟩ (s_readSum l dC dI kA adK adV G H q wZ wN wH wB wC wL wK wU wV PI im PM PT lS lB lE lN o0 u20 en sv S0 lb ld hT hr_o0 m22 m24 m25 (by have q8 := ti_all u20; omega) (by have q8 := ti_all en; omega) (by have q8 := ti_all sv; omega) (by have := (show u20.toInt = u20.toInt from rfl); have := (show en.toInt = en.toInt from rfl); omega) (by have := (show sv.toInt = sv.toInt from rfl); have := (show u20.toInt = u20.toInt from rfl); omega) hS0 (by have := (show sv.toInt = sv.toInt from rfl); omega) hlg (by omega) hgz hgn hgh hgb hgc hgi hgu) (cwV 0 hts (goodIn_app (goodIn_r _ [82, 83, 84, 10] rfl (by decide +kernel)) (goodIn_ca (goodIn_r _ [62, 63, 19, 2, 3, 4, 5, 6, 7, 8, 9, 10, 11, 12, 13, 14, 20, 21, 22, 64, 65, 66, 67, 68, 69, 70, 71, 72, 73, 74, 75, 76, 77, 78, 23, 24, 25, 26, 27, 28, 29, 30, 31, 32, 33, 34, 35, 36, 37, 38, 39, 40, 41, 42, 43, 44, 45, 46, 47, 48, 49, 50, 51, 52, 53, 54, 55, 56, 57, 58, 79, 80, 81, 1, 15, 16, 17] rfl (by decide +kernel)) (bs_in _ _))) rfl rfl rfl (by decide +kernel) ⟨(Nat.le_of_ble_eq_true rfl), (Nat.le_of_ble_eq_true rfl)⟩) ⟨fun a U g mk q => by obtain ⟨q0, q1, qK, qE⟩ := q; exact ⟨q0, q1, va_K.moved (u := U) (U := U.calling g mk a) (Vm.Alike.refl U.vm) qK, EVS.blind g mk a qE⟩, gH_rc hK hT hr_o0 shm_0 rfl, fun U hU hW => ⟨rfl, hU, va_K.moved hW.alike hK, hE.call hS hFc hU hW⟩⟩ rfl rfl hl.1 rfl (lv_room (Nat.le_of_ble_eq_true rfl)) dX12_readAtom_116 ⟨(Nat.le_of_ble_eq_true rfl), (Nat.le_of_ble_eq_true rfl)⟩) hS (fun q _ h => hFc q h) hFc (fun r36 u t H locs ht hvm hw37 hB _ _ hS => ?_)
      obtain ⟨u38, u39, u40, u41⟩ := u
      obtain ⟨hT, hF1, m42, m43, m44⟩ := hB
      rw [ht] at hT hF1 m42 m43 m44
      have m45 := (hF1.fld hr_o0 skm_0 (k := 13) (by decide) (by decide)).trans m24
      have m47 := (hF1.fld hr_o0 skm_0 (k := 15) (by decide) (by decide)).trans m26
      have hF := hF.more hF1 (by decide)
      try dsimp only at hw37
      obtain ⟨h50, h51, h52, h53, hi54, hf55, hf56⟩ := hw37
      refine lv_if_ne (tgt := 124) hx hb dX12_readAtom_119 (by decide) (fun c57 => ?_) (fun c57 => ?_)
      · have t58 : r36.toInt ≠ 0 := ti_ne c57 rfl (by decide)
        have t59 : u41 u40.toNatClampNeg = ld sv.toNatClampNeg + 1 := hi54 ((bit_of ⟨by omega, by omega⟩).resolve_left c57)
        refine lv_aload_n hx hb dX12_readAtom_124 rfl (lv_at hl 0 rfl) ?_
        refine lv_bipush (v := 60) hx hb dX12_readAtom_125 (by decide) ?_
        have hFc := gA_free hG hA hS
        refine va_calli (va_runV (As := [.int 60]) (rest := []) ⟨hx, hb, hml, hown, hts⟩ (s_sign l dC dI kA adK adV G H q wZ wN wH wB wC wL wK wU wV PI im PM PT (lD (dS S0 lb u40.toInt u41) lS) lB lE lN o0 60 u38 en hT hr_o0 m42 m45 (by have q8 := ti_all u38; omega) (by have q8 := ti_all en; omega) (by have := (show u38.toInt = u38.toInt from rfl); have := (show en.toInt = en.toInt from rfl); omega) hgz hgn hgh hgb hgc hgi hgu) (cwV 1 hts (goodIn_app (goodIn_r _ [15, 16, 17, 10] rfl (by decide +kernel)) (goodIn_ca (goodIn_r _ [1, 2, 3, 4, 5, 6, 7, 8, 9, 10, 11, 12, 13, 14] rfl (by decide +kernel)) (bs_in _ _))) rfl rfl rfl (by decide +kernel) ⟨(Nat.le_of_ble_eq_true rfl), (Nat.le_of_ble_eq_true rfl)⟩) ⟨fun a U g mk q => by obtain ⟨q0, q1, qK, qE⟩ := q; exact ⟨q0, q1, va_K.moved (u := U) (U := U.calling g mk a) (Vm.Alike.refl U.vm) qK, EVS.blind g mk a qE⟩, gH_rc hK hT hr_o0 shm_0 rfl, fun U hU hW => ⟨rfl, hU, va_K.moved hW.alike hK, hE.call hS hFc hU hW⟩⟩ rfl rfl hl.1 rfl (lv_room (Nat.le_of_ble_eq_true rfl)) dX12_readAtom_127 ⟨(Nat.le_of_ble_eq_true rfl), (Nat.le_of_ble_eq_true rfl)⟩) hS (fun q _ h => hFc q h) hFc (fun r60 u t H locs ht hvm hw61 hB _ _ hS => ?_)
        obtain ⟨u62, u63⟩ := u
        obtain ⟨hT, hF1, m64, m65⟩ := hB
        rw [ht] at hT hF1 m64 m65
        have m66 := (hF1.fld hr_o0 skm_0 (k := 13) (by decide) (by decide)).trans m45
        have m67 := (hF1.fld hr_o0 skm_0 (k := 15) (by decide) (by decide)).trans m47
        have m70 := (hF1.fld hr_o0 skm_0 (k := 28) (by decide) (by decide)).trans m44
        have hF := hF.more hF1 (by decide)
        try dsimp only at hw61
        obtain ⟨h71, h72, h73, hi74, hf75⟩ := hw61
        refine lv_istore_n (lv' := [(1, .int r60), (0, .ref o0)]) hx hb dX12_readAtom_130 rfl hl (by decide) rfl (fun ls hl => ?_)
        refine lv_iload_n hx hb dX12_readAtom_131 rfl (lv_at hl 0 rfl) ?_
        refine lv_if_ne (tgt := 144) hx hb dX12_readAtom_132 (by decide) (fun c76 => ?_) (fun c76 => ?_)
        · have t77 : r60.toInt ≠ 0 := ti_ne c76 rfl (by decide)
          have t78 : u38.toInt + 1 ≤ u62.toInt := hi74 ((bit_of ⟨by omega, by omega⟩).resolve_left c76)
          refine lv_aload_n hx hb dX12_readAtom_144 rfl (lv_at hl 1 rfl) ?_
          have hFc := gA_free hG hA hS
          refine va_calli (va_runV (As := []) (rest := []) ⟨hx, hb, hml, hown, hts⟩ (s_readSum l dC dI kA adK adV G H q wZ wN wH wB wC wL wK wU wV PI im PM PT lS lB lE lN o0 u62 en u40 S0 lb u41 hT hr_o0 m64 m66 m70 (by have q8 := ti_all u62; omega) (by have q8 := ti_all en; omega) (by have q8 := ti_all u40; omega) (by have := (show u62.toInt = u62.toInt from rfl); have := (show en.toInt = en.toInt from rfl); omega) (by have := (show u40.toInt = u40.toInt from rfl); have := (show u62.toInt = u62.toInt from rfl); omega) hS0 (by have := (show u40.toInt = u40.toInt from rfl); omega) hf56 (by omega) hgz hgn hgh hgb hgc hgi hgu) (cwV 0 hts (goodIn_app (goodIn_r _ [82, 83, 84, 10] rfl (by decide +kernel)) (goodIn_ca (goodIn_r _ [62, 63, 19, 2, 3, 4, 5, 6, 7, 8, 9, 10, 11, 12, 13, 14, 20, 21, 22, 64, 65, 66, 67, 68, 69, 70, 71, 72, 73, 74, 75, 76, 77, 78, 23, 24, 25, 26, 27, 28, 29, 30, 31, 32, 33, 34, 35, 36, 37, 38, 39, 40, 41, 42, 43, 44, 45, 46, 47, 48, 49, 50, 51, 52, 53, 54, 55, 56, 57, 58, 79, 80, 81, 1, 15, 16, 17] rfl (by decide +kernel)) (bs_in _ _))) rfl rfl rfl (by decide +kernel) ⟨(Nat.le_of_ble_eq_true rfl), (Nat.le_of_ble_eq_true rfl)⟩) ⟨fun a U g mk q => by obtain ⟨q0, q1, qK, qE⟩ := q; exact ⟨q0, q1, va_K.moved (u := U) (U := U.calling g mk a) (Vm.Alike.refl U.vm) qK, EVS.blind g mk a qE⟩, gH_rc hK hT hr_o0 shm_0 rfl, fun U hU hW => ⟨rfl, hU, va_K.moved hW.alike hK, hE.call hS hFc hU hW⟩⟩ rfl rfl hl.1 rfl (lv_room (Nat.le_of_ble_eq_true rfl)) dX12_readAtom_145 ⟨(Nat.le_of_ble_eq_true rfl), (Nat.le_of_ble_eq_true rfl)⟩) hS (fun q _ h => hFc q h) hFc (fun r79 u t H locs ht hvm hw80 hB _ _ hS => ?_)
          obtain ⟨u81, u82, u83, u84⟩ := u
          obtain ⟨hT, hF1, m85, m86, m87⟩ := hB
          rw [ht] at hT hF1 m85 m86 m87
          have m89 := (hF1.fld hr_o0 skm_0 (k := 15) (by decide) (by decide)).trans m67
          have hF := hF.more hF1 (by decide)
          try dsimp only at hw80
          obtain ⟨h93, h94, h95, h96, hi97, hf98, hf99⟩ := hw80
          refine lv_if_ne (tgt := 153) hx hb dX12_readAtom_148 (by decide) (fun c100 => ?_) (fun c100 => ?_)
          · have t101 : r79.toInt ≠ 0 := ti_ne c100 rfl (by decide)
            have t102 : u84 u83.toNatClampNeg = u41 u40.toNatClampNeg + 1 := hi97 ((bit_of ⟨by omega, by omega⟩).resolve_left c100)
            refine lv_aload_n hx hb dX12_readAtom_153 rfl (lv_at hl 1 rfl) ?_
            refine lv_iload_n hx hb dX12_readAtom_154 rfl (lv_at hl 0 rfl) ?_
            refine lv_if_eq (tgt := 163) hx hb dX12_readAtom_155 (by decide) (fun c103 => (by exfalso; have q9 : r60.toInt = 0 := ti_eq c103 rfl (by decide); omega)) (fun c103 => ?_)
            have t104 : r60.toInt ≠ 0 := ti_ne c103 rfl (by decide)
            refine lv_bipush (v := 102) hx hb dX12_readAtom_158 (by decide) ?_
            refine lv_goto (tgt := 165) hx hb dX12_readAtom_160 (by decide) ?_
            refine lv_iconst (v := 0) hx hb dX12_readAtom_165 (by decide) ?_
            have hFc := gA_free hG hA hS
            refine va_callv (va_runV (As := [.int 102, .int 0]) (rest := []) ⟨hx, hb, hml, hown, hts⟩ (s_adds l dC dI kA adK adV G H q wZ wN wH wB wC wL wK wU wV PI im PM PT lS lB lE lN o0 102 0 u83 S0 lb u84 (u84 u83.toNatClampNeg - 1) hT hr_o0 m87 (by have q8 := ti_all u83; omega) (by have q9 := (show (102 : Int32).toInt = 102 from (by decide)); unfold stp; omega) hS0 (by have := (show u83.toInt = u83.toInt from rfl); omega) hf99 hgz hgn hgh hgb hgc hgi hgu) (cwV 2 hts (goodIn_app (goodIn_r _ [73, 74, 75, 10] rfl (by decide +kernel)) (goodIn_ca (goodIn_r _ [69, 70, 71, 72] rfl (by decide +kernel)) (bs_in _ _))) rfl rfl rfl (by decide +kernel) ⟨(Nat.le_of_ble_eq_true rfl), (Nat.le_of_ble_eq_true rfl)⟩) ⟨fun a U g mk q => by obtain ⟨q0, q1, qK, qE⟩ := q; exact ⟨q0, q1, va_K.moved (u := U) (U := U.calling g mk a) (Vm.Alike.refl U.vm) qK, EVS.blind g mk a qE⟩, gH_rc hK hT hr_o0 shm_0 rfl, fun U hU hW => ⟨rfl, hU, va_K.moved hW.alike hK, hE.call hS hFc hU hW⟩⟩ rfl rfl hl.1 rfl (lv_room (Nat.le_of_ble_eq_true rfl)) dX12_readAtom_166 ⟨(Nat.le_of_ble_eq_true rfl), (Nat.le_of_ble_eq_true rfl)⟩) hS (fun q _ h => hFc q h) hFc (fun u t H locs ht hvm hw106 hB _ _ hS => ?_)
            obtain ⟨u107, u108⟩ := u
            obtain ⟨hT, hF1, m109⟩ := hB
            rw [ht] at hT hF1 m109
            have m111 := (hF1.fld hr_o0 skm_0 (k := 15) (by decide) (by decide)).trans m89
            have m112 := (hF1.fld hr_o0 skm_0 (k := 12) (by decide) (by decide)).trans m85
            have m113 := (hF1.fld hr_o0 skm_0 (k := 14) (by decide) (by decide)).trans m86
            have hF := hF.more hF1 (by decide)
            try dsimp only at hw106
            obtain ⟨h115, hf116, hf117, hf118⟩ := hw106
            refine lv_iconst (v := 1) hx hb dX12_readAtom_169 (by decide) ?_
            exact W.zret (v := 1) hx hb hr (by decide) (fun t ht hW => ⟨⟨1, (u81, u82, u107, dv, u108), rfl, (by exact ⟨(by have q8 := ti_all u81; omega), (by have q8 := ti_all u82; omega), (by have q8 := ti_all u107; omega), (rg_t (a := 1) (by decide) (by first | decide | omega) (by first | decide | omega)), (fun _ => (by omega)), (fun _ => (by omega)), (by omega), hf118⟩), by (try dsimp only); rw [ht]; exact ⟨hT, hF, m112, m113, m109, m111⟩⟩, hS.F ht⟩) hS.2.2 dX12_readAtom_170
          · have t119 : r79.toInt = 0 := ti_eq c100 rfl (by decide)
            refine lv_iconst (v := 0) hx hb dX12_readAtom_151 (by decide) ?_
            exact W.zret (v := 0) hx hb hr (by decide) (fun t ht hW => ⟨⟨0, (u81, u82, u83, dv, u84), rfl, (by exact ⟨(by have q8 := ti_all u81; omega), (by have q8 := ti_all u82; omega), (by have q8 := ti_all u83; omega), (rg_t (a := 0) (by decide) (by first | decide | omega) (by first | decide | omega)), (fun h => absurd h (by decide)), (fun h => absurd h (by decide)), (by omega), hf99⟩), by (try dsimp only); rw [ht]; exact ⟨hT, hF, m85, m86, m87, m89⟩⟩, hS.F ht⟩) hS.2.2 dX12_readAtom_152
        · have t120 : r60.toInt = 0 := ti_eq c76 rfl (by decide)
          refine lv_aload_n hx hb dX12_readAtom_135 rfl (lv_at hl 1 rfl) ?_
          refine lv_bipush (v := 62) hx hb dX12_readAtom_136 (by decide) ?_
          have hFc := gA_free hG hA hS
          refine va_calli (va_runV (As := [.int 62]) (rest := []) ⟨hx, hb, hml, hown, hts⟩ (s_sign l dC dI kA adK adV G H q wZ wN wH wB wC wL wK wU wV PI im PM PT (lD (dS S0 lb u40.toInt u41) lS) lB lE lN o0 62 u62 en hT hr_o0 m64 m66 (by have q8 := ti_all u62; omega) (by have q8 := ti_all en; omega) (by have := (show u62.toInt = u62.toInt from rfl); have := (show en.toInt = en.toInt from rfl); omega) hgz hgn hgh hgb hgc hgi hgu) (cwV 1 hts (goodIn_app (goodIn_r _ [15, 16, 17, 10] rfl (by decide +kernel)) (goodIn_ca (goodIn_r _ [1, 2, 3, 4, 5, 6, 7, 8, 9, 10, 11, 12, 13, 14] rfl (by decide +kernel)) (bs_in _ _))) rfl rfl rfl (by decide +kernel) ⟨(Nat.le_of_ble_eq_true rfl), (Nat.le_of_ble_eq_true rfl)⟩) ⟨fun a U g mk q => by obtain ⟨q0, q1, qK, qE⟩ := q; exact ⟨q0, q1, va_K.moved (u := U) (U := U.calling g mk a) (Vm.Alike.refl U.vm) qK, EVS.blind g mk a qE⟩, gH_rc hK hT hr_o0 shm_0 rfl, fun U hU hW => ⟨rfl, hU, va_K.moved hW.alike hK, hE.call hS hFc hU hW⟩⟩ rfl rfl hl.1 rfl (lv_room (Nat.le_of_ble_eq_true rfl)) dX12_readAtom_138 ⟨(Nat.le_of_ble_eq_true rfl), (Nat.le_of_ble_eq_true rfl)⟩) hS (fun q _ h => hFc q h) hFc (fun r121 u t H locs ht hvm hw122 hB _ _ hS => ?_)
          obtain ⟨u123, u124⟩ := u
          obtain ⟨hT, hF1, m125, m126⟩ := hB
          rw [ht] at hT hF1 m125 m126
          have m127 := (hF1.fld hr_o0 skm_0 (k := 13) (by decide) (by decide)).trans m66
          have m128 := (hF1.fld hr_o0 skm_0 (k := 15) (by decide) (by decide)).trans m67
          have m129 := (hF1.fld hr_o0 skm_0 (k := 28) (by decide) (by decide)).trans m70
          have hF := hF.more hF1 (by decide)
          try dsimp only at hw122
          obtain ⟨h132, h133, h134, hi135, hf136⟩ := hw122
          refine lv_if_eq (tgt := 151) hx hb dX12_readAtom_141 (by decide) (fun c137 => ?_) (fun c137 => ?_)
          · have t138 : r121.toInt = 0 := ti_eq c137 rfl (by decide)
            refine lv_iconst (v := 0) hx hb dX12_readAtom_151 (by decide) ?_
            exact W.zret (v := 0) hx hb hr (by decide) (fun t ht hW => ⟨⟨0, (u123, u124, u40, dv, u41), rfl, (by exact ⟨(by have q8 := ti_all u123; omega), (by have q8 := ti_all u124; omega), (by have q8 := ti_all u40; omega), (rg_t (a := 0) (by decide) (by first | decide | omega) (by first | decide | omega)), (fun h => absurd h (by decide)), (fun h => absurd h (by decide)), (by omega), hf56⟩), by (try dsimp only); rw [ht]; exact ⟨hT, hF, m125, m126, m129, m128⟩⟩, hS.F ht⟩) hS.2.2 dX12_readAtom_152
          · have t139 : r121.toInt ≠ 0 := ti_ne c137 rfl (by decide)
            have t140 : u62.toInt + 1 ≤ u123.toInt := hi135 ((bit_of ⟨by omega, by omega⟩).resolve_left c137)
            refine lv_aload_n hx hb dX12_readAtom_144 rfl (lv_at hl 1 rfl) ?_
            have hFc := gA_free hG hA hS
            refine va_calli (va_runV (As := []) (rest := []) ⟨hx, hb, hml, hown, hts⟩ (s_readSum l dC dI kA adK adV G H q wZ wN wH wB wC wL wK wU wV PI im PM PT lS lB lE lN o0 u123 en u40 S0 lb u41 hT hr_o0 m125 m127 m129 (by have q8 := ti_all u123; omega) (by have q8 := ti_all en; omega) (by have q8 := ti_all u40; omega) (by have := (show u123.toInt = u123.toInt from rfl); have := (show en.toInt = en.toInt from rfl); omega) (by have := (show u40.toInt = u40.toInt from rfl); have := (show u123.toInt = u123.toInt from rfl); omega) hS0 (by have := (show u40.toInt = u40.toInt from rfl); omega) hf56 (by omega) hgz hgn hgh hgb hgc hgi hgu) (cwV 0 hts (goodIn_app (goodIn_r _ [82, 83, 84, 10] rfl (by decide +kernel)) (goodIn_ca (goodIn_r _ [62, 63, 19, 2, 3, 4, 5, 6, 7, 8, 9, 10, 11, 12, 13, 14, 20, 21, 22, 64, 65, 66, 67, 68, 69, 70, 71, 72, 73, 74, 75, 76, 77, 78, 23, 24, 25, 26, 27, 28, 29, 30, 31, 32, 33, 34, 35, 36, 37, 38, 39, 40, 41, 42, 43, 44, 45, 46, 47, 48, 49, 50, 51, 52, 53, 54, 55, 56, 57, 58, 79, 80, 81, 1, 15, 16, 17] rfl (by decide +kernel)) (bs_in _ _))) rfl rfl rfl (by decide +kernel) ⟨(Nat.le_of_ble_eq_true rfl), (Nat.le_of_ble_eq_true rfl)⟩) ⟨fun a U g mk q => by obtain ⟨q0, q1, qK, qE⟩ := q; exact ⟨q0, q1, va_K.moved (u := U) (U := U.calling g mk a) (Vm.Alike.refl U.vm) qK, EVS.blind g mk a qE⟩, gH_rc hK hT hr_o0 shm_0 rfl, fun U hU hW => ⟨rfl, hU, va_K.moved hW.alike hK, hE.call hS hFc hU hW⟩⟩ rfl rfl hl.1 rfl (lv_room (Nat.le_of_ble_eq_true rfl)) dX12_readAtom_145 ⟨(Nat.le_of_ble_eq_true rfl), (Nat.le_of_ble_eq_true rfl)⟩) hS (fun q _ h => hFc q h) hFc (fun r141 u t H locs ht hvm hw142 hB _ _ hS => ?_)
            obtain ⟨u143, u144, u145, u146⟩ := u
            obtain ⟨hT, hF1, m147, m148, m149⟩ := hB
            rw [ht] at hT hF1 m147 m148 m149
            have m151 := (hF1.fld hr_o0 skm_0 (k := 15) (by decide) (by decide)).trans m128
            have hF := hF.more hF1 (by decide)
            try dsimp only at hw142
            obtain ⟨h155, h156, h157, h158, hi159, hf160, hf161⟩ := hw142
            refine lv_if_ne (tgt := 153) hx hb dX12_readAtom_148 (by decide) (fun c162 => ?_) (fun c162 => ?_)
            · have t163 : r141.toInt ≠ 0 := ti_ne c162 rfl (by decide)
              have t164 : u146 u145.toNatClampNeg = u41 u40.toNatClampNeg + 1 := hi159 ((bit_of ⟨by omega, by omega⟩).resolve_left c162)
              refine lv_aload_n hx hb dX12_readAtom_153 rfl (lv_at hl 1 rfl) ?_
              refine lv_iload_n hx hb dX12_readAtom_154 rfl (lv_at hl 0 rfl) ?_
              refine lv_if_eq (tgt := 163) hx hb dX12_readAtom_155 (by decide) (fun c165 => ?_) (fun c165 => (by exfalso; have q9 : r60.toInt ≠ 0 := ti_ne c165 rfl (by decide); omega))
              have t166 : r60.toInt = 0 := ti_eq c165 rfl (by decide)
              refine lv_bipush (v := 103) hx hb dX12_readAtom_163 (by decide) ?_
              refine lv_iconst (v := 0) hx hb dX12_readAtom_165 (by decide) ?_
              have hFc := gA_free hG hA hS
              refine va_callv (va_runV (As := [.int 103, .int 0]) (rest := []) ⟨hx, hb, hml, hown, hts⟩ (s_adds l dC dI kA adK adV G H q wZ wN wH wB wC wL wK wU wV PI im PM PT lS lB lE lN o0 103 0 u145 S0 lb u146 (u146 u145.toNatClampNeg - 1) hT hr_o0 m149 (by have q8 := ti_all u145; omega) (by have q9 := (show (103 : Int32).toInt = 103 from (by decide)); unfold stp; omega) hS0 (by have := (show u145.toInt = u145.toInt from rfl); omega) hf161 hgz hgn hgh hgb hgc hgi hgu) (cwV 2 hts (goodIn_app (goodIn_r _ [73, 74, 75, 10] rfl (by decide +kernel)) (goodIn_ca (goodIn_r _ [69, 70, 71, 72] rfl (by decide +kernel)) (bs_in _ _))) rfl rfl rfl (by decide +kernel) ⟨(Nat.le_of_ble_eq_true rfl), (Nat.le_of_ble_eq_true rfl)⟩) ⟨fun a U g mk q => by obtain ⟨q0, q1, qK, qE⟩ := q; exact ⟨q0, q1, va_K.moved (u := U) (U := U.calling g mk a) (Vm.Alike.refl U.vm) qK, EVS.blind g mk a qE⟩, gH_rc hK hT hr_o0 shm_0 rfl, fun U hU hW => ⟨rfl, hU, va_K.moved hW.alike hK, hE.call hS hFc hU hW⟩⟩ rfl rfl hl.1 rfl (lv_room (Nat.le_of_ble_eq_true rfl)) dX12_readAtom_166 ⟨(Nat.le_of_ble_eq_true rfl), (Nat.le_of_ble_eq_true rfl)⟩) hS (fun q _ h => hFc q h) hFc (fun u t H locs ht hvm hw168 hB _ _ hS => ?_)
              obtain ⟨u169, u170⟩ := u
              obtain ⟨hT, hF1, m171⟩ := hB
              rw [ht] at hT hF1 m171
              have m173 := (hF1.fld hr_o0 skm_0 (k := 15) (by decide) (by decide)).trans m151
              have m174 := (hF1.fld hr_o0 skm_0 (k := 12) (by decide) (by decide)).trans m147
              have m175 := (hF1.fld hr_o0 skm_0 (k := 14) (by decide) (by decide)).trans m148
              have hF := hF.more hF1 (by decide)
              try dsimp only at hw168
              obtain ⟨h177, hf178, hf179, hf180⟩ := hw168
              refine lv_iconst (v := 1) hx hb dX12_readAtom_169 (by decide) ?_
              exact W.zret (v := 1) hx hb hr (by decide) (fun t ht hW => ⟨⟨1, (u143, u144, u169, dv, u170), rfl, (by exact ⟨(by have q8 := ti_all u143; omega), (by have q8 := ti_all u144; omega), (by have q8 := ti_all u169; omega), (rg_t (a := 1) (by decide) (by first | decide | omega) (by first | decide | omega)), (fun _ => (by omega)), (fun _ => (by omega)), (by omega), hf180⟩), by (try dsimp only); rw [ht]; exact ⟨hT, hF, m174, m175, m171, m173⟩⟩, hS.F ht⟩) hS.2.2 dX12_readAtom_170
            · have t181 : r141.toInt = 0 := ti_eq c162 rfl (by decide)
              refine lv_iconst (v := 0) hx hb dX12_readAtom_151 (by decide) ?_
              exact W.zret (v := 0) hx hb hr (by decide) (fun t ht hW => ⟨⟨0, (u143, u144, u145, dv, u146), rfl, (by exact ⟨(by have q8 := ti_all u143; omega), (by have q8 := ti_all u144; omega), (by have q8 := ti_all u145; omega), (rg_t (a := 0) (by decide) (by first | decide | omega) (by first | decide | omega)), (fun h => absurd h (by decide)), (fun h => absurd h (by decide)), (by omega), hf161⟩), by (try dsimp only); rw [ht]; exact ⟨hT, hF, m147, m148, m149, m151⟩⟩, hS.F ht⟩) hS.2.2 dX12_readAtom_152
      · have t182 : r36.toInt = 0 := ti_eq c57 rfl (by decide)
        refine lv_iconst (v := 0) hx hb dX12_readAtom_122 (by decide) ?_
        exact W.zret (v := 0) hx hb hr (by decide) (fun t ht hW => ⟨⟨0, (u38, u39, u40, dv, u41), rfl, (by exact ⟨(by have q8 := ti_all u38; omega), (by have q8 := ti_all u39; omega), (by have q8 := ti_all u40; omega), (rg_t (a := 0) (by decide) (by first | decide | omega) (by first | decide | omega)), (fun h => absurd h (by decide)), (fun h => absurd h (by decide)), (by omega), hf56⟩), by (try dsimp only); rw [ht]; exact ⟨hT, hF, m42, m43, m44, m47⟩⟩, hS.F ht⟩) hS.2.2 dX12_readAtom_123
    · have t183 : r18.toInt ≠ 0 := ti_ne c34 rfl (by decide)
      have t184 : u3.toInt + 1 ≤ u20.toInt := hi32 ((bit_of ⟨by omega, by omega⟩).resolve_left c34)
      refine lv_aload_n hx hb dX12_readAtom_66 rfl (lv_at hl 0 rfl) ?_
      refine tw_getM (v := .int dv) hx hb hts bF_X12 hown hK hT hr_o0 shm_0 rfl 15 (by decide) (ht_at hts 84 rfl) (fun _ h9 => h9) m26 dX12_readAtom_67 ?_
      refine lv_bipush (v := 6) hx hb dX12_readAtom_70 (by decide) ?_
      refine lv_icmp_ne (tgt := 77) hx hb dX12_readAtom_72 (by decide) (fun c185 => ?_) (fun c185 => (by exfalso; have q9 : dv.toInt = 6 := ti_eq c185 rfl (by decide); omega))
      have t186 : dv.toInt ≠ 6 := ti_ne c185 rfl (by decide)
      refine lv_aload_n hx hb dX12_readAtom_77 rfl (lv_at hl 0 rfl) ?_
      refine lv_dup hx hb dX12_readAtom_78 rfl ?_
      refine tw_getM (v := .int dv) hx hb hts bF_X12 hown hK hT hr_o0 shm_0 rfl 15 (by decide) (ht_at hts 84 rfl) (fun _ h9 => h9) m26 dX12_readAtom_79 ?_
      refine lv_iconst (v := 1) hx hb dX12_readAtom_82 (by decide) ?_
      refine lv_iadd hx hb dX12_readAtom_83 ?_
      refine lv_topi (fun x187 ex187 => ?_)
      have t188 : x187.toInt = dv.toInt + 1 := ti_add ex187 rfl (by decide) (by omega) (by omega)
      refine tw_put (v := .int x187) (ty := .int) hx hb hts bF_X12 tyX12 tyX12_ok nmX12 hown hK hT hG hS hr_o0 shm_0 rfl 15 (by decide) (ht_at hts 84 rfl) (fun _ h9 => h9) rfl (by decide +kernel) rfl rfl (gl_at rfl (gi_all _)) dX12_readAtom_84 (fun H locs hT oq m189 oj hS => ?_)
      have hF := hF.put hr_o0 skm_0 oq oj (by decide)
      have m190 := (oj 13 (by decide) (by decide)).trans m24
      have m191 := (oj 28 (by decide) (by decide)).trans m25
      have m192 := (oj 12 (by decide) (by decide)).trans m22
      refine lv_aload_n hx hb dX12_readAtom_87 rfl (lv_at hl 0 rfl) ?_
      have hFc := gA_free hG hA hS
      refine va_calli (va_runV (As := []) (rest := []) ⟨hx, hb, hml, hown, hts⟩ (s_readAtom5 l dC dI kA adK adV G H q wZ wN wH wB wC wL wK wU wV PI im PM PT lS lB lE lN o0 u20 en sv x187 S0 lb ld hT hr_o0 m192 m190 m191 m189 (by have q8 := ti_all u20; omega) (by have q8 := ti_all en; omega) (by have q8 := ti_all sv; omega) (by have := (show u20.toInt = u20.toInt from rfl); have := (show en.toInt = en.toInt from rfl); omega) (by have := (show sv.toInt = sv.toInt from rfl); have := (show u20.toInt = u20.toInt from rfl); omega) hS0 (by have := (show sv.toInt = sv.toInt from rfl); omega) hlg (by omega) (by have q8 := ti_all x187; omega) hgz hgn hgh hgb hgc hgi hgu) (cwV 0 hts (goodIn_app (goodIn_r _ [87, 88, 89, 10] rfl (by decide +kernel)) (goodIn_ca (goodIn_r _ [86, 1, 2, 3, 4, 5, 6, 7, 8, 9, 10, 11, 12, 13, 14, 15, 16, 17, 18, 19, 20, 21, 22, 23, 24, 25, 26, 27, 28, 29, 30, 31, 32, 33, 34, 35, 36, 37, 38, 39, 40, 41, 42, 43, 44, 45, 46, 47, 48, 49, 50, 51, 52, 53, 54, 55, 56, 57, 58, 59, 60, 61, 62, 63, 64, 65, 66, 67, 68, 69, 70, 71, 72, 73, 74, 75, 76, 77, 78, 79, 80, 81, 82, 83, 84, 85, 86, 87, 88, 89, 90, 91, 92, 93, 94, 95, 96, 97] rfl (by decide +kernel)) (bs_in _ _))) rfl rfl rfl (by decide +kernel) ⟨(Nat.le_of_ble_eq_true rfl), (Nat.le_of_ble_eq_true rfl)⟩) ⟨fun a U g mk q => by obtain ⟨q0, q1, qK, qE⟩ := q; exact ⟨q0, q1, va_K.moved (u := U) (U := U.calling g mk a) (Vm.Alike.refl U.vm) qK, EVS.blind g mk a qE⟩, gH_rc hK hT hr_o0 shm_0 rfl, fun U hU hW => ⟨rfl, hU, va_K.moved hW.alike hK, hE.call hS hFc hU hW⟩⟩ rfl rfl hl.1 rfl (lv_room (Nat.le_of_ble_eq_true rfl)) dX12_readAtom_88 ⟨(Nat.le_of_ble_eq_true rfl), (Nat.le_of_ble_eq_true rfl)⟩) hS (fun q _ h => hFc q h) hFc (fun r194 u t H locs ht hvm hw195 hB _ _ hS => ?_)
      obtain ⟨u196, u197, u198, u199, u200⟩ := u
      obtain ⟨hT, hF1, m201, m202, m203, m204⟩ := hB
      rw [ht] at hT hF1 m201 m202 m203 m204
      have hF := hF.more hF1 (by decide)
      try dsimp only at hw195
      obtain ⟨h210, h211, h212, h213, hi214, hi215, hf216, hf217⟩ := hw195
      refine lv_if_ne (tgt := 96) hx hb dX12_readAtom_91 (by decide) (fun c218 => ?_) (fun c218 => ?_)
      · have t219 : r194.toInt ≠ 0 := ti_ne c218 rfl (by decide)
        have t220 : u200 u198.toNatClampNeg = ld sv.toNatClampNeg + 1 := hi214 ((bit_of ⟨by omega, by omega⟩).resolve_left c218)
        have t221 : u199.toInt = 5 := hi215 ((bit_of ⟨by omega, by omega⟩).resolve_left c218)
        refine lv_aload_n hx hb dX12_readAtom_96 rfl (lv_at hl 0 rfl) ?_
        refine lv_dup hx hb dX12_readAtom_97 rfl ?_
        refine tw_getM (v := .int u199) hx hb hts bF_X12 hown hK hT hr_o0 shm_0 rfl 15 (by decide) (ht_at hts 84 rfl) (fun _ h9 => h9) m204 dX12_readAtom_98 ?_
        refine lv_iconst (v := 1) hx hb dX12_readAtom_101 (by decide) ?_
        refine lv_isub hx hb dX12_readAtom_102 ?_
        refine lv_topi (fun x222 ex222 => ?_)
        have t223 : x222.toInt = u199.toInt - 1 := ti_sub ex222 rfl (by decide) (by omega) (by omega)
        refine tw_put (v := .int x222) (ty := .int) hx hb hts bF_X12 tyX12 tyX12_ok nmX12 hown hK hT hG hS hr_o0 shm_0 rfl 15 (by decide) (ht_at hts 84 rfl) (fun _ h9 => h9) rfl (by decide +kernel) rfl rfl (gl_at rfl (gi_all _)) dX12_readAtom_103 (fun H locs hT oq m224 oj hS => ?_)
        have hF := hF.put hr_o0 skm_0 oq oj (by decide)
        have m226 := (oj 12 (by decide) (by decide)).trans m201
        have m227 := (oj 14 (by decide) (by decide)).trans m202
        have m228 := (oj 28 (by decide) (by decide)).trans m203
        refine lv_aload_n hx hb dX12_readAtom_106 rfl (lv_at hl 0 rfl) ?_
        refine lv_bipush (v := 104) hx hb dX12_readAtom_107 (by decide) ?_
        refine lv_iconst (v := 0) hx hb dX12_readAtom_109 (by decide) ?_
        have hFc := gA_free hG hA hS
        refine va_callv (va_runV (As := [.int 104, .int 0]) (rest := []) ⟨hx, hb, hml, hown, hts⟩ (s_adds l dC dI kA adK adV G H q wZ wN wH wB wC wL wK wU wV PI im PM PT lS lB lE lN o0 104 0 u198 S0 lb u200 (u200 u198.toNatClampNeg) hT hr_o0 m228 (by have q8 := ti_all u198; omega) (by have q9 := (show (104 : Int32).toInt = 104 from (by decide)); unfold stp; omega) hS0 (by have := (show u198.toInt = u198.toInt from rfl); omega) hf217 hgz hgn hgh hgb hgc hgi hgu) (cwV 2 hts (goodIn_app (goodIn_r _ [73, 74, 75, 10] rfl (by decide +kernel)) (goodIn_ca (goodIn_r _ [69, 70, 71, 72] rfl (by decide +kernel)) (bs_in _ _))) rfl rfl rfl (by decide +kernel) ⟨(Nat.le_of_ble_eq_true rfl), (Nat.le_of_ble_eq_true rfl)⟩) ⟨fun a U g mk q => by obtain ⟨q0, q1, qK, qE⟩ := q; exact ⟨q0, q1, va_K.moved (u := U) (U := U.calling g mk a) (Vm.Alike.refl U.vm) qK, EVS.blind g mk a qE⟩, gH_rc hK hT hr_o0 shm_0 rfl, fun U hU hW => ⟨rfl, hU, va_K.moved hW.alike hK, hE.call hS hFc hU hW⟩⟩ rfl rfl hl.1 rfl (lv_room (Nat.le_of_ble_eq_true rfl)) dX12_readAtom_110 ⟨(Nat.le_of_ble_eq_true rfl), (Nat.le_of_ble_eq_true rfl)⟩) hS (fun q _ h => hFc q h) hFc (fun u t H locs ht hvm hw230 hB _ _ hS => ?_)
        obtain ⟨u231, u232⟩ := u
        obtain ⟨hT, hF1, m233⟩ := hB
        rw [ht] at hT hF1 m233
        have m235 := (hF1.fld hr_o0 skm_0 (k := 12) (by decide) (by decide)).trans m226
        have m236 := (hF1.fld hr_o0 skm_0 (k := 14) (by decide) (by decide)).trans m227
        have m238 := (hF1.fld hr_o0 skm_0 (k := 15) (by decide) (by decide)).trans m224
        have hF := hF.more hF1 (by decide)
        try dsimp only at hw230
        obtain ⟨h239, hf240, hf241, hf242⟩ := hw230
        refine lv_iconst (v := 1) hx hb dX12_readAtom_113 (by decide) ?_
        exact W.zret (v := 1) hx hb hr (by decide) (fun t ht hW => ⟨⟨1, (u196, u197, u231, x222, u232), rfl, (by exact ⟨(by have q8 := ti_all u196; omega), (by have q8 := ti_all u197; omega), (by have q8 := ti_all u231; omega), (rg_t (a := 1) (by decide) (by first | decide | omega) (by first | decide | omega)), (fun _ => (by omega)), (fun _ => (by omega)), (by omega), hf242⟩), by (try dsimp only); rw [ht]; exact ⟨hT, hF, m235, m236, m233, m238⟩⟩, hS.F ht⟩) hS.2.2 dX12_readAtom_114
      · have t243 : r194.toInt = 0 := ti_eq c218 rfl (by decide)
        refine lv_iconst (v := 0) hx hb dX12_readAtom_94 (by decide) ?_
        exact W.zret (v := 0) hx hb hr (by decide) (fun t ht hW => ⟨⟨0, (u196, u197, u198, u199, u200), rfl, (by exact ⟨(by have q8 := ti_all u196; omega), (by have q8 := ti_all u197; omega), (by have q8 := ti_all u198; omega), (rg_t (a := 0) (by decide) (by first | decide | omega) (by first | decide | omega)), (fun h => absurd h (by decide)), (fun h => absurd h (by decide)), (by omega), hf217⟩), by (try dsimp only); rw [ht]; exact ⟨hT, hF, m201, m202, m203, m204⟩⟩, hS.F ht⟩) hS.2.2 dX12_readAtom_95
  · have t244 : r1.toInt ≠ 0 := ti_ne c16 rfl (by decide)
    have t245 : pt.toInt + 1 ≤ u3.toInt := hi14 ((bit_of ⟨by omega, by omega⟩).resolve_left c16)
    refine lv_aload_n hx hb dX12_readAtom_9 rfl (lv_at hl 0 rfl) ?_
    refine tw_getM (v := .int dv) hx hb hts bF_X12 hown hK hT hr_o0 shm_0 rfl 15 (by decide) (ht_at hts 84 rfl) (fun _ h9 => h9) m10 dX12_readAtom_10 ?_
    refine lv_bipush (v := 6) hx hb dX12_readAtom_13 (by decide) ?_
    refine lv_icmp_ne (tgt := 20) hx hb dX12_readAtom_15 (by decide) (fun c246 => ?_) (fun c246 => (by exfalso; have q9 : dv.toInt = 6 := ti_eq c246 rfl (by decide); omega))
    have t247 : dv.toInt ≠ 6 := ti_ne c246 rfl (by decide)
    refine lv_aload_n hx hb dX12_readAtom_20 rfl (lv_at hl 0 rfl) ?_
    refine lv_dup hx hb dX12_readAtom_21 rfl ?_
    refine tw_getM (v := .int dv) hx hb hts bF_X12 hown hK hT hr_o0 shm_0 rfl 15 (by decide) (ht_at hts 84 rfl) (fun _ h9 => h9) m10 dX12_readAtom_22 ?_
    refine lv_iconst (v := 1) hx hb dX12_readAtom_25 (by decide) ?_
    refine lv_iadd hx hb dX12_readAtom_26 ?_
    refine lv_topi (fun x248 ex248 => ?_)
    have t249 : x248.toInt = dv.toInt + 1 := ti_add ex248 rfl (by decide) (by omega) (by omega)
    refine tw_put (v := .int x248) (ty := .int) hx hb hts bF_X12 tyX12 tyX12_ok nmX12 hown hK hT hG hS hr_o0 shm_0 rfl 15 (by decide) (ht_at hts 84 rfl) (fun _ h9 => h9) rfl (by decide +kernel) rfl rfl (gl_at rfl (gi_all _)) dX12_readAtom_27 (fun H locs hT oq m250 oj hS => ?_)
    have hF := hF.put hr_o0 skm_0 oq oj (by decide)
    have m251 := (oj 13 (by decide) (by decide)).trans m8
    have m252 := (oj 28 (by decide) (by decide)).trans m9
    have m253 := (oj 12 (by decide) (by decide)).trans m5
    refine lv_aload_n hx hb dX12_readAtom_30 rfl (lv_at hl 0 rfl) ?_
    have hFc := gA_free hG hA hS
    refine va_calli (va_runV (As := []) (rest := []) ⟨hx, hb, hml, hown, hts⟩ (s_readCond5 l dC dI kA adK adV G H q wZ wN wH wB wC wL wK wU wV PI im PM PT lS lB lE lN o0 u3 en sv x248 S0 lb ld hT hr_o0 m253 m251 m252 m250 (by have q8 := ti_all u3; omega) (by have q8 := ti_all en; omega) (by have q8 := ti_all sv; omega) (by have := (show u3.toInt = u3.toInt from rfl); have := (show en.toInt = en.toInt from rfl); omega) (by have := (show sv.toInt = sv.toInt from rfl); have := (show u3.toInt = u3.toInt from rfl); omega) hS0 (by have := (show sv.toInt = sv.toInt from rfl); omega) hlg (by omega) (by have q8 := ti_all x248; omega) hgz hgn hgh hgb hgc hgi hgu) (cwV 0 hts (goodIn_app (goodIn_r _ [95, 96, 97, 10] rfl (by decide +kernel)) (goodIn_ca (goodIn_r _ [90, 91, 86, 1, 2, 3, 4, 5, 6, 7, 8, 9, 10, 11, 12, 13, 14, 15, 16, 17, 18, 19, 20, 21, 22, 23, 24, 25, 26, 27, 28, 29, 30, 31, 32, 33, 34, 35, 36, 37, 38, 39, 40, 41, 42, 43, 44, 45, 46, 47, 48, 49, 50, 51, 52, 53, 54, 55, 56, 57, 58, 59, 60, 61, 62, 63, 64, 65, 66, 67, 68, 69, 70, 71, 72, 73, 74, 75, 76, 77, 78, 79, 80, 81, 82, 83, 84, 85, 87, 88, 89, 90, 92, 93, 94, 95, 96, 97] rfl (by decide +kernel)) (bs_in _ _))) rfl rfl rfl (by decide +kernel) ⟨(Nat.le_of_ble_eq_true rfl), (Nat.le_of_ble_eq_true rfl)⟩) ⟨fun a U g mk q => by obtain ⟨q0, q1, qK, qE⟩ := q; exact ⟨q0, q1, va_K.moved (u := U) (U := U.calling g mk a) (Vm.Alike.refl U.vm) qK, EVS.blind g mk a qE⟩, gH_rc hK hT hr_o0 shm_0 rfl, fun U hU hW => ⟨rfl, hU, va_K.moved hW.alike hK, hE.call hS hFc hU hW⟩⟩ rfl rfl hl.1 rfl (lv_room (Nat.le_of_ble_eq_true rfl)) dX12_readAtom_31 ⟨(Nat.le_of_ble_eq_true rfl), (Nat.le_of_ble_eq_true rfl)⟩) hS (fun q _ h => hFc q h) hFc (fun r255 u t H locs ht hvm hw256 hB _ _ hS => ?_)
    obtain ⟨u257, u258, u259, u260, u261⟩ := u
    obtain ⟨hT, hF1, m262, m263, m264, m265⟩ := hB
    rw [ht] at hT hF1 m262 m263 m264 m265
    have m266 := (hF1.fld hr_o0 skm_0 (k := 13) (by decide) (by decide)).trans m251
    have hF := hF.more hF1 (by decide)
    try dsimp only at hw256
    obtain ⟨h271, h272, h273, h274, hi275, hi276, hf277, hf278⟩ := hw256
    refine lv_if_ne (tgt := 39) hx hb dX12_readAtom_34 (by decide) (fun c279 => ?_) (fun c279 => ?_)
    · have t280 : r255.toInt ≠ 0 := ti_ne c279 rfl (by decide)
      have t281 : u261 u259.toNatClampNeg = ld sv.toNatClampNeg + 1 := hi275 ((bit_of ⟨by omega, by omega⟩).resolve_left c279)
      have t282 : u260.toInt = 5 := hi276 ((bit_of ⟨by omega, by omega⟩).resolve_left c279)
      refine lv_aload_n hx hb dX12_readAtom_39 rfl (lv_at hl 0 rfl) ?_
      refine lv_dup hx hb dX12_readAtom_40 rfl ?_
      refine tw_getM (v := .int u260) hx hb hts bF_X12 hown hK hT hr_o0 shm_0 rfl 15 (by decide) (ht_at hts 84 rfl) (fun _ h9 => h9) m265 dX12_readAtom_41 ?_
      refine lv_iconst (v := 1) hx hb dX12_readAtom_44 (by decide) ?_
      refine lv_isub hx hb dX12_readAtom_45 ?_
      refine lv_topi (fun x283 ex283 => ?_)
      have t284 : x283.toInt = u260.toInt - 1 := ti_sub ex283 rfl (by decide) (by omega) (by omega)
      refine tw_put (v := .int x283) (ty := .int) hx hb hts bF_X12 tyX12 tyX12_ok nmX12 hown hK hT hG hS hr_o0 shm_0 rfl 15 (by decide) (ht_at hts 84 rfl) (fun _ h9 => h9) rfl (by decide +kernel) rfl rfl (gl_at rfl (gi_all _)) dX12_readAtom_46 (fun H locs hT oq m285 oj hS => ?_)
      have hF := hF.put hr_o0 skm_0 oq oj (by decide)
      have m286 := (oj 13 (by decide) (by decide)).trans m266
      have m287 := (oj 12 (by decide) (by decide)).trans m262
      have m289 := (oj 28 (by decide) (by decide)).trans m264
      refine lv_aload_n hx hb dX12_readAtom_49 rfl (lv_at hl 0 rfl) ?_
      refine lv_bipush (v := 41) hx hb dX12_readAtom_50 (by decide) ?_
      have hFc := gA_free hG hA hS
      refine va_calli (va_runV (As := [.int 41]) (rest := []) ⟨hx, hb, hml, hown, hts⟩ (s_sign l dC dI kA adK adV G H q wZ wN wH wB wC wL wK wU wV PI im PM PT (lD (dS S0 lb u259.toInt u261) lS) lB lE lN o0 41 u257 en hT hr_o0 m287 m286 (by have q8 := ti_all u257; omega) (by have q8 := ti_all en; omega) (by have := (show u257.toInt = u257.toInt from rfl); have := (show en.toInt = en.toInt from rfl); omega) hgz hgn hgh hgb hgc hgi hgu) (cwV 1 hts (goodIn_app (goodIn_r _ [15, 16, 17, 10] rfl (by decide +kernel)) (goodIn_ca (goodIn_r _ [1, 2, 3, 4, 5, 6, 7, 8, 9, 10, 11, 12, 13, 14] rfl (by decide +kernel)) (bs_in _ _))) rfl rfl rfl (by decide +kernel) ⟨(Nat.le_of_ble_eq_true rfl), (Nat.le_of_ble_eq_true rfl)⟩) ⟨fun a U g mk q => by obtain ⟨q0, q1, qK, qE⟩ := q; exact ⟨q0, q1, va_K.moved (u := U) (U := U.calling g mk a) (Vm.Alike.refl U.vm) qK, EVS.blind g mk a qE⟩, gH_rc hK hT hr_o0 shm_0 rfl, fun U hU hW => ⟨rfl, hU, va_K.moved hW.alike hK, hE.call hS hFc hU hW⟩⟩ rfl rfl hl.1 rfl (lv_room (Nat.le_of_ble_eq_true rfl)) dX12_readAtom_52 ⟨(Nat.le_of_ble_eq_true rfl), (Nat.le_of_ble_eq_true rfl)⟩) hS (fun q _ h => hFc q h) hFc (fun r290 u t H locs ht hvm hw291 hB _ _ hS => ?_)
      obtain ⟨u292, u293⟩ := u
      obtain ⟨hT, hF1, m294, m295⟩ := hB
      rw [ht] at hT hF1 m294 m295
      have m299 := (hF1.fld hr_o0 skm_0 (k := 28) (by decide) (by decide)).trans m289
      have m300 := (hF1.fld hr_o0 skm_0 (k := 15) (by decide) (by decide)).trans m285
      have hF := hF.more hF1 (by decide)
      try dsimp only at hw291
      obtain ⟨h301, h302, h303, hi304, hf305⟩ := hw291
      exact W.zret (v := r290) hx hb hr (nar_b (by have q8 := ti_all r290; omega)) (fun t ht hW => ⟨⟨r290, (u292, u293, u259, x283, u261), rfl, (by exact ⟨(by have q8 := ti_all u292; omega), (by have q8 := ti_all u293; omega), (by have q8 := ti_all u259; omega), (by have q8 := ti_all r290; omega), (fun _ => by omega), (fun _ => by omega), (by omega), hf278⟩), by (try dsimp only); rw [ht]; exact ⟨hT, hF, m294, m295, m299, m300⟩⟩, hS.F ht⟩) hS.2.2 dX12_readAtom_55
    · have t306 : r255.toInt = 0 := ti_eq c279 rfl (by decide)
      refine lv_iconst (v := 0) hx hb dX12_readAtom_37 (by decide) ?_
      exact W.zret (v := 0) hx hb hr (by decide) (fun t ht hW => ⟨⟨0, (u257, u258, u259, u260, u261), rfl, (by exact ⟨(by have q8 := ti_all u257; omega), (by have q8 := ti_all u258; omega), (by have q8 := ti_all u259; omega), (rg_t (a := 0) (by decide) (by first | decide | omega) (by first | decide | omega)), (fun h => absurd h (by decide)), (fun h => absurd h (by decide)), (by omega), hf278⟩), by (try dsimp only); rw [ht]; exact ⟨hT, hF, m262, m263, m264, m265⟩⟩, hS.F ht⟩) hS.2.2 dX12_readAtom_38
def w_s_readAllOf4 : List Cond := .code yX12_readAllOf cX12_readAllOf 1 (some .boolean) :: (HAppend.hAppend (α := List Cond) (β := List Cond) (γ := List Cond) [.code yX12_readAtom cX12_readAtom 2 (some .boolean), .code yX12_sign cX12_sign 2 (some .boolean), .code yX12_blanks cX12_blanks 1 none, .code yX12_isAt cX12_isAt 3 (some .boolean), .fieldLink RX12 335 "SeaLandModel" "point" "I", .fieldLink RX12 338 "SeaLandModel" "end" "I", .fieldLink RX12 31 "SeaLandModel" "tape" "[B", .methodLink RX12 341 yX12_isAt, .instanceMethod yX12_isAt, .selects RX12 yX12_isAt yX12_isAt, .initialized RX12, .fieldLink RX12 345 "SeaLandModel" "begin" "I", .methodLink RX12 348 yX12_blanks, .instanceMethod yX12_blanks, .selects RX12 yX12_blanks yX12_blanks, .methodLink RX12 398 yX12_sign, .instanceMethod yX12_sign, .selects RX12 yX12_sign yX12_sign, .code yX12_passes cX12_passes 2 (some .boolean), .code yX12_word cX12_word 1 none, .methodLink RX12 360 yX12_word, .instanceMethod yX12_word, .selects RX12 yX12_word yX12_word, .code yX12_isWord cX12_isWord 4 (some .boolean), .code yJ0_length_8abf5 cJ0_length_8abf5 1 (some .int), .fieldLink RJ0 9 "java/lang/String" "value" "[B", .code yJ0_coder_7d493 cJ0_coder_7d493 1 (some .byte), .fieldLink RJ0 38 "java/lang/String" "COMPACT_STRINGS" "Z", .fieldLink RJ0 15 "java/lang/String" "coder" "B", .methodLink RJ0 335 yJ0_coder_7d493, .instanceMethod yJ0_coder_7d493, .selects RJ0 yJ0_coder_7d493 yJ0_coder_7d493, .initialized RJ0, .methodLink RX12 351 yJ0_length_8abf5, .instanceMethod yJ0_length_8abf5, .selects RJ0 yJ0_length_8abf5 yJ0_length_8abf5, .code yJ0_charAt_5068e cJ0_charAt_5068e 2 (some .char), .code yJ0_isLatin1_aae02 cJ0_isLatin1_aae02 1 (some .boolean), .methodLink RJ0 492 yJ0_isLatin1_aae02, .instanceMethod yJ0_isLatin1_aae02, .selects RJ0 yJ0_isLatin1_aae02 yJ0_isLatin1_aae02, .code yJ1_charAt_3b067 cJ1_charAt_3b067 2 (some .char), .code yJ0_checkIndex_df160 cJ0_checkIndex_df160 2 none, .fieldLink RJ0 1053 "jdk/internal/util/Preconditions" "SIOOBE_FORMATTER" "Ljava/util/function/BiFunction;", .code yJ3_checkIndex_8e157 cJ3_checkIndex_8e157 3 (some .int), .methodLink RJ0 1059 yJ3_checkIndex_8e157, .static yJ3_checkIndex_8e157, .initialized RJ3, .methodLink RJ1 9 yJ0_checkIndex_df160, .static yJ0_checkIndex_df160, .methodLink RJ0 495 yJ1_charAt_3b067, .static yJ1_charAt_3b067, .initialized RJ1, .methodLink RX12 356 yJ0_charAt_5068e, .instanceMethod yJ0_charAt_5068e, .selects RJ0 yJ0_charAt_5068e yJ0_charAt_5068e, .methodLink RX12 363 yX12_isWord, .instanceMethod yX12_isWord, .selects RX12 yX12_isWord yX12_isWord, .methodLink RX12 409 yX12_passes, .instanceMethod yX12_passes, .selects RX12 yX12_passes yX12_passes, .code yX12_readSum cX12_readSum 1 (some .boolean), .code yX12_readPart cX12_readPart 2 (some .boolean), .constant RX12 390 99999, .code yX12_number cX12_number 3 (some .int), .methodLink RX12 391 yX12_number, .instanceMethod yX12_number, .selects RX12 yX12_number yX12_number, .code yX12_adds cX12_adds 3 none, .fieldLink RX12 66 "SeaLandModel" "step" "[I", .fieldLink RX12 367 "SeaLandModel" "steps" "I", .fieldLink RX12 69 "SeaLandModel" "than" "[I", .methodLink RX12 387 yX12_adds, .instanceMethod yX12_adds, .selects RX12 yX12_adds yX12_adds, .code yX12_fact cX12_fact 1 (some (.object "java/lang/String")), .methodLink RX12 383 yX12_fact, .static yX12_fact, .methodLink RX12 394 yX12_readPart, .instanceMethod yX12_readPart, .selects RX12 yX12_readPart yX12_readPart, .methodLink RX12 415 yX12_readSum, .instanceMethod yX12_readSum, .selects RX12 yX12_readSum yX12_readSum, .fieldLink RX12 401 "SeaLandModel" "deep" "I", .methodLink RX12 412 yX12_readAtom, .instanceMethod yX12_readAtom, .selects RX12 yX12_readAtom yX12_readAtom, .code yX12_readCond cX12_readCond 1 (some .boolean), .code yX12_readAllOf cX12_readAllOf 1 (some .boolean), .methodLink RX12 420 yX12_readAllOf, .instanceMethod yX12_readAllOf, .selects RX12 yX12_readAllOf yX12_readAllOf, .methodLink RX12 404 yX12_readCond, .instanceMethod yX12_readCond, .selects RX12 yX12_readCond yX12_readCond] bs)
set_option maxHeartbeats 4000000 in
set_option maxRecDepth 100000 in
theorem s_readAllOf4 (l : Launch) (dC : Nat → ClassId) (dI : Nat → Nat → Nat) (kA : Nat → ClassId) (adK adV : Nat → Nat) (G : gT) (H0 : Heap) (q : Nat → Nat) (wZ wN : Nat → Int) (wH wB wC : Int) (wL wK : Nat → Prop) (wU wV : Nat → Nat) (PI : Nat → Int → Prop) (im : Int) (PM PT : Nat → Int → Prop) (lS lB lE : Nat → Nat → Int → Prop) (lN : Nat → Int) (o0 : Nat) (pt : Int32) (en : Int32) (sv : Int32) (dv : Int32) (S0 : Nat → Int → Prop) (lb : Int) (ld : Nat → Int) (hT : gH (dC, dI) kA (SHm q (wP wZ wN wH wB wC wL wK wU wV) PI im PM PT (lD (dS S0 lb sv.toInt ld) lS) lB lE lN) G H0) (hr_o0 : G o0 = some 0) (hm_pt : el H0 o0 (dI 15 12) = some (.int pt)) (hm_en : el H0 o0 (dI 15 13) = some (.int en)) (hm_sv : el H0 o0 (dI 15 28) = some (.int sv)) (hm_dv : el H0 o0 (dI 15 15) = some (.int dv)) (hq0 : 0 ≤ pt.toInt ∧ pt.toInt ≤ 400) (hq1 : 0 ≤ en.toInt ∧ en.toInt ≤ 400) (hq2 : 0 ≤ sv.toInt ∧ sv.toInt ≤ 400) (hpe : pt.toInt ≤ en.toInt) (hsp : sv.toInt ≤ pt.toInt) (hS0 : ∀ (i : Nat) x, lb ≤ (i : Int) → S0 i x) (hlb : 0 ≤ lb ∧ lb ≤ sv.toInt) (hlg : lG lb ld) (hd0 : 0 ≤ ld sv.toNatClampNeg) (hq9 : 4 ≤ dv.toInt ∧ dv.toInt ≤ 4) (hgz : ∀ i, 0 ≤ wZ i) (hgn : ∀ i, 6500000 ≤ wN i ∧ wN i ≤ 20200000) (hgh : 0 ≤ wH ∧ wH ≤ 40000) (hgb : 0 ≤ wB ∧ wB ≤ 3850000) (hgc : 0 ≤ wC ∧ wC ≤ 30) (hgi : 0 ≤ im ∧ im ≤ 1) (hgu : ∀ a t, G a = some (t + 1) → a = q t) : Met l yX12_readAllOf w_s_readAllOf4 ({ frames := 14, cells := 0, slots := 0, locals := 292 }) (va_Pc [.ref o0] (fun U => U.heap = H0 ∧ va_K (dC, dI) vwCl (tyl kA) U ∧ EVS adK adV (gA G H0.size) U U.heap)) (va_Qi (fun (r : Int32) (u : Int32 × Int32 × Int32 × Int32 × (Nat → Int)) => match u with | (p1, b1, s1, d1, ld1) => (0 ≤ p1.toInt ∧ p1.toInt ≤ 400) ∧ (0 ≤ b1.toInt ∧ b1.toInt ≤ 400) ∧ (0 ≤ s1.toInt ∧ s1.toInt ≤ 400) ∧ (0 ≤ r.toInt ∧ r.toInt ≤ 1) ∧ (r = 1 → ld1 s1.toNatClampNeg = ld sv.toNatClampNeg + 1) ∧ (r = 1 → d1.toInt = 4) ∧ (pt.toInt ≤ p1.toInt ∧ p1.toInt ≤ en.toInt ∧ sv.toInt ≤ s1.toInt ∧ s1.toInt - sv.toInt ≤ p1.toInt - pt.toInt) ∧ (lG lb ld1)) (fun (u : Int32 × Int32 × Int32 × Int32 × (Nat → Int)) (t : State) => match u with | (p1, b1, s1, d1, ld1) => gH (dC, dI) kA (SHm q (wP wZ wN wH wB wC wL wK wU wV) PI im PM PT (lD (dS S0 lb s1.toInt ld1) lS) lB lE lN) G t.heap ∧ gF (dC, dI) SKm G ([(0, 12), (0, 14), (0, 15), (0, 28), (27, 0), (28, 0)] : List (Nat × Nat)) H0 t.heap ∧ el t.heap o0 (dI 15 12) = some (.int p1) ∧ el t.heap o0 (dI 15 14) = some (.int b1) ∧ el t.heap o0 (dI 15 28) = some (.int s1) ∧ el t.heap o0 (dI 15 15) = some (.int d1)) (gA G H0.size)) 0 0 (gA G H0.size) := by
  refine Met.ofW (cc := cX12_readAllOf) (maxL := 1) (ret := (some .boolean)) (by decide) rfl ?_
  intro p e s m args below meth c s₁ B hml hv
  obtain ⟨rfl, hH0, hK, hE⟩ := hv
  have hx := B.exec
  have hb := B.bytes
  have hr := B.returns
  have hts := atoms_spec (ws := w_s_readAllOf4) B.pre
  have hown : s.vm.findClass RX12 = some m.cls := findClass_of_methodNamed B.named
  have hlocks := B.notSynchronized
  subst hH0
  generalize hAe : gA G s.heap.size = A at hE ⊢
  have hA : ∀ q : Nat, s.heap.size ≤ q → A q := fun q h => by rw [← hAe]; exact Or.inr h
  have hG := gA_of hAe
  have hS : va_S A s.heap s.heap [] := va_S.rf
  have hF : gF (dC, dI) SKm G ([(0, 12), (0, 14), (0, 15), (0, 28), (27, 0), (28, 0)] : List (Nat × Nat)) s.heap s.heap := gF.rf
  have hl := lv_entry ([.ref o0]) (n := 1) (Nat.le_of_ble_eq_true rfl)
  rw [lg_entry_eq]
  generalize (lg_sl ([.ref o0]) ++ List.replicate (1 - (lg_sl ([.ref o0])).length) Slot.unset).toArray = ls at hl ⊢
  have hl : lv_has ls 1 [(0, .ref o0)] := hl
  refine lv_aload_n hx hb dX12_readAllOf_0 rfl (lv_at hl 0 rfl) ?_
  have hFc := gA_free hG hA hS
  refine va_calli (va_runV (As := []) (rest := []) ⟨hx, hb, hml, hown, hts⟩ (s_readAtom4 l dC dI kA adK adV G s.heap q wZ wN wH wB wC wL wK wU wV PI im PM PT lS lB lE lN o0 pt en sv dv S0 lb ld hT hr_o0 hm_pt hm_en hm_sv hm_dv (by have q8 := ti_all pt; omega) (by have q8 := ti_all en; omega) (by have q8 := ti_all sv; omega) (by have := (show pt.toInt = pt.toInt from rfl); have := (show en.toInt = en.toInt from rfl); omega) (by have := (show sv.toInt = sv.toInt from rfl); have := (show pt.toInt = pt.toInt from rfl); omega) hS0 (by have := (show sv.toInt = sv.toInt from rfl); omega) hlg (by omega) (by have q8 := ti_all dv; omega) hgz hgn hgh hgb hgc hgi hgu) (cwV 0 hts (goodIn_app (goodIn_r _ [87, 88, 89, 11] rfl (by decide +kernel)) (goodIn_ca (goodIn_r _ [1, 2, 3, 4, 5, 6, 7, 8, 9, 10, 11, 12, 13, 14, 15, 16, 17, 18, 19, 20, 21, 22, 23, 24, 25, 26, 27, 28, 29, 30, 31, 32, 33, 34, 35, 36, 37, 38, 39, 40, 41, 42, 43, 44, 45, 46, 47, 48, 49, 50, 51, 52, 53, 54, 55, 56, 57, 58, 59, 60, 61, 62, 63, 64, 65, 66, 67, 68, 69, 70, 71, 72, 73, 74, 75, 76, 77, 78, 79, 80, 81, 82, 83, 84, 85, 86, 1, 87, 88, 89, 90, 91, 92, 93, 94, 95, 96, 97] rfl (by decide +kernel)) (bs_in _ _))) rfl rfl rfl (by decide +kernel) ⟨(Nat.le_of_ble_eq_true rfl), (Nat.le_of_ble_eq_true rfl)⟩) ⟨fun a U g mk q => by obtain ⟨q0, q1, qK, qE⟩ := q; exact ⟨q0, q1, va_K.moved (u := U) (U := U.calling g mk a) (Vm.Alike.refl U.vm) qK, EVS.blind g mk a qE⟩, gH_rc hK hT hr_o0 shm_0 rfl, fun U hU hW => ⟨rfl, hU, va_K.moved hW.alike hK, hE.call hS hFc hU hW⟩⟩ rfl rfl hl.1 rfl (lv_room (Nat.le_of_ble_eq_true rfl)) dX12_readAllOf_1 ⟨(Nat.le_of_ble_eq_true rfl), (Nat.le_of_ble_eq_true rfl)⟩) hS (fun q _ h => hFc q h) hFc (fun r1 u t H locs ht hvm hw2 hB _ _ hS => ?_)
  obtain ⟨u3, u4, u5, u6, u7⟩ := u
  obtain ⟨hT, hF1, m8, m9, m10, m11⟩ := hB
  rw [ht] at hT hF1 m8 m9 m10 m11
  have m13 := (hF1.fld hr_o0 skm_0 (k := 13) (by decide) (by decide)).trans hm_en
  have hF := hF.more hF1 (by decide)
  try dsimp only at hw2
  obtain ⟨h16, h17, h18, h19, hi20, hi21, hf22, hf23⟩ := hw2
  refine lv_if_ne (tgt := 9) hx hb dX12_readAllOf_4 (by decide) (fun c24 => ?_) (fun c24 => ?_)
  · have t25 : r1.toInt ≠ 0 := ti_ne c24 rfl (by decide)
    have t26 : u7 u5.toNatClampNeg = ld sv.toNatClampNeg + 1 := hi20 ((bit_of ⟨by omega, by omega⟩).resolve_left c24)
    have t27 : u6.toInt = 4 := hi21 ((bit_of ⟨by omega, by omega⟩).resolve_left c24)
    have key180 : ∀ (n180 : Nat), ∀ (gld100 : Nat → Int), ∀ (z102 : Int32), ∀ (z105 : Int32), ∀ (z108 : Int32), ∀ (z111 : Int32), (400 - z102.toInt < ((n180 : Nat) : Int)) → ((0 ≤ z102.toInt ∧ z102.toInt ≤ 400) ∧ (0 ≤ z105.toInt ∧ z105.toInt ≤ 400) ∧ (0 ≤ z108.toInt ∧ z108.toInt ≤ 400) ∧ (4 ≤ z111.toInt ∧ z111.toInt ≤ 4) ∧ (lG lb gld100) ∧ (gld100 z108.toNatClampNeg = ld sv.toNatClampNeg + 1) ∧ (pt.toInt ≤ z102.toInt ∧ z102.toInt ≤ en.toInt ∧ sv.toInt ≤ z108.toInt ∧ z108.toInt - sv.toInt ≤ z102.toInt - pt.toInt)) → ∀ (H : Heap) (locs : List Loc), gH (dC, dI) kA (SHm q (wP wZ wN wH wB wC wL wK wU wV) PI im PM PT (lD (dS S0 lb z108.toInt gld100) lS) lB lE lN) G H → gF (dC, dI) SKm G ([(0, 12), (0, 14), (0, 15), (0, 28), (27, 0), (28, 0)] : List (Nat × Nat)) s.heap H → va_S A s.heap H locs → el H o0 (dI 15 13) = some (.int en) → el H o0 (dI 15 12) = some (.int z102) → el H o0 (dI 15 14) = some (.int z105) → el H o0 (dI 15 28) = some (.int z108) → el H o0 (dI 15 15) = some (.int z111) → ∀ ls : Array Slot, lv_has ls 1 [(0, .ref o0)] → W p l e (headSpec w_s_readAllOf4 ({ frames := 14, cells := 0, slots := 0, locals := 292 })).room s m #[.ref o0] below meth c H locs 0 0 (MQ below (va_Qi (fun (r : Int32) (u : Int32 × Int32 × Int32 × Int32 × (Nat → Int)) => match u with | (p1, b1, s1, d1, ld1) => (0 ≤ p1.toInt ∧ p1.toInt ≤ 400) ∧ (0 ≤ b1.toInt ∧ b1.toInt ≤ 400) ∧ (0 ≤ s1.toInt ∧ s1.toInt ≤ 400) ∧ (0 ≤ r.toInt ∧ r.toInt ≤ 1) ∧ (r = 1 → ld1 s1.toNatClampNeg = ld sv.toNatClampNeg + 1) ∧ (r = 1 → d1.toInt = 4) ∧ (pt.toInt ≤ p1.toInt ∧ p1.toInt ≤ en.toInt ∧ sv.toInt ≤ s1.toInt ∧ s1.toInt - sv.toInt ≤ p1.toInt - pt.toInt) ∧ (lG lb ld1)) (fun (u : Int32 × Int32 × Int32 × Int32 × (Nat → Int)) (t : State) => match u with | (p1, b1, s1, d1, ld1) => gH (dC, dI) kA (SHm q (wP wZ wN wH wB wC wL wK wU wV) PI im PM PT (lD (dS S0 lb s1.toInt ld1) lS) lB lE lN) G t.heap ∧ gF (dC, dI) SKm G ([(0, 12), (0, 14), (0, 15), (0, 28), (27, 0), (28, 0)] : List (Nat × Nat)) s.heap t.heap ∧ el t.heap o0 (dI 15 12) = some (.int p1) ∧ el t.heap o0 (dI 15 14) = some (.int b1) ∧ el t.heap o0 (dI 15 28) = some (.int s1) ∧ el t.heap o0 (dI 15 15) = some (.int d1)) A) #[.ref o0] s 0 0 A) (F0 m 9 ls []) := by
      intro n180
      induction n180 with
      | zero =>
        intro gld100 z102 z105 z108 z111 hv180 ⟨h103, h106, h109, h112, hg114, hg115, hj116⟩ H locs hT hF hS m101 m104 m107 m110 m113 ls hl
        exfalso; omega
      | succ n180 ih180 =>
        intro gld100 z102 z105 z108 z111 hv180 ⟨h103, h106, h109, h112, hg114, hg115, hj116⟩ H locs hT hF hS m101 m104 m107 m110 m113 ls hl
        refine lv_aload_n hx hb dX12_readAllOf_9 rfl (lv_at hl 0 rfl) ?_
        refine tw_ldcwS hx hb hown hE.s11 dX12_readAllOf_10 ?_
        have hFc := gA_free hG hA hS
        refine va_calli (va_runV (As := [.ref (adK 11)]) (rest := []) ⟨hx, hb, hml, hown, hts⟩ (s_passes l dC dI kA adK adV G H q wZ wN wH wB wC wL wK wU wV PI im PM PT (lD (dS S0 lb z108.toInt gld100) lS) lB lE lN o0 z102 en 11 hT hr_o0 m104 m101 (by have q8 := ti_all z102; omega) (by have q8 := ti_all en; omega) (by have := (show z102.toInt = z102.toInt from rfl); have := (show en.toInt = en.toInt from rfl); omega) (by first | omega | decide) hgz hgn hgh hgb hgc hgi hgu) (cwV 1 hts (goodIn_app (goodIn_r _ [60, 61, 62, 11] rfl (by decide +kernel)) (goodIn_ca (goodIn_r _ [19, 20, 3, 4, 5, 6, 7, 8, 9, 10, 11, 12, 13, 14, 15, 21, 22, 23, 24, 25, 26, 27, 28, 29, 30, 31, 32, 33, 34, 35, 36, 37, 38, 39, 40, 41, 42, 43, 44, 45, 46, 47, 48, 49, 50, 51, 52, 53, 54, 55, 56, 57, 58, 59] rfl (by decide +kernel)) (bs_in _ _))) rfl rfl rfl (by decide +kernel) ⟨(Nat.le_of_ble_eq_true rfl), (Nat.le_of_ble_eq_true rfl)⟩) ⟨fun a U g mk q => by obtain ⟨q0, q1, qK, qE⟩ := q; exact ⟨q0, q1, va_K.moved (u := U) (U := U.calling g mk a) (Vm.Alike.refl U.vm) qK, EVS.blind g mk a qE⟩, gH_rc hK hT hr_o0 shm_0 rfl, fun U hU hW => ⟨rfl, hU, va_K.moved hW.alike hK, hE.call hS hFc hU hW⟩⟩ rfl rfl hl.1 rfl (lv_room (Nat.le_of_ble_eq_true rfl)) dX12_readAllOf_13 ⟨(Nat.le_of_ble_eq_true rfl), (Nat.le_of_ble_eq_true rfl)⟩) hS (fun q _ h => hFc q h) hFc (fun r181 u t H locs ht hvm hw182 hB _ _ hS => ?_)
        obtain ⟨u183, u184⟩ := u
        obtain ⟨hT, hF1, m185, m186⟩ := hB
        rw [ht] at hT hF1 m185 m186
        have m187 := (hF1.fld hr_o0 skm_0 (k := 13) (by decide) (by decide)).trans m101
        have m190 := (hF1.fld hr_o0 skm_0 (k := 28) (by decide) (by decide)).trans m110
        have m191 := (hF1.fld hr_o0 skm_0 (k := 15) (by decide) (by decide)).trans m113
        have hF := hF.more hF1 (by decide)
        try dsimp only at hw182
        obtain ⟨h192, h193, h194, hi195, hf196⟩ := hw182
        refine lv_if_eq (tgt := 38) hx hb dX12_readAllOf_16 (by decide) (fun c197 => ?_) (fun c197 => ?_)
        · have t198 : r181.toInt = 0 := ti_eq c197 rfl (by decide)
          refine lv_iconst (v := 1) hx hb dX12_readAllOf_38 (by decide) ?_
          exact W.zret (v := 1) hx hb hr (by decide) (fun t ht hW => ⟨⟨1, (u183, u184, z108, z111, gld100), rfl, (by exact ⟨(by have q8 := ti_all u183; omega), (by have q8 := ti_all u184; omega), (by have q8 := ti_all z108; omega), (rg_t (a := 1) (by decide) (by first | decide | omega) (by first | decide | omega)), (fun _ => (by omega)), (fun _ => (by omega)), (by omega), hg114⟩), by (try dsimp only); rw [ht]; exact ⟨hT, hF, m185, m186, m190, m191⟩⟩, hS.F ht⟩) hS.2.2 dX12_readAllOf_39
        · have t199 : r181.toInt ≠ 0 := ti_ne c197 rfl (by decide)
          have t200 : z102.toInt + 1 ≤ u183.toInt := hi195 ((bit_of ⟨by omega, by omega⟩).resolve_left c197)
          refine lv_aload_n hx hb dX12_readAllOf_19 rfl (lv_at hl 0 rfl) ?_
          have hFc := gA_free hG hA hS
          refine va_calli (va_runV (As := []) (rest := []) ⟨hx, hb, hml, hown, hts⟩ (s_readAtom4 l dC dI kA adK adV G H q wZ wN wH wB wC wL wK wU wV PI im PM PT lS lB lE lN o0 u183 en z108 z111 S0 lb gld100 hT hr_o0 m185 m187 m190 m191 (by have q8 := ti_all u183; omega) (by have q8 := ti_all en; omega) (by have q8 := ti_all z108; omega) (by have := (show u183.toInt = u183.toInt from rfl); have := (show en.toInt = en.toInt from rfl); omega) (by have := (show z108.toInt = z108.toInt from rfl); have := (show u183.toInt = u183.toInt from rfl); omega) hS0 (by have := (show z108.toInt = z108.toInt from rfl); omega) hg114 (by omega) (by have q8 := ti_all z111; omega) hgz hgn hgh hgb hgc hgi hgu) (cwV 0 hts (goodIn_app (goodIn_r _ [87, 88, 89, 11] rfl (by decide +kernel)) (goodIn_ca (goodIn_r _ [1, 2, 3, 4, 5, 6, 7, 8, 9, 10, 11, 12, 13, 14, 15, 16, 17, 18, 19, 20, 21, 22, 23, 24, 25, 26, 27, 28, 29, 30, 31, 32, 33, 34, 35, 36, 37, 38, 39, 40, 41, 42, 43, 44, 45, 46, 47, 48, 49, 50, 51, 52, 53, 54, 55, 56, 57, 58, 59, 60, 61, 62, 63, 64, 65, 66, 67, 68, 69, 70, 71, 72, 73, 74, 75, 76, 77, 78, 79, 80, 81, 82, 83, 84, 85, 86, 1, 87, 88, 89, 90, 91, 92, 93, 94, 95, 96, 97] rfl (by decide +kernel)) (bs_in _ _))) rfl rfl rfl (by decide +kernel) ⟨(Nat.le_of_ble_eq_true rfl), (Nat.le_of_ble_eq_true rfl)⟩) ⟨fun a U g mk q => by obtain ⟨q0, q1, qK, qE⟩ := q; exact ⟨q0, q1, va_K.moved (u := U) (U := U.calling g mk a) (Vm.Alike.refl U.vm) qK, EVS.blind g mk a qE⟩, gH_rc hK hT hr_o0 shm_0 rfl, fun U hU hW => ⟨rfl, hU, va_K.moved hW.alike hK, hE.call hS hFc hU hW⟩⟩ rfl rfl hl.1 rfl (lv_room (Nat.le_of_ble_eq_true rfl)) dX12_readAllOf_20 ⟨(Nat.le_of_ble_eq_true rfl), (Nat.le_of_ble_eq_true rfl)⟩) hS (fun q _ h => hFc q h) hFc (fun r201 u t H locs ht hvm hw202 hB _ _ hS => ?_)
          obtain ⟨u203, u204, u205, u206, u207⟩ := u
          obtain ⟨hT, hF1, m208, m209, m210, m211⟩ := hB
          rw [ht] at hT hF1 m208 m209 m210 m211
          have m212 := (hF1.fld hr_o0 skm_0 (k := 13) (by decide) (by decide)).trans m187
          have hF := hF.more hF1 (by decide)
          try dsimp only at hw202
          obtain ⟨h217, h218, h219, h220, hi221, hi222, hf223, hf224⟩ := hw202
          refine lv_if_ne (tgt := 28) hx hb dX12_readAllOf_23 (by decide) (fun c225 => ?_) (fun c225 => ?_)
          · have t226 : r201.toInt ≠ 0 := ti_ne c225 rfl (by decide)
            have t227 : u207 u205.toNatClampNeg = gld100 z108.toNatClampNeg + 1 := hi221 ((bit_of ⟨by omega, by omega⟩).resolve_left c225)
            have t228 : u206.toInt = 4 := hi222 ((bit_of ⟨by omega, by omega⟩).resolve_left c225)
            refine lv_aload_n hx hb dX12_readAllOf_28 rfl (lv_at hl 0 rfl) ?_
            refine lv_bipush (v := 105) hx hb dX12_readAllOf_29 (by decide) ?_
            refine lv_iconst (v := 0) hx hb dX12_readAllOf_31 (by decide) ?_
            have hFc := gA_free hG hA hS
            refine va_callv (va_runV (As := [.int 105, .int 0]) (rest := []) ⟨hx, hb, hml, hown, hts⟩ (s_adds l dC dI kA adK adV G H q wZ wN wH wB wC wL wK wU wV PI im PM PT lS lB lE lN o0 105 0 u205 S0 lb u207 (u207 u205.toNatClampNeg - 1) hT hr_o0 m210 (by have q8 := ti_all u205; omega) (by have q9 := (show (105 : Int32).toInt = 105 from (by decide)); unfold stp; omega) hS0 (by have := (show u205.toInt = u205.toInt from rfl); omega) hf224 hgz hgn hgh hgb hgc hgi hgu) (cwV 2 hts (goodIn_app (goodIn_r _ [74, 75, 76, 11] rfl (by decide +kernel)) (goodIn_ca (goodIn_r _ [70, 71, 72, 73] rfl (by decide +kernel)) (bs_in _ _))) rfl rfl rfl (by decide +kernel) ⟨(Nat.le_of_ble_eq_true rfl), (Nat.le_of_ble_eq_true rfl)⟩) ⟨fun a U g mk q => by obtain ⟨q0, q1, qK, qE⟩ := q; exact ⟨q0, q1, va_K.moved (u := U) (U := U.calling g mk a) (Vm.Alike.refl U.vm) qK, EVS.blind g mk a qE⟩, gH_rc hK hT hr_o0 shm_0 rfl, fun U hU hW => ⟨rfl, hU, va_K.moved hW.alike hK, hE.call hS hFc hU hW⟩⟩ rfl rfl hl.1 rfl (lv_room (Nat.le_of_ble_eq_true rfl)) dX12_readAllOf_32 ⟨(Nat.le_of_ble_eq_true rfl), (Nat.le_of_ble_eq_true rfl)⟩) hS (fun q _ h => hFc q h) hFc (fun u t H locs ht hvm hw230 hB _ _ hS => ?_)
            obtain ⟨u231, u232⟩ := u
            obtain ⟨hT, hF1, m233⟩ := hB
            rw [ht] at hT hF1 m233
            have m234 := (hF1.fld hr_o0 skm_0 (k := 13) (by decide) (by decide)).trans m212
            have m235 := (hF1.fld hr_o0 skm_0 (k := 12) (by decide) (by decide)).trans m208
            have m236 := (hF1.fld hr_o0 skm_0 (k := 14) (by decide) (by decide)).trans m209
            have m238 := (hF1.fld hr_o0 skm_0 (k := 15) (by decide) (by decide)).trans m211
            have hF := hF.more hF1 (by decide)
            try dsimp only at hw230
            obtain ⟨h239, hf240, hf241, hf242⟩ := hw230
            refine lv_goto (tgt := 9) hx hb dX12_readAllOf_35 (by decide) ?_
            exact ih180 u232 u203 u204 u231 u206 (by have q9 := (show u203.toInt = u203.toInt from rfl); omega) ⟨(by have q8 := ti_all u203; omega), (by have q8 := ti_all u204; omega), (by have q8 := ti_all u231; omega), (by have q8 := ti_all u206; omega), hf242, (by omega), (by have := (show u203.toInt = u203.toInt from rfl); have := (show u231.toInt = u231.toInt from rfl); omega)⟩ _ _ hT hF hS m234 m235 m236 m233 m238 ls (lv_sub hl [0] rfl)
          · have t243 : r201.toInt = 0 := ti_eq c225 rfl (by decide)
            refine lv_iconst (v := 0) hx hb dX12_readAllOf_26 (by decide) ?_
            exact W.zret (v := 0) hx hb hr (by decide) (fun t ht hW => ⟨⟨0, (u203, u204, u205, u206, u207), rfl, (by exact ⟨(by have q8 := ti_all u203; omega), (by have q8 := ti_all u204; omega), (by have q8 := ti_all u205; omega), (rg_t (a := 0) (by decide) (by first | decide | omega) (by first | decide | omega)), (fun h => absurd h (by decide)), (fun h => absurd h (by decide)), (by omega), hf224⟩), by (try dsimp only); rw [ht]; exact ⟨hT, hF, m208, m209, m210, m211⟩⟩, hS.F ht⟩) hS.2.2 dX12_readAllOf_27
    exact key180 401 u7 u3 u4 u5 u6 (by have q9 := (show u3.toInt = u3.toInt from rfl); omega) ⟨(by have q8 := ti_all u3; omega), (by have q8 := ti_all u4; omega), (by have q8 := ti_all u5; omega), (by have q8 := ti_all u6; omega), hf23, (by omega), (by have := (show u3.toInt = u3.toInt from rfl); have := (show u5.toInt = u5.toInt from rfl); omega)⟩ _ _ hT hF hS m13 m8 m9 m10 m11 ls (lv_sub hl [0] rfl)
  · have t244 : r1.toInt = 0 := ti_eq c24 rfl (by decide)
    refine lv_iconst (v := 0) hx hb dX12_readAllOf_7 (by decide) ?_
    exact W.zret (v := 0) hx hb hr (by decide) (fun t ht hW => ⟨⟨0, (u3, u4, u5, u6, u7), rfl, (by exact ⟨(by have q8 := ti_all u3; omega), (by have q8 := ti_all u4; omega), (by have q8 := ti_all u5; omega), (rg_t (a := 0) (by decide) (by first | decide | omega) (by first | decide | omega)), (fun h => absurd h (by decide)), (fun h => absurd h (by decide)), (by omega), hf23⟩), by (try dsimp only); rw [ht]; exact ⟨hT, hF, m8, m9, m10, m11⟩⟩, hS.F ht⟩) hS.2.2 dX12_readAllOf_8
def w_s_readCond4 : List Cond := .code yX12_readCond cX12_readCond 1 (some .boolean) :: (HAppend.hAppend (α := List Cond) (β := List Cond) (γ := List Cond) [.code yX12_readAllOf cX12_readAllOf 1 (some .boolean), .code yX12_readAtom cX12_readAtom 2 (some .boolean), .code yX12_sign cX12_sign 2 (some .boolean), .code yX12_blanks cX12_blanks 1 none, .code yX12_isAt cX12_isAt 3 (some .boolean), .fieldLink RX12 335 "SeaLandModel" "point" "I", .fieldLink RX12 338 "SeaLandModel" "end" "I", .fieldLink RX12 31 "SeaLandModel" "tape" "[B", .methodLink RX12 341 yX12_isAt, .instanceMethod yX12_isAt, .selects RX12 yX12_isAt yX12_isAt, .initialized RX12, .fieldLink RX12 345 "SeaLandModel" "begin" "I", .methodLink RX12 348 yX12_blanks, .instanceMethod yX12_blanks, .selects RX12 yX12_blanks yX12_blanks, .methodLink RX12 398 yX12_sign, .instanceMethod yX12_sign, .selects RX12 yX12_sign yX12_sign, .code yX12_passes cX12_passes 2 (some .boolean), .code yX12_word cX12_word 1 none, .methodLink RX12 360 yX12_word, .instanceMethod yX12_word, .selects RX12 yX12_word yX12_word, .code yX12_isWord cX12_isWord 4 (some .boolean), .code yJ0_length_8abf5 cJ0_length_8abf5 1 (some .int), .fieldLink RJ0 9 "java/lang/String" "value" "[B", .code yJ0_coder_7d493 cJ0_coder_7d493 1 (some .byte), .fieldLink RJ0 38 "java/lang/String" "COMPACT_STRINGS" "Z", .fieldLink RJ0 15 "java/lang/String" "coder" "B", .methodLink RJ0 335 yJ0_coder_7d493, .instanceMethod yJ0_coder_7d493, .selects RJ0 yJ0_coder_7d493 yJ0_coder_7d493, .initialized RJ0, .methodLink RX12 351 yJ0_length_8abf5, .instanceMethod yJ0_length_8abf5, .selects RJ0 yJ0_length_8abf5 yJ0_length_8abf5, .code yJ0_charAt_5068e cJ0_charAt_5068e 2 (some .char), .code yJ0_isLatin1_aae02 cJ0_isLatin1_aae02 1 (some .boolean), .methodLink RJ0 492 yJ0_isLatin1_aae02, .instanceMethod yJ0_isLatin1_aae02, .selects RJ0 yJ0_isLatin1_aae02 yJ0_isLatin1_aae02, .code yJ1_charAt_3b067 cJ1_charAt_3b067 2 (some .char), .code yJ0_checkIndex_df160 cJ0_checkIndex_df160 2 none, .fieldLink RJ0 1053 "jdk/internal/util/Preconditions" "SIOOBE_FORMATTER" "Ljava/util/function/BiFunction;", .code yJ3_checkIndex_8e157 cJ3_checkIndex_8e157 3 (some .int), .methodLink RJ0 1059 yJ3_checkIndex_8e157, .static yJ3_checkIndex_8e157, .initialized RJ3, .methodLink RJ1 9 yJ0_checkIndex_df160, .static yJ0_checkIndex_df160, .methodLink RJ0 495 yJ1_charAt_3b067, .static yJ1_charAt_3b067, .initialized RJ1, .methodLink RX12 356 yJ0_charAt_5068e, .instanceMethod yJ0_charAt_5068e, .selects RJ0 yJ0_charAt_5068e yJ0_charAt_5068e, .methodLink RX12 363 yX12_isWord, .instanceMethod yX12_isWord, .selects RX12 yX12_isWord yX12_isWord, .methodLink RX12 409 yX12_passes, .instanceMethod yX12_passes, .selects RX12 yX12_passes yX12_passes, .code yX12_readSum cX12_readSum 1 (some .boolean), .code yX12_readPart cX12_readPart 2 (some .boolean), .constant RX12 390 99999, .code yX12_number cX12_number 3 (some .int), .methodLink RX12 391 yX12_number, .instanceMethod yX12_number, .selects RX12 yX12_number yX12_number, .code yX12_adds cX12_adds 3 none, .fieldLink RX12 66 "SeaLandModel" "step" "[I", .fieldLink RX12 367 "SeaLandModel" "steps" "I", .fieldLink RX12 69 "SeaLandModel" "than" "[I", .methodLink RX12 387 yX12_adds, .instanceMethod yX12_adds, .selects RX12 yX12_adds yX12_adds, .code yX12_fact cX12_fact 1 (some (.object "java/lang/String")), .methodLink RX12 383 yX12_fact, .static yX12_fact, .methodLink RX12 394 yX12_readPart, .instanceMethod yX12_readPart, .selects RX12 yX12_readPart yX12_readPart, .methodLink RX12 415 yX12_readSum, .instanceMethod yX12_readSum, .selects RX12 yX12_readSum yX12_readSum, .fieldLink RX12 401 "SeaLandModel" "deep" "I", .methodLink RX12 412 yX12_readAtom, .instanceMethod yX12_readAtom, .selects RX12 yX12_readAtom yX12_readAtom, .code yX12_readCond cX12_readCond 1 (some .boolean), .methodLink RX12 420 yX12_readAllOf, .instanceMethod yX12_readAllOf, .selects RX12 yX12_readAllOf yX12_readAllOf, .methodLink RX12 404 yX12_readCond, .instanceMethod yX12_readCond, .selects RX12 yX12_readCond yX12_readCond] bs)
set_option maxHeartbeats 4000000 in
set_option maxRecDepth 100000 in
theorem s_readCond4 (l : Launch) (dC : Nat → ClassId) (dI : Nat → Nat → Nat) (kA : Nat → ClassId) (adK adV : Nat → Nat) (G : gT) (H0 : Heap) (q : Nat → Nat) (wZ wN : Nat → Int) (wH wB wC : Int) (wL wK : Nat → Prop) (wU wV : Nat → Nat) (PI : Nat → Int → Prop) (im : Int) (PM PT : Nat → Int → Prop) (lS lB lE : Nat → Nat → Int → Prop) (lN : Nat → Int) (o0 : Nat) (pt : Int32) (en : Int32) (sv : Int32) (dv : Int32) (S0 : Nat → Int → Prop) (lb : Int) (ld : Nat → Int) (hT : gH (dC, dI) kA (SHm q (wP wZ wN wH wB wC wL wK wU wV) PI im PM PT (lD (dS S0 lb sv.toInt ld) lS) lB lE lN) G H0) (hr_o0 : G o0 = some 0) (hm_pt : el H0 o0 (dI 15 12) = some (.int pt)) (hm_en : el H0 o0 (dI 15 13) = some (.int en)) (hm_sv : el H0 o0 (dI 15 28) = some (.int sv)) (hm_dv : el H0 o0 (dI 15 15) = some (.int dv)) (hq0 : 0 ≤ pt.toInt ∧ pt.toInt ≤ 400) (hq1 : 0 ≤ en.toInt ∧ en.toInt ≤ 400) (hq2 : 0 ≤ sv.toInt ∧ sv.toInt ≤ 400) (hpe : pt.toInt ≤ en.toInt) (hsp : sv.toInt ≤ pt.toInt) (hS0 : ∀ (i : Nat) x, lb ≤ (i : Int) → S0 i x) (hlb : 0 ≤ lb ∧ lb ≤ sv.toInt) (hlg : lG lb ld) (hd0 : 0 ≤ ld sv.toNatClampNeg) (hq9 : 4 ≤ dv.toInt ∧ dv.toInt ≤ 4) (hgz : ∀ i, 0 ≤ wZ i) (hgn : ∀ i, 6500000 ≤ wN i ∧ wN i ≤ 20200000) (hgh : 0 ≤ wH ∧ wH ≤ 40000) (hgb : 0 ≤ wB ∧ wB ≤ 3850000) (hgc : 0 ≤ wC ∧ wC ≤ 30) (hgi : 0 ≤ im ∧ im ≤ 1) (hgu : ∀ a t, G a = some (t + 1) → a = q t) : Met l yX12_readCond w_s_readCond4 ({ frames := 15, cells := 0, slots := 0, locals := 312 }) (va_Pc [.ref o0] (fun U => U.heap = H0 ∧ va_K (dC, dI) vwCl (tyl kA) U ∧ EVS adK adV (gA G H0.size) U U.heap)) (va_Qi (fun (r : Int32) (u : Int32 × Int32 × Int32 × Int32 × (Nat → Int)) => match u with | (p1, b1, s1, d1, ld1) => (0 ≤ p1.toInt ∧ p1.toInt ≤ 400) ∧ (0 ≤ b1.toInt ∧ b1.toInt ≤ 400) ∧ (0 ≤ s1.toInt ∧ s1.toInt ≤ 400) ∧ (0 ≤ r.toInt ∧ r.toInt ≤ 1) ∧ (r = 1 → ld1 s1.toNatClampNeg = ld sv.toNatClampNeg + 1) ∧ (r = 1 → d1.toInt = 4) ∧ (pt.toInt ≤ p1.toInt ∧ p1.toInt ≤ en.toInt ∧ sv.toInt ≤ s1.toInt ∧ s1.toInt - sv.toInt ≤ p1.toInt - pt.toInt) ∧ (lG lb ld1)) (fun (u : Int32 × Int32 × Int32 × Int32 × (Nat → Int)) (t : State) => match u with | (p1, b1, s1, d1, ld1) => gH (dC, dI) kA (SHm q (wP wZ wN wH wB wC wL wK wU wV) PI im PM PT (lD (dS S0 lb s1.toInt ld1) lS) lB lE lN) G t.heap ∧ gF (dC, dI) SKm G ([(0, 12), (0, 14), (0, 15), (0, 28), (27, 0), (28, 0)] : List (Nat × Nat)) H0 t.heap ∧ el t.heap o0 (dI 15 12) = some (.int p1) ∧ el t.heap o0 (dI 15 14) = some (.int b1) ∧ el t.heap o0 (dI 15 28) = some (.int s1) ∧ el t.heap o0 (dI 15 15) = some (.int d1)) (gA G H0.size)) 0 0 (gA G H0.size) := by
  refine Met.ofW (cc := cX12_readCond) (maxL := 1) (ret := (some .boolean)) (by decide) rfl ?_
  intro p e s m args below meth c s₁ B hml hv
  obtain ⟨rfl, hH0, hK, hE⟩ := hv
  have hx := B.exec
  have hb := B.bytes
  have hr := B.returns
  have hts := atoms_spec (ws := w_s_readCond4) B.pre
  have hown : s.vm.findClass RX12 = some m.cls := findClass_of_methodNamed B.named
  have hlocks := B.notSynchronized
  subst hH0
  generalize hAe : gA G s.heap.size = A at hE ⊢
  have hA : ∀ q : Nat, s.heap.size ≤ q → A q := fun q h => by rw [← hAe]; exact Or.inr h
  have hG := gA_of hAe
  have hS : va_S A s.heap s.heap [] := va_S.rf
  have hF : gF (dC, dI) SKm G ([(0, 12), (0, 14), (0, 15), (0, 28), (27, 0), (28, 0)] : List (Nat × Nat)) s.heap s.heap := gF.rf
  have hl := lv_entry ([.ref o0]) (n := 1) (Nat.le_of_ble_eq_true rfl)
  rw [lg_entry_eq]
  generalize (lg_sl ([.ref o0]) ++ List.replicate (1 - (lg_sl ([.ref o0])).length) Slot.unset).toArray = ls at hl ⊢
  have hl : lv_has ls 1 [(0, .ref o0)] := hl
  refine lv_aload_n hx hb dX12_readCond_0 rfl (lv_at hl 0 rfl) ?_
  have hFc := gA_free hG hA hS
  refine va_calli (va_runV (As := []) (rest := []) ⟨hx, hb, hml, hown, hts⟩ (s_readAllOf4 l dC dI kA adK adV G s.heap q wZ wN wH wB wC wL wK wU wV PI im PM PT lS lB lE lN o0 pt en sv dv S0 lb ld hT hr_o0 hm_pt hm_en hm_sv hm_dv (by have q8 := ti_all pt; omega) (by have q8 := ti_all en; omega) (by have q8 := ti_all sv; omega) (by have := (show pt.toInt = pt.toInt from rfl); have := (show en.toInt = en.toInt from rfl); omega) (by have := (show sv.toInt = sv.toInt from rfl); have := (show pt.toInt = pt.toInt from rfl); omega) hS0 (by have := (show sv.toInt = sv.toInt from rfl); omega) hlg (by omega) (by have q8 := ti_all dv; omega) hgz hgn hgh hgb hgc hgi hgu) (cwV 0 hts (goodIn_app (goodIn_r _ [92, 93, 94, 12] rfl (by decide +kernel)) (goodIn_ca (goodIn_r _ [1, 2, 3, 4, 5, 6, 7, 8, 9, 10, 11, 12, 13, 14, 15, 16, 17, 18, 19, 20, 21, 22, 23, 24, 25, 26, 27, 28, 29, 30, 31, 32, 33, 34, 35, 36, 37, 38, 39, 40, 41, 42, 43, 44, 45, 46, 47, 48, 49, 50, 51, 52, 53, 54, 55, 56, 57, 58, 59, 60, 61, 62, 63, 64, 65, 66, 67, 68, 69, 70, 71, 72, 73, 74, 75, 76, 77, 78, 79, 80, 81, 82, 83, 84, 85, 86, 87, 88, 89, 90, 91, 1, 92, 93, 94, 95, 96, 97] rfl (by decide +kernel)) (bs_in _ _))) rfl rfl rfl (by decide +kernel) ⟨(Nat.le_of_ble_eq_true rfl), (Nat.le_of_ble_eq_true rfl)⟩) ⟨fun a U g mk q => by obtain ⟨q0, q1, qK, qE⟩ := q; exact ⟨q0, q1, va_K.moved (u := U) (U := U.calling g mk a) (Vm.Alike.refl U.vm) qK, EVS.blind g mk a qE⟩, gH_rc hK hT hr_o0 shm_0 rfl, fun U hU hW => ⟨rfl, hU, va_K.moved hW.alike hK, hE.call hS hFc hU hW⟩⟩ rfl rfl hl.1 rfl (lv_room (Nat.le_of_ble_eq_true rfl)) dX12_readCond_1 ⟨(Nat.le_of_ble_eq_true rfl), (Nat.le_of_ble_eq_true rfl)⟩) hS (fun q _ h => hFc q h) hFc (fun r1 u t H locs ht hvm hw2 hB _ _ hS => ?_)
  obtain ⟨u3, u4, u5, u6, u7⟩ := u
  obtain ⟨hT, hF1, m8, m9, m10, m11⟩ := hB
  rw [ht] at hT hF1 m8 m9 m10 m11
  have m13 := (hF1.fld hr_o0 skm_0 (k := 13) (by decide) (by decide)).trans hm_en
  have hF := hF.more hF1 (by decide)
  try dsimp only at hw2
  obtain ⟨h16, h17, h18, h19, hi20, hi21, hf22, hf23⟩ := hw2
  refine lv_if_ne (tgt := 9) hx hb dX12_readCond_4 (by decide) (fun c24 => ?_) (fun c24 => ?_)
  · have t25 : r1.toInt ≠ 0 := ti_ne c24 rfl (by decide)
    have t26 : u7 u5.toNatClampNeg = ld sv.toNatClampNeg + 1 := hi20 ((bit_of ⟨by omega, by omega⟩).resolve_left c24)
    have t27 : u6.toInt = 4 := hi21 ((bit_of ⟨by omega, by omega⟩).resolve_left c24)
    have key180 : ∀ (n180 : Nat), ∀ (gld100 : Nat → Int), ∀ (z102 : Int32), ∀ (z105 : Int32), ∀ (z108 : Int32), ∀ (z111 : Int32), (400 - z102.toInt < ((n180 : Nat) : Int)) → ((0 ≤ z102.toInt ∧ z102.toInt ≤ 400) ∧ (0 ≤ z105.toInt ∧ z105.toInt ≤ 400) ∧ (0 ≤ z108.toInt ∧ z108.toInt ≤ 400) ∧ (4 ≤ z111.toInt ∧ z111.toInt ≤ 4) ∧ (lG lb gld100) ∧ (gld100 z108.toNatClampNeg = ld sv.toNatClampNeg + 1) ∧ (pt.toInt ≤ z102.toInt ∧ z102.toInt ≤ en.toInt ∧ sv.toInt ≤ z108.toInt ∧ z108.toInt - sv.toInt ≤ z102.toInt - pt.toInt)) → ∀ (H : Heap) (locs : List Loc), gH (dC, dI) kA (SHm q (wP wZ wN wH wB wC wL wK wU wV) PI im PM PT (lD (dS S0 lb z108.toInt gld100) lS) lB lE lN) G H → gF (dC, dI) SKm G ([(0, 12), (0, 14), (0, 15), (0, 28), (27, 0), (28, 0)] : List (Nat × Nat)) s.heap H → va_S A s.heap H locs → el H o0 (dI 15 13) = some (.int en) → el H o0 (dI 15 12) = some (.int z102) → el H o0 (dI 15 14) = some (.int z105) → el H o0 (dI 15 28) = some (.int z108) → el H o0 (dI 15 15) = some (.int z111) → ∀ ls : Array Slot, lv_has ls 1 [(0, .ref o0)] → W p l e (headSpec w_s_readCond4 ({ frames := 15, cells := 0, slots := 0, locals := 312 })).room s m #[.ref o0] below meth c H locs 0 0 (MQ below (va_Qi (fun (r : Int32) (u : Int32 × Int32 × Int32 × Int32 × (Nat → Int)) => match u with | (p1, b1, s1, d1, ld1) => (0 ≤ p1.toInt ∧ p1.toInt ≤ 400) ∧ (0 ≤ b1.toInt ∧ b1.toInt ≤ 400) ∧ (0 ≤ s1.toInt ∧ s1.toInt ≤ 400) ∧ (0 ≤ r.toInt ∧ r.toInt ≤ 1) ∧ (r = 1 → ld1 s1.toNatClampNeg = ld sv.toNatClampNeg + 1) ∧ (r = 1 → d1.toInt = 4) ∧ (pt.toInt ≤ p1.toInt ∧ p1.toInt ≤ en.toInt ∧ sv.toInt ≤ s1.toInt ∧ s1.toInt - sv.toInt ≤ p1.toInt - pt.toInt) ∧ (lG lb ld1)) (fun (u : Int32 × Int32 × Int32 × Int32 × (Nat → Int)) (t : State) => match u with | (p1, b1, s1, d1, ld1) => gH (dC, dI) kA (SHm q (wP wZ wN wH wB wC wL wK wU wV) PI im PM PT (lD (dS S0 lb s1.toInt ld1) lS) lB lE lN) G t.heap ∧ gF (dC, dI) SKm G ([(0, 12), (0, 14), (0, 15), (0, 28), (27, 0), (28, 0)] : List (Nat × Nat)) s.heap t.heap ∧ el t.heap o0 (dI 15 12) = some (.int p1) ∧ el t.heap o0 (dI 15 14) = some (.int b1) ∧ el t.heap o0 (dI 15 28) = some (.int s1) ∧ el t.heap o0 (dI 15 15) = some (.int d1)) A) #[.ref o0] s 0 0 A) (F0 m 9 ls []) := by
      intro n180
      induction n180 with
      | zero =>
        intro gld100 z102 z105 z108 z111 hv180 ⟨h103, h106, h109, h112, hg114, hg115, hj116⟩ H locs hT hF hS m101 m104 m107 m110 m113 ls hl
        exfalso; omega
      | succ n180 ih180 =>
        intro gld100 z102 z105 z108 z111 hv180 ⟨h103, h106, h109, h112, hg114, hg115, hj116⟩ H locs hT hF hS m101 m104 m107 m110 m113 ls hl
        refine lv_aload_n hx hb dX12_readCond_9 rfl (lv_at hl 0 rfl) ?_
        refine tw_ldcwS hx hb hown hE.s12 dX12_readCond_10 ?_
        have hFc := gA_free hG hA hS
        refine va_calli (va_runV (As := [.ref (adK 12)]) (rest := []) ⟨hx, hb, hml, hown, hts⟩ (s_passes l dC dI kA adK adV G H q wZ wN wH wB wC wL wK wU wV PI im PM PT (lD (dS S0 lb z108.toInt gld100) lS) lB lE lN o0 z102 en 12 hT hr_o0 m104 m101 (by have q8 := ti_all z102; omega) (by have q8 := ti_all en; omega) (by have := (show z102.toInt = z102.toInt from rfl); have := (show en.toInt = en.toInt from rfl); omega) (by first | omega | decide) hgz hgn hgh hgb hgc hgi hgu) (cwV 1 hts (goodIn_app (goodIn_r _ [61, 62, 63, 12] rfl (by decide +kernel)) (goodIn_ca (goodIn_r _ [20, 21, 4, 5, 6, 7, 8, 9, 10, 11, 12, 13, 14, 15, 16, 22, 23, 24, 25, 26, 27, 28, 29, 30, 31, 32, 33, 34, 35, 36, 37, 38, 39, 40, 41, 42, 43, 44, 45, 46, 47, 48, 49, 50, 51, 52, 53, 54, 55, 56, 57, 58, 59, 60] rfl (by decide +kernel)) (bs_in _ _))) rfl rfl rfl (by decide +kernel) ⟨(Nat.le_of_ble_eq_true rfl), (Nat.le_of_ble_eq_true rfl)⟩) ⟨fun a U g mk q => by obtain ⟨q0, q1, qK, qE⟩ := q; exact ⟨q0, q1, va_K.moved (u := U) (U := U.calling g mk a) (Vm.Alike.refl U.vm) qK, EVS.blind g mk a qE⟩, gH_rc hK hT hr_o0 shm_0 rfl, fun U hU hW => ⟨rfl, hU, va_K.moved hW.alike hK, hE.call hS hFc hU hW⟩⟩ rfl rfl hl.1 rfl (lv_room (Nat.le_of_ble_eq_true rfl)) dX12_readCond_13 ⟨(Nat.le_of_ble_eq_true rfl), (Nat.le_of_ble_eq_true rfl)⟩) hS (fun q _ h => hFc q h) hFc (fun r181 u t H locs ht hvm hw182 hB _ _ hS => ?_)
        obtain ⟨u183, u184⟩ := u
        obtain ⟨hT, hF1, m185, m186⟩ := hB
        rw [ht] at hT hF1 m185 m186
        have m187 := (hF1.fld hr_o0 skm_0 (k := 13) (by decide) (by decide)).trans m101
        have m190 := (hF1.fld hr_o0 skm_0 (k := 28) (by decide) (by decide)).trans m110
        have m191 := (hF1.fld hr_o0 skm_0 (k := 15) (by decide) (by decide)).trans m113
        have hF := hF.more hF1 (by decide)
        try dsimp only at hw182
        obtain ⟨h192, h193, h194, hi195, hf196⟩ := hw182
        refine lv_if_eq (tgt := 38) hx hb dX12_readCond_16 (by decide) (fun c197 => ?_) (fun c197 => ?_)
        · have t198 : r181.toInt = 0 := ti_eq c197 rfl (by decide)
          refine lv_iconst (v := 1) hx hb dX12_readCond_38 (by decide) ?_
          exact W.zret (v := 1) hx hb hr (by decide) (fun t ht hW => ⟨⟨1, (u183, u184, z108, z111, gld100), rfl, (by exact ⟨(by have q8 := ti_all u183; omega), (by have q8 := ti_all u184; omega), (by have q8 := ti_all z108; omega), (rg_t (a := 1) (by decide) (by first | decide | omega) (by first | decide | omega)), (fun _ => (by omega)), (fun _ => (by omega)), (by omega), hg114⟩), by (try dsimp only); rw [ht]; exact ⟨hT, hF, m185, m186, m190, m191⟩⟩, hS.F ht⟩) hS.2.2 dX12_readCond_39
        · have t199 : r181.toInt ≠ 0 := ti_ne c197 rfl (by decide)
          have t200 : z102.toInt + 1 ≤ u183.toInt := hi195 ((bit_of ⟨by omega, by omega⟩).resolve_left c197)
          refine lv_aload_n hx hb dX12_readCond_19 rfl (lv_at hl 0 rfl) ?_
          have hFc := gA_free hG hA hS
          refine va_calli (va_runV (As := []) (rest := []) ⟨hx, hb, hml, hown, hts⟩ (s_readAllOf4 l dC dI kA adK adV G H q wZ wN wH wB wC wL wK wU wV PI im PM PT lS lB lE lN o0 u183 en z108 z111 S0 lb gld100 hT hr_o0 m185 m187 m190 m191 (by have q8 := ti_all u183; omega) (by have q8 := ti_all en; omega) (by have q8 := ti_all z108; omega) (by have := (show u183.toInt = u183.toInt from rfl); have := (show en.toInt = en.toInt from rfl); omega) (by have := (show z108.toInt = z108.toInt from rfl); have := (show u183.toInt = u183.toInt from rfl); omega) hS0 (by have := (show z108.toInt = z108.toInt from rfl); omega) hg114 (by omega) (by have q8 := ti_all z111; omega) hgz hgn hgh hgb hgc hgi hgu) (cwV 0 hts (goodIn_app (goodIn_r _ [92, 93, 94, 12] rfl (by decide +kernel)) (goodIn_ca (goodIn_r _ [1, 2, 3, 4, 5, 6, 7, 8, 9, 10, 11, 12, 13, 14, 15, 16, 17, 18, 19, 20, 21, 22, 23, 24, 25, 26, 27, 28, 29, 30, 31, 32, 33, 34, 35, 36, 37, 38, 39, 40, 41, 42, 43, 44, 45, 46, 47, 48, 49, 50, 51, 52, 53, 54, 55, 56, 57, 58, 59, 60, 61, 62, 63, 64, 65, 66, 67, 68, 69, 70, 71, 72, 73, 74, 75, 76, 77, 78, 79, 80, 81, 82, 83, 84, 85, 86, 87, 88, 89, 90, 91, 1, 92, 93, 94, 95, 96, 97] rfl (by decide +kernel)) (bs_in _ _))) rfl rfl rfl (by decide +kernel) ⟨(Nat.le_of_ble_eq_true rfl), (Nat.le_of_ble_eq_true rfl)⟩) ⟨fun a U g mk q => by obtain ⟨q0, q1, qK, qE⟩ := q; exact ⟨q0, q1, va_K.moved (u := U) (U := U.calling g mk a) (Vm.Alike.refl U.vm) qK, EVS.blind g mk a qE⟩, gH_rc hK hT hr_o0 shm_0 rfl, fun U hU hW => ⟨rfl, hU, va_K.moved hW.alike hK, hE.call hS hFc hU hW⟩⟩ rfl rfl hl.1 rfl (lv_room (Nat.le_of_ble_eq_true rfl)) dX12_readCond_20 ⟨(Nat.le_of_ble_eq_true rfl), (Nat.le_of_ble_eq_true rfl)⟩) hS (fun q _ h => hFc q h) hFc (fun r201 u t H locs ht hvm hw202 hB _ _ hS => ?_)
          obtain ⟨u203, u204, u205, u206, u207⟩ := u
          obtain ⟨hT, hF1, m208, m209, m210, m211⟩ := hB
          rw [ht] at hT hF1 m208 m209 m210 m211
          have m212 := (hF1.fld hr_o0 skm_0 (k := 13) (by decide) (by decide)).trans m187
          have hF := hF.more hF1 (by decide)
          try dsimp only at hw202
          obtain ⟨h217, h218, h219, h220, hi221, hi222, hf223, hf224⟩ := hw202
          refine lv_if_ne (tgt := 28) hx hb dX12_readCond_23 (by decide) (fun c225 => ?_) (fun c225 => ?_)
          · have t226 : r201.toInt ≠ 0 := ti_ne c225 rfl (by decide)
            have t227 : u207 u205.toNatClampNeg = gld100 z108.toNatClampNeg + 1 := hi221 ((bit_of ⟨by omega, by omega⟩).resolve_left c225)
            have t228 : u206.toInt = 4 := hi222 ((bit_of ⟨by omega, by omega⟩).resolve_left c225)
            refine lv_aload_n hx hb dX12_readCond_28 rfl (lv_at hl 0 rfl) ?_
            refine lv_bipush (v := 106) hx hb dX12_readCond_29 (by decide) ?_
            refine lv_iconst (v := 0) hx hb dX12_readCond_31 (by decide) ?_
            have hFc := gA_free hG hA hS
            refine va_callv (va_runV (As := [.int 106, .int 0]) (rest := []) ⟨hx, hb, hml, hown, hts⟩ (s_adds l dC dI kA adK adV G H q wZ wN wH wB wC wL wK wU wV PI im PM PT lS lB lE lN o0 106 0 u205 S0 lb u207 (u207 u205.toNatClampNeg - 1) hT hr_o0 m210 (by have q8 := ti_all u205; omega) (by have q9 := (show (106 : Int32).toInt = 106 from (by decide)); unfold stp; omega) hS0 (by have := (show u205.toInt = u205.toInt from rfl); omega) hf224 hgz hgn hgh hgb hgc hgi hgu) (cwV 2 hts (goodIn_app (goodIn_r _ [75, 76, 77, 12] rfl (by decide +kernel)) (goodIn_ca (goodIn_r _ [71, 72, 73, 74] rfl (by decide +kernel)) (bs_in _ _))) rfl rfl rfl (by decide +kernel) ⟨(Nat.le_of_ble_eq_true rfl), (Nat.le_of_ble_eq_true rfl)⟩) ⟨fun a U g mk q => by obtain ⟨q0, q1, qK, qE⟩ := q; exact ⟨q0, q1, va_K.moved (u := U) (U := U.calling g mk a) (Vm.Alike.refl U.vm) qK, EVS.blind g mk a qE⟩, gH_rc hK hT hr_o0 shm_0 rfl, fun U hU hW => ⟨rfl, hU, va_K.moved hW.alike hK, hE.call hS hFc hU hW⟩⟩ rfl rfl hl.1 rfl (lv_room (Nat.le_of_ble_eq_true rfl)) dX12_readCond_32 ⟨(Nat.le_of_ble_eq_true rfl), (Nat.le_of_ble_eq_true rfl)⟩) hS (fun q _ h => hFc q h) hFc (fun u t H locs ht hvm hw230 hB _ _ hS => ?_)
            obtain ⟨u231, u232⟩ := u
            obtain ⟨hT, hF1, m233⟩ := hB
            rw [ht] at hT hF1 m233
            have m234 := (hF1.fld hr_o0 skm_0 (k := 13) (by decide) (by decide)).trans m212
            have m235 := (hF1.fld hr_o0 skm_0 (k := 12) (by decide) (by decide)).trans m208
            have m236 := (hF1.fld hr_o0 skm_0 (k := 14) (by decide) (by decide)).trans m209
            have m238 := (hF1.fld hr_o0 skm_0 (k := 15) (by decide) (by decide)).trans m211
            have hF := hF.more hF1 (by decide)
            try dsimp only at hw230
            obtain ⟨h239, hf240, hf241, hf242⟩ := hw230
            refine lv_goto (tgt := 9) hx hb dX12_readCond_35 (by decide) ?_
            exact ih180 u232 u203 u204 u231 u206 (by have q9 := (show u203.toInt = u203.toInt from rfl); omega) ⟨(by have q8 := ti_all u203; omega), (by have q8 := ti_all u204; omega), (by have q8 := ti_all u231; omega), (by have q8 := ti_all u206; omega), hf242, (by omega), (by have := (show u203.toInt = u203.toInt from rfl); have := (show u231.toInt = u231.toInt from rfl); omega)⟩ _ _ hT hF hS m234 m235 m236 m233 m238 ls (lv_sub hl [0] rfl)
          · have t243 : r201.toInt = 0 := ti_eq c225 rfl (by decide)
            refine lv_iconst (v := 0) hx hb dX12_readCond_26 (by decide) ?_
            exact W.zret (v := 0) hx hb hr (by decide) (fun t ht hW => ⟨⟨0, (u203, u204, u205, u206, u207), rfl, (by exact ⟨(by have q8 := ti_all u203; omega), (by have q8 := ti_all u204; omega), (by have q8 := ti_all u205; omega), (rg_t (a := 0) (by decide) (by first | decide | omega) (by first | decide | omega)), (fun h => absurd h (by decide)), (fun h => absurd h (by decide)), (by omega), hf224⟩), by (try dsimp only); rw [ht]; exact ⟨hT, hF, m208, m209, m210, m211⟩⟩, hS.F ht⟩) hS.2.2 dX12_readCond_27
    exact key180 401 u7 u3 u4 u5 u6 (by have q9 := (show u3.toInt = u3.toInt from rfl); omega) ⟨(by have q8 := ti_all u3; omega), (by have q8 := ti_all u4; omega), (by have q8 := ti_all u5; omega), (by have q8 := ti_all u6; omega), hf23, (by omega), (by have := (show u3.toInt = u3.toInt from rfl); have := (show u5.toInt = u5.toInt from rfl); omega)⟩ _ _ hT hF hS m13 m8 m9 m10 m11 ls (lv_sub hl [0] rfl)
  · have t244 : r1.toInt = 0 := ti_eq c24 rfl (by decide)
    refine lv_iconst (v := 0) hx hb dX12_readCond_7 (by decide) ?_
    exact W.zret (v := 0) hx hb hr (by decide) (fun t ht hW => ⟨⟨0, (u3, u4, u5, u6, u7), rfl, (by exact ⟨(by have q8 := ti_all u3; omega), (by have q8 := ti_all u4; omega), (by have q8 := ti_all u5; omega), (rg_t (a := 0) (by decide) (by first | decide | omega) (by first | decide | omega)), (fun h => absurd h (by decide)), (fun h => absurd h (by decide)), (by omega), hf23⟩), by (try dsimp only); rw [ht]; exact ⟨hT, hF, m8, m9, m10, m11⟩⟩, hS.F ht⟩) hS.2.2 dX12_readCond_8
