def w_s_readAtom4 : List Cond := .code yX12_readAtom cX12_readAtom 2 (some .boolean) :: (HAppend.hAppend (α := List Cond) (β := List Cond) (γ := List Cond) [.code yX12_sign cX12_sign 2 (some .boolean), .code yX12_blanks cX12_blanks 1 none, .code yX12_isAt cX12_isAt 3 (some .boolean), .fieldLink RX12 335 "SeaLandModel" "point" "I", .fieldLink RX12 338 "SeaLandModel" "end" "I", .fieldLink RX12 31 "SeaLandModel" "tape" "[B", .methodLink RX12 341 yX12_isAt, .instanceMethod yX12_isAt, .selects RX12 yX12_isAt yX12_isAt, .initialized RX12, .fieldLink RX12 345 "SeaLandModel" "begin" "I", .methodLink RX12 348 yX12_blanks, .instanceMethod yX12_blanks, .selects RX12 yX12_blanks yX12_blanks, .methodLink RX12 398 yX12_sign, .instanceMethod yX12_sign, .selects RX12 yX12_sign yX12_sign, .code yX12_passes cX12_passes 2 (some .boolean), .code yX12_word cX12_word 1 none, .methodLink RX12 360 yX12_word, .instanceMethod yX12_word, .selects RX12 yX12_word yX12_word, .code yX12_isWord cX12_isWord 4 (some .boolean), .code yJ0_length_8abf5 cJ0_length_8abf5 1 (some .int), .fieldLink RJ0 9 "java/lang/String" "value" "[B", .code yJ0_coder_7d493 cJ0_coder_7d493 1 (some .byte), .fieldLink RJ0 38 "java/lang/String" "COMPACT_STRINGS" "Z", .fieldLink RJ0 15 "java/lang/String" "coder" "B", .methodLink RJ0 335 yJ0_coder_7d493, .instanceMethod yJ0_coder_7d493, .selects RJ0 yJ0_coder_7d493 yJ0_coder_7d493, .initialized RJ0, .methodLink RX12 351 yJ0_length_8abf5, .instanceMethod yJ0_length_8abf5, .selects RJ0 yJ0_length_8abf5 yJ0_length_8abf5, .code yJ0_charAt_5068e cJ0_charAt_5068e 2 (some .char), .code yJ0_isLatin1_aae02 cJ0_isLatin1_aae02 1 (some .boolean), .methodLink RJ0 492 yJ0_isLatin1_aae02, .instanceMethod yJ0_isLatin1_aae02, .selects RJ0 yJ0_isLatin1_aae02 yJ0_isLatin1_aae02, .code yJ1_charAt_3b067 cJ1_charAt_3b067 2 (some .char), .code yJ0_checkIndex_df160 cJ0_checkIndex_df160 2 none, .fieldLink RJ0 1053 "jdk/internal/util/Preconditions" "SIOOBE_FORMATTER" "Ljava/util/function/BiFunction;", .code yJ3_checkIndex_8e157 cJ3_checkIndex_8e157 3 (some .int), .methodLink RJ0 1059 yJ3_checkIndex_8e157, .static yJ3_checkIndex_8e157, .initialized RJ3, .methodLink RJ1 9 yJ0_checkIndex_df160, .static yJ0_checkIndex_df160, .methodLink RJ0 495 yJ1_charAt_3b067, .static yJ1_charAt_3b067, .initialized RJ1, .methodLink RX12 356 yJ0_charAt_5068e, .instanceMethod yJ0_charAt_5068e, .selects RJ0 yJ0_charAt_5068e yJ0_charAt_5068e, .methodLink RX12 363 yX12_isWord, .instanceMethod yX12_isWord, .selects RX12 yX12_isWord yX12_isWord, .methodLink RX12 409 yX12_passes, .instanceMethod yX12_passes, .selects RX12 yX12_passes yX12_passes, .code yX12_readSum cX12_readSum 1 (some .boolean), .code yX12_readPart cX12_readPart 2 (some .boolean), .constant RX12 390 99999, .code yX12_number cX12_number 3 (some .int), .methodLink RX12 391 yX12_number, .instanceMethod yX12_number, .selects RX12 yX12_number yX12_number, .code yX12_adds cX12_adds 3 none, .fieldLink RX12 66 "SeaLandModel" "step" "[I", .fieldLink RX12 367 "SeaLandModel" "steps" "I", .fieldLink RX12 69 "SeaLandModel" "than" "[I", .methodLink RX12 387 yX12_adds, .instanceMethod yX12_adds, .selects RX12 yX12_adds yX12_adds, .code yX12_fact cX12_fact 1 (some (.object "java/lang/String")), .methodLink RX12 383 yX12_fact, .static yX12_fact, .methodLink RX12 394 yX12_readPart, .instanceMethod yX12_readPart, .selects RX12 yX12_readPart yX12_readPart, .methodLink RX12 415 yX12_readSum, .instanceMethod yX12_readSum, .selects RX12 yX12_readSum yX12_readSum, .fieldLink RX12 401 "SeaLandModel" "deep" "I", .code yX12_readAtom cX12_readAtom 2 (some .boolean), .methodLink RX12 412 yX12_readAtom, .instanceMethod yX12_readAtom, .selects RX12 yX12_readAtom yX12_readAtom, .code yX12_readCond cX12_readCond 1 (some .boolean), .code yX12_readAllOf cX12_readAllOf 1 (some .boolean), .methodLink RX12 420 yX12_readAllOf, .instanceMethod yX12_readAllOf, .selects RX12 yX12_readAllOf yX12_readAllOf, .methodLink RX12 404 yX12_readCond, .instanceMethod yX12_readCond, .selects RX12 yX12_readCond yX12_readCond] bs)
set_option maxHeartbeats 4000000 in
set_option maxRecDepth 100000 in
theorem s_readAtom4 (l : Launch) (dC : Nat → ClassId) (dI : Nat → Nat → Nat) (kA : Nat → ClassId) (adK adV : Nat → Nat) (G : gT) (H0 : Heap) (q : Nat → Nat) (wZ wN : Nat → Int) (wH wB wC : Int) (wL wK : Nat → Prop) (wU wV : Nat → Nat) (PI : Nat → Int → Prop) (im : Int) (PM PT : Nat → Int → Prop) (lS lB lE : Nat → Nat → Int → Prop) (lN : Nat → Int) (o0 : Nat) (pt : Int32) (en : Int32) (sv : Int32) (dv : Int32) (vt : Nat → Int32) (S0 : Nat → Int → Prop) (lb : Int) (ld : Nat → Int) (N : Nat) (hT : gH (dC, dI) kA (SHm q (wP wZ wN wH wB wC wL wK wU wV) PI im PM PT (lD (dS S0 lb sv.toInt ld) lS) lB lE lN) G H0) (hr_o0 : G o0 = some 0) (hm_pt : el H0 o0 (dI 15 12) = some (.int pt)) (hm_en : el H0 o0 (dI 15 13) = some (.int en)) (hm_sv : el H0 o0 (dI 15 28) = some (.int sv)) (hm_dv : el H0 o0 (dI 15 15) = some (.int dv)) (hq0 : 0 ≤ pt.toInt ∧ pt.toInt ≤ 400) (hq1 : 0 ≤ en.toInt ∧ en.toInt ≤ 400) (hq2 : 0 ≤ sv.toInt ∧ sv.toInt ≤ 400) (hpe : pt.toInt ≤ en.toInt) (hsp : sv.toInt ≤ pt.toInt) (hS0 : ∀ (i : Nat) x, lb ≤ (i : Int) → S0 i x) (hlb : 0 ≤ lb ∧ lb ≤ sv.toInt) (hlg : lG lb ld) (hd0 : 0 ≤ ld sv.toNatClampNeg) (hq9 : 4 ≤ dv.toInt ∧ dv.toInt ≤ 4) (hN : en.toInt = ((N : Nat) : Int)) (hc_vt : ct H0 (q 10) 400 vt) (hgz : ∀ i, 0 ≤ wZ i) (hgn : ∀ i, 6500000 ≤ wN i ∧ wN i ≤ 20200000) (hgh : 0 ≤ wH ∧ wH ≤ 40000) (hgb : 0 ≤ wB ∧ wB ≤ 3850000) (hgc : 0 ≤ wC ∧ wC ≤ 30) (hgi : 0 ≤ im ∧ im ≤ 1) (hgu : ∀ a t, G a = some (t + 1) → a = q t) : Met l yX12_readAtom w_s_readAtom4 ({ frames := 13, cells := 0, slots := 0, locals := 271 }) (va_Pc [.ref o0] (fun U => U.heap = H0 ∧ va_K (dC, dI) vwCl (tyl kA) U ∧ EVS adK adV (gA G H0.size) U U.heap)) (va_Qi (fun (r : Int32) (u : Int32 × Int32 × Int32 × Int32 × (Nat → Int)) => match u with | (p1, b1, s1, d1, ld1) => (0 ≤ p1.toInt ∧ p1.toInt ≤ 400) ∧ (0 ≤ b1.toInt ∧ b1.toInt ≤ 400) ∧ (0 ≤ s1.toInt ∧ s1.toInt ≤ 400) ∧ (0 ≤ r.toInt ∧ r.toInt ≤ 1) ∧ (r = 1 → ld1 s1.toNatClampNeg = ld sv.toNatClampNeg + 1) ∧ (r = 1 → d1.toInt = 4) ∧ (pt.toInt ≤ p1.toInt ∧ p1.toInt ≤ en.toInt ∧ sv.toInt ≤ s1.toInt ∧ s1.toInt - sv.toInt ≤ p1.toInt - pt.toInt) ∧ (lG lb ld1) ∧ ((r.toInt = 1 ∧ aR (kd (tx vt) N) (xn (tx vt) N) 2 (skp (tx vt) N pt.toNatClampNeg) 1 (skp (tx vt) N p1.toNatClampNeg)) ∨ (r.toInt = 0 ∧ aR (kd (tx vt) N) (xn (tx vt) N) 2 (skp (tx vt) N pt.toNatClampNeg) 0 b1.toNatClampNeg))) (fun (u : Int32 × Int32 × Int32 × Int32 × (Nat → Int)) (t : State) => match u with | (p1, b1, s1, d1, ld1) => gH (dC, dI) kA (SHm q (wP wZ wN wH wB wC wL wK wU wV) PI im PM PT (lD (dS S0 lb s1.toInt ld1) lS) lB lE lN) G t.heap ∧ gF (dC, dI) SKm G ([(0, 12), (0, 14), (0, 15), (0, 28), (27, 0), (28, 0)] : List (Nat × Nat)) H0 t.heap ∧ el t.heap o0 (dI 15 12) = some (.int p1) ∧ el t.heap o0 (dI 15 14) = some (.int b1) ∧ el t.heap o0 (dI 15 28) = some (.int s1) ∧ el t.heap o0 (dI 15 15) = some (.int d1)) (gA G H0.size)) 0 0 (gA G H0.size) := by
  refine Met.ofW (cc := cX12_readAtom) (maxL := 2) (ret := (some .boolean)) (by decide) rfl ?_
  intro p e s m args below meth c s₁ B hml hv
  obtain ⟨rfl, hH0, hK, hE⟩ := hv
  have hx := B.exec
  have hb := B.bytes
  have hr := B.returns
  have hts := atoms_spec (ws := w_s_readAtom4) B.pre
  have hown : s.vm.findClass RX12 = some m.cls := findClass_of_methodNamed B.named
  have hlocks := B.notSynchronized
  subst hH0
  generalize hAe : gA G s.heap.size = A at hE ⊢
  have hA : ∀ q : Nat, s.heap.size ≤ q → A q := fun q h => by rw [← hAe]; exact Or.inr h
  have hG := gA_of hAe
  have hS : va_S A s.heap s.heap [] := va_S.rf
  have hF : gF (dC, dI) SKm G ([(0, 12), (0, 14), (0, 15), (0, 28), (27, 0), (28, 0)] : List (Nat × Nat)) s.heap s.heap := gF.rf
  have hl := lv_entry ([.ref o0]) (n := 2) (Nat.le_of_ble_eq_true rfl)
  rw [lg_entry_eq]
  generalize (lg_sl ([.ref o0]) ++ List.replicate (2 - (lg_sl ([.ref o0])).length) Slot.unset).toArray = ls at hl ⊢
  have hl : lv_has ls 2 [(0, .ref o0)] := hl
  have hg1 : G (q 10) = some 11 := gx_of hT hr_o0 shm_0 (k := 10) (by decide) rfl
  refine lv_aload_n hx hb dX12_readAtom_0 rfl (lv_at hl 0 rfl) ?_
  refine lv_bipush (v := 40) hx hb dX12_readAtom_1 (by decide) ?_
  have hFc := gA_free hG hA hS
  refine va_calli (va_runV (As := [.int 40]) (rest := []) ⟨hx, hb, hml, hown, hts⟩ (s_sign l dC dI kA adK adV G s.heap q wZ wN wH wB wC wL wK wU wV PI im PM PT (lD (dS S0 lb sv.toInt ld) lS) lB lE lN o0 40 pt en vt N hT hr_o0 hm_pt hm_en (by have q8 := ti_all pt; omega) (by have q8 := ti_all en; omega) (by have := (show pt.toInt = pt.toInt from rfl); have := (show en.toInt = en.toInt from rfl); omega) hN (by unfold sgS; decide) hc_vt hgz hgn hgh hgb hgc hgi hgu) (cwV 1 hts (goodIn_app (goodIn_r _ [15, 16, 17, 10] rfl (by decide +kernel)) (goodIn_ca (goodIn_r _ [1, 2, 3, 4, 5, 6, 7, 8, 9, 10, 11, 12, 13, 14] rfl (by decide +kernel)) (bs_in _ _))) rfl rfl rfl (by decide +kernel) ⟨(Nat.le_of_ble_eq_true rfl), (Nat.le_of_ble_eq_true rfl)⟩) ⟨fun a U g mk q => by obtain ⟨q0, q1, qK, qE⟩ := q; exact ⟨q0, q1, va_K.moved (u := U) (U := U.calling g mk a) (Vm.Alike.refl U.vm) qK, EVS.blind g mk a qE⟩, gH_recv hK hT hr_o0 shm_0 rfl, fun U hU hW => ⟨rfl, hU, va_K.moved hW.alike hK, hE.call hS hFc hU hW⟩⟩ rfl rfl hl.1 rfl (lv_room (Nat.le_of_ble_eq_true rfl)) dX12_readAtom_3 ⟨(Nat.le_of_ble_eq_true rfl), (Nat.le_of_ble_eq_true rfl)⟩) hS (fun q _ h => hFc q h) hFc (fun r2 u t H locs ht hvm hw3 hB _ _ hS => ?_)
  obtain ⟨u4, u5⟩ := u
  obtain ⟨hT, hF1, m6, m7⟩ := hB
  rw [ht] at hT hF1 m6 m7
  have m9 := (hF1.fld hr_o0 skm_0 (k := 13) (by decide) (by decide)).trans hm_en
  have m10 := (hF1.fld hr_o0 skm_0 (k := 28) (by decide) (by decide)).trans hm_sv
  have m11 := (hF1.fld hr_o0 skm_0 (k := 15) (by decide) (by decide)).trans hm_dv
  have m12 := hc_vt.kept (hF1.arr hg1 skm_11 (by decide))
  have hF := hF.more hF1 (by decide)
  try dsimp only at hw3
  obtain ⟨h13, h14, h15, hi16, hf17, hf18, hf19⟩ := hw3
  refine lv_if_eq (tgt := 56) hx hb dX12_readAtom_6 (by decide) (fun c20 => ?_) (fun c20 => ?_)
  · have t21 : r2.toInt = 0 := ti_eq c20 rfl (by decide)
    refine lv_aload_n hx hb dX12_readAtom_56 rfl (lv_at hl 0 rfl) ?_
    refine tw_ldcwS hx hb hown hE.s10 dX12_readAtom_57 ?_
    have hFc := gA_free hG hA hS
    refine va_calli (va_runV (As := [.ref (adK 10)]) (rest := []) ⟨hx, hb, hml, hown, hts⟩ (s_passes l dC dI kA adK adV G H q wZ wN wH wB wC wL wK wU wV PI im PM PT (lD (dS S0 lb sv.toInt ld) lS) lB lE lN o0 u4 en vt 10 N hT hr_o0 m6 m9 (by have q8 := ti_all u4; omega) (by have q8 := ti_all en; omega) (by have := (show u4.toInt = u4.toInt from rfl); have := (show en.toInt = en.toInt from rfl); omega) hN (by first | omega | decide) m12 hgz hgn hgh hgb hgc hgi hgu) (cwV 1 hts (goodIn_app (goodIn_r _ [59, 60, 61, 10] rfl (by decide +kernel)) (goodIn_ca (goodIn_r _ [18, 19, 2, 3, 4, 5, 6, 7, 8, 9, 10, 11, 12, 13, 14, 20, 21, 22, 23, 24, 25, 26, 27, 28, 29, 30, 31, 32, 33, 34, 35, 36, 37, 38, 39, 40, 41, 42, 43, 44, 45, 46, 47, 48, 49, 50, 51, 52, 53, 54, 55, 56, 57, 58] rfl (by decide +kernel)) (bs_in _ _))) rfl rfl rfl (by decide +kernel) ⟨(Nat.le_of_ble_eq_true rfl), (Nat.le_of_ble_eq_true rfl)⟩) ⟨fun a U g mk q => by obtain ⟨q0, q1, qK, qE⟩ := q; exact ⟨q0, q1, va_K.moved (u := U) (U := U.calling g mk a) (Vm.Alike.refl U.vm) qK, EVS.blind g mk a qE⟩, gH_recv hK hT hr_o0 shm_0 rfl, fun U hU hW => ⟨rfl, hU, va_K.moved hW.alike hK, hE.call hS hFc hU hW⟩⟩ rfl rfl hl.1 rfl (lv_room (Nat.le_of_ble_eq_true rfl)) dX12_readAtom_60 ⟨(Nat.le_of_ble_eq_true rfl), (Nat.le_of_ble_eq_true rfl)⟩) hS (fun q _ h => hFc q h) hFc (fun r22 u t H locs ht hvm hw23 hB _ _ hS => ?_)
    obtain ⟨u24, u25⟩ := u
    obtain ⟨hT, hF1, m26, m27⟩ := hB
    rw [ht] at hT hF1 m26 m27
    have m28 := (hF1.fld hr_o0 skm_0 (k := 13) (by decide) (by decide)).trans m9
    have m29 := (hF1.fld hr_o0 skm_0 (k := 28) (by decide) (by decide)).trans m10
    have m30 := (hF1.fld hr_o0 skm_0 (k := 15) (by decide) (by decide)).trans m11
    have m31 := m12.kept (hF1.arr hg1 skm_11 (by decide))
    have hF := hF.more hF1 (by decide)
    try dsimp only at hw23
    obtain ⟨h34, h35, h36, hi37, hf38, hf39, hf40⟩ := hw23
    refine lv_if_eq (tgt := 115) hx hb dX12_readAtom_63 (by decide) (fun c41 => ?_) (fun c41 => ?_)
    · have t42 : r22.toInt = 0 := ti_eq c41 rfl (by decide)
      refine lv_aload_n hx hb dX12_readAtom_115 rfl (lv_at hl 0 rfl) ?_
      have hFc := gA_free hG hA hS
      refine va_calli (va_runV (As := []) (rest := []) ⟨hx, hb, hml, hown, hts⟩ (s_readSum l dC dI kA adK adV G H q wZ wN wH wB wC wL wK wU wV PI im PM PT lS lB lE lN o0 u24 en sv vt S0 lb ld N hT hr_o0 m26 m28 m29 (by have q8 := ti_all u24; omega) (by have q8 := ti_all en; omega) (by have q8 := ti_all sv; omega) (by have := (show u24.toInt = u24.toInt from rfl); have := (show en.toInt = en.toInt from rfl); omega) (by have := (show sv.toInt = sv.toInt from rfl); have := (show u24.toInt = u24.toInt from rfl); omega) hS0 (by have := (show sv.toInt = sv.toInt from rfl); omega) hlg (by omega) hN m31 hgz hgn hgh hgb hgc hgi hgu) (cwV 0 hts (goodIn_app (goodIn_r _ [82, 83, 84, 10] rfl (by decide +kernel)) (goodIn_ca (goodIn_r _ [62, 63, 19, 2, 3, 4, 5, 6, 7, 8, 9, 10, 11, 12, 13, 14, 20, 21, 22, 64, 65, 66, 67, 68, 69, 70, 71, 72, 73, 74, 75, 76, 77, 78, 23, 24, 25, 26, 27, 28, 29, 30, 31, 32, 33, 34, 35, 36, 37, 38, 39, 40, 41, 42, 43, 44, 45, 46, 47, 48, 49, 50, 51, 52, 53, 54, 55, 56, 57, 58, 79, 80, 81, 1, 15, 16, 17] rfl (by decide +kernel)) (bs_in _ _))) rfl rfl rfl (by decide +kernel) ⟨(Nat.le_of_ble_eq_true rfl), (Nat.le_of_ble_eq_true rfl)⟩) ⟨fun a U g mk q => by obtain ⟨q0, q1, qK, qE⟩ := q; exact ⟨q0, q1, va_K.moved (u := U) (U := U.calling g mk a) (Vm.Alike.refl U.vm) qK, EVS.blind g mk a qE⟩, gH_recv hK hT hr_o0 shm_0 rfl, fun U hU hW => ⟨rfl, hU, va_K.moved hW.alike hK, hE.call hS hFc hU hW⟩⟩ rfl rfl hl.1 rfl (lv_room (Nat.le_of_ble_eq_true rfl)) dX12_readAtom_116 ⟨(Nat.le_of_ble_eq_true rfl), (Nat.le_of_ble_eq_true rfl)⟩) hS (fun q _ h => hFc q h) hFc (fun r43 u t H locs ht hvm hw44 hB _ _ hS => ?_)
      obtain ⟨u45, u46, u47, u48⟩ := u
      obtain ⟨hT, hF1, m49, m50, m51⟩ := hB
      rw [ht] at hT hF1 m49 m50 m51
      have m52 := (hF1.fld hr_o0 skm_0 (k := 13) (by decide) (by decide)).trans m28
      have m54 := (hF1.fld hr_o0 skm_0 (k := 15) (by decide) (by decide)).trans m30
      have m55 := m31.kept (hF1.arr hg1 skm_11 (by decide))
      have hF := hF.more hF1 (by decide)
      try dsimp only at hw44
      obtain ⟨h58, h59, h60, h61, hi62, hf63, hf64, hf65⟩ := hw44
      refine lv_if_ne (tgt := 124) hx hb dX12_readAtom_119 (by decide) (fun c66 => ?_) (fun c66 => ?_)
      · have t67 : r43.toInt ≠ 0 := ti_ne c66 rfl (by decide)
        have t68 : u48 u47.toNatClampNeg = ld sv.toNatClampNeg + 1 := hi62 ((bit_of ⟨by omega, by omega⟩).resolve_left c66)
        refine lv_aload_n hx hb dX12_readAtom_124 rfl (lv_at hl 0 rfl) ?_
        refine lv_bipush (v := 60) hx hb dX12_readAtom_125 (by decide) ?_
        have hFc := gA_free hG hA hS
        refine va_calli (va_runV (As := [.int 60]) (rest := []) ⟨hx, hb, hml, hown, hts⟩ (s_sign l dC dI kA adK adV G H q wZ wN wH wB wC wL wK wU wV PI im PM PT (lD (dS S0 lb u47.toInt u48) lS) lB lE lN o0 60 u45 en vt N hT hr_o0 m49 m52 (by have q8 := ti_all u45; omega) (by have q8 := ti_all en; omega) (by have := (show u45.toInt = u45.toInt from rfl); have := (show en.toInt = en.toInt from rfl); omega) hN (by unfold sgS; decide) m55 hgz hgn hgh hgb hgc hgi hgu) (cwV 1 hts (goodIn_app (goodIn_r _ [15, 16, 17, 10] rfl (by decide +kernel)) (goodIn_ca (goodIn_r _ [1, 2, 3, 4, 5, 6, 7, 8, 9, 10, 11, 12, 13, 14] rfl (by decide +kernel)) (bs_in _ _))) rfl rfl rfl (by decide +kernel) ⟨(Nat.le_of_ble_eq_true rfl), (Nat.le_of_ble_eq_true rfl)⟩) ⟨fun a U g mk q => by obtain ⟨q0, q1, qK, qE⟩ := q; exact ⟨q0, q1, va_K.moved (u := U) (U := U.calling g mk a) (Vm.Alike.refl U.vm) qK, EVS.blind g mk a qE⟩, gH_recv hK hT hr_o0 shm_0 rfl, fun U hU hW => ⟨rfl, hU, va_K.moved hW.alike hK, hE.call hS hFc hU hW⟩⟩ rfl rfl hl.1 rfl (lv_room (Nat.le_of_ble_eq_true rfl)) dX12_readAtom_127 ⟨(Nat.le_of_ble_eq_true rfl), (Nat.le_of_ble_eq_true rfl)⟩) hS (fun q _ h => hFc q h) hFc (fun r69 u t H locs ht hvm hw70 hB _ _ hS => ?_)
        obtain ⟨u71, u72⟩ := u
        obtain ⟨hT, hF1, m73, m74⟩ := hB
        rw [ht] at hT hF1 m73 m74
        have m75 := (hF1.fld hr_o0 skm_0 (k := 13) (by decide) (by decide)).trans m52
        have m76 := (hF1.fld hr_o0 skm_0 (k := 15) (by decide) (by decide)).trans m54
        have m77 := m55.kept (hF1.arr hg1 skm_11 (by decide))
        have m80 := (hF1.fld hr_o0 skm_0 (k := 28) (by decide) (by decide)).trans m51
        have hF := hF.more hF1 (by decide)
        try dsimp only at hw70
        obtain ⟨h81, h82, h83, hi84, hf85, hf86, hf87⟩ := hw70
        refine lv_istore_n (lv' := [(1, .int r69), (0, .ref o0)]) hx hb dX12_readAtom_130 rfl hl (by decide) rfl (fun ls hl => ?_)
        refine lv_iload_n hx hb dX12_readAtom_131 rfl (lv_at hl 0 rfl) ?_
        refine lv_if_ne (tgt := 144) hx hb dX12_readAtom_132 (by decide) (fun c88 => ?_) (fun c88 => ?_)
        · have t89 : r69.toInt ≠ 0 := ti_ne c88 rfl (by decide)
          have t90 : u45.toInt + 1 ≤ u71.toInt := hi84 ((bit_of ⟨by omega, by omega⟩).resolve_left c88)
          refine lv_aload_n hx hb dX12_readAtom_144 rfl (lv_at hl 1 rfl) ?_
          have hFc := gA_free hG hA hS
          refine va_calli (va_runV (As := []) (rest := []) ⟨hx, hb, hml, hown, hts⟩ (s_readSum l dC dI kA adK adV G H q wZ wN wH wB wC wL wK wU wV PI im PM PT lS lB lE lN o0 u71 en u47 vt S0 lb u48 N hT hr_o0 m73 m75 m80 (by have q8 := ti_all u71; omega) (by have q8 := ti_all en; omega) (by have q8 := ti_all u47; omega) (by have := (show u71.toInt = u71.toInt from rfl); have := (show en.toInt = en.toInt from rfl); omega) (by have := (show u47.toInt = u47.toInt from rfl); have := (show u71.toInt = u71.toInt from rfl); omega) hS0 (by have := (show u47.toInt = u47.toInt from rfl); omega) hf64 (by omega) hN m77 hgz hgn hgh hgb hgc hgi hgu) (cwV 0 hts (goodIn_app (goodIn_r _ [82, 83, 84, 10] rfl (by decide +kernel)) (goodIn_ca (goodIn_r _ [62, 63, 19, 2, 3, 4, 5, 6, 7, 8, 9, 10, 11, 12, 13, 14, 20, 21, 22, 64, 65, 66, 67, 68, 69, 70, 71, 72, 73, 74, 75, 76, 77, 78, 23, 24, 25, 26, 27, 28, 29, 30, 31, 32, 33, 34, 35, 36, 37, 38, 39, 40, 41, 42, 43, 44, 45, 46, 47, 48, 49, 50, 51, 52, 53, 54, 55, 56, 57, 58, 79, 80, 81, 1, 15, 16, 17] rfl (by decide +kernel)) (bs_in _ _))) rfl rfl rfl (by decide +kernel) ⟨(Nat.le_of_ble_eq_true rfl), (Nat.le_of_ble_eq_true rfl)⟩) ⟨fun a U g mk q => by obtain ⟨q0, q1, qK, qE⟩ := q; exact ⟨q0, q1, va_K.moved (u := U) (U := U.calling g mk a) (Vm.Alike.refl U.vm) qK, EVS.blind g mk a qE⟩, gH_recv hK hT hr_o0 shm_0 rfl, fun U hU hW => ⟨rfl, hU, va_K.moved hW.alike hK, hE.call hS hFc hU hW⟩⟩ rfl rfl hl.1 rfl (lv_room (Nat.le_of_ble_eq_true rfl)) dX12_readAtom_145 ⟨(Nat.le_of_ble_eq_true rfl), (Nat.le_of_ble_eq_true rfl)⟩) hS (fun q _ h => hFc q h) hFc (fun r91 u t H locs ht hvm hw92 hB _ _ hS => ?_)
          obtain ⟨u93, u94, u95, u96⟩ := u
          obtain ⟨hT, hF1, m97, m98, m99⟩ := hB
          rw [ht] at hT hF1 m97 m98 m99
          have m100 := (hF1.fld hr_o0 skm_0 (k := 13) (by decide) (by decide)).trans m75
          have m101 := (hF1.fld hr_o0 skm_0 (k := 15) (by decide) (by decide)).trans m76
          have m102 := m77.kept (hF1.arr hg1 skm_11 (by decide))
          have hF := hF.more hF1 (by decide)
          try dsimp only at hw92
          obtain ⟨h106, h107, h108, h109, hi110, hf111, hf112, hf113⟩ := hw92
          refine lv_if_ne (tgt := 153) hx hb dX12_readAtom_148 (by decide) (fun c114 => ?_) (fun c114 => ?_)
          · have t115 : r91.toInt ≠ 0 := ti_ne c114 rfl (by decide)
            have t116 : u96 u95.toNatClampNeg = u48 u47.toNatClampNeg + 1 := hi110 ((bit_of ⟨by omega, by omega⟩).resolve_left c114)
            refine lv_aload_n hx hb dX12_readAtom_153 rfl (lv_at hl 1 rfl) ?_
            refine lv_iload_n hx hb dX12_readAtom_154 rfl (lv_at hl 0 rfl) ?_
            refine lv_if_eq (tgt := 163) hx hb dX12_readAtom_155 (by decide) (fun c117 => (by exfalso; have q9 : r69.toInt = 0 := ti_eq c117 rfl (by decide); omega)) (fun c117 => ?_)
            have t118 : r69.toInt ≠ 0 := ti_ne c117 rfl (by decide)
            refine lv_bipush (v := 102) hx hb dX12_readAtom_158 (by decide) ?_
            refine lv_goto (tgt := 165) hx hb dX12_readAtom_160 (by decide) ?_
            refine lv_iconst (v := 0) hx hb dX12_readAtom_165 (by decide) ?_
            have hFc := gA_free hG hA hS
            refine va_callv (va_runV (As := [.int 102, .int 0]) (rest := []) ⟨hx, hb, hml, hown, hts⟩ (s_adds l dC dI kA adK adV G H q wZ wN wH wB wC wL wK wU wV PI im PM PT lS lB lE lN o0 102 0 u95 S0 lb u96 (u96 u95.toNatClampNeg - 1) hT hr_o0 m99 (by have q8 := ti_all u95; omega) (by have q9 := (show (102 : Int32).toInt = 102 from (by decide)); unfold stp; omega) hS0 (by have := (show u95.toInt = u95.toInt from rfl); omega) hf112 hgz hgn hgh hgb hgc hgi hgu) (cwV 2 hts (goodIn_app (goodIn_r _ [73, 74, 75, 10] rfl (by decide +kernel)) (goodIn_ca (goodIn_r _ [69, 70, 71, 72] rfl (by decide +kernel)) (bs_in _ _))) rfl rfl rfl (by decide +kernel) ⟨(Nat.le_of_ble_eq_true rfl), (Nat.le_of_ble_eq_true rfl)⟩) ⟨fun a U g mk q => by obtain ⟨q0, q1, qK, qE⟩ := q; exact ⟨q0, q1, va_K.moved (u := U) (U := U.calling g mk a) (Vm.Alike.refl U.vm) qK, EVS.blind g mk a qE⟩, gH_recv hK hT hr_o0 shm_0 rfl, fun U hU hW => ⟨rfl, hU, va_K.moved hW.alike hK, hE.call hS hFc hU hW⟩⟩ rfl rfl hl.1 rfl (lv_room (Nat.le_of_ble_eq_true rfl)) dX12_readAtom_166 ⟨(Nat.le_of_ble_eq_true rfl), (Nat.le_of_ble_eq_true rfl)⟩) hS (fun q _ h => hFc q h) hFc (fun u t H locs ht hvm hw120 hB _ _ hS => ?_)
            obtain ⟨u121, u122⟩ := u
            obtain ⟨hT, hF1, m123⟩ := hB
            rw [ht] at hT hF1 m123
            have m124 := (hF1.fld hr_o0 skm_0 (k := 13) (by decide) (by decide)).trans m100
            have m125 := (hF1.fld hr_o0 skm_0 (k := 15) (by decide) (by decide)).trans m101
            have m126 := m102.kept (hF1.arr hg1 skm_11 (by decide))
            have m127 := (hF1.fld hr_o0 skm_0 (k := 12) (by decide) (by decide)).trans m97
            have m128 := (hF1.fld hr_o0 skm_0 (k := 14) (by decide) (by decide)).trans m98
            have hF := hF.more hF1 (by decide)
            try dsimp only at hw120
            obtain ⟨h130, hf131, hf132, hf133⟩ := hw120
            refine lv_iconst (v := 1) hx hb dX12_readAtom_169 (by decide) ?_
            exact W.zret (v := 1) hx hb hr (by decide) (fun t ht hW => ⟨⟨1, (u93, u94, u121, dv, u122), rfl, (by exact ⟨(by have q8 := ti_all u93; omega), (by have q8 := ti_all u94; omega), (by have q8 := ti_all u121; omega), (rg_t (a := 1) (by decide) (by omega) (by omega)), (fun _ => (by omega)), (fun _ => (by omega)), (by omega), hf133, (by have a9 := (hf19.resolve_left (fun h8 => by have := h8.2.1; omega)); have n9 := (hf40.resolve_left (fun h8 => by have := h8.2.1; omega)); rw [a9.2.2] at n9; have hk9 : ¬ (kd (tx vt) N (skp (tx vt) N pt.toNatClampNeg) = 16 ∨ kd (tx vt) N (skp (tx vt) N pt.toNatClampNeg) = 13) := (fun h7 => h7.elim (fun h6 => a9.1 (h6.trans (by decide))) (fun h6 => n9.1 (h6.trans (by decide)))); have b9 := (hf65.resolve_right (fun h8 => by have := h8.1; omega)).2; rw [n9.2.2] at b9; have l9 := (hf87.resolve_right (fun h8 => by have := h8.2.1; omega)); have c9 := (hf113.resolve_right (fun h8 => by have := h8.1; omega)).2; rw [l9.2.2] at c9; exact Or.inl ⟨by decide, Or.inr (Or.inr ⟨hk9, Or.inr ⟨_, b9, Or.inr ⟨_, Or.inl ⟨Or.inl (l9.1.trans (by decide)), rfl, rfl⟩, c9⟩⟩⟩)⟩)⟩), by (try dsimp only); rw [ht]; exact ⟨hT, hF, m127, m128, m123, m125⟩⟩, hS.F ht⟩) hS.2.2 dX12_readAtom_170
          · have t134 : r91.toInt = 0 := ti_eq c114 rfl (by decide)
            refine lv_iconst (v := 0) hx hb dX12_readAtom_151 (by decide) ?_
            exact W.zret (v := 0) hx hb hr (by decide) (fun t ht hW => ⟨⟨0, (u93, u94, u95, dv, u96), rfl, (by exact ⟨(by have q8 := ti_all u93; omega), (by have q8 := ti_all u94; omega), (by have q8 := ti_all u95; omega), (rg_t (a := 0) (by decide) (by omega) (by omega)), (fun h => absurd h (by decide)), (fun h => absurd h (by decide)), (by omega), hf112, (by have a9 := (hf19.resolve_left (fun h8 => by have := h8.2.1; omega)); have n9 := (hf40.resolve_left (fun h8 => by have := h8.2.1; omega)); rw [a9.2.2] at n9; have hk9 : ¬ (kd (tx vt) N (skp (tx vt) N pt.toNatClampNeg) = 16 ∨ kd (tx vt) N (skp (tx vt) N pt.toNatClampNeg) = 13) := (fun h7 => h7.elim (fun h6 => a9.1 (h6.trans (by decide))) (fun h6 => n9.1 (h6.trans (by decide)))); have b9 := (hf65.resolve_right (fun h8 => by have := h8.1; omega)).2; rw [n9.2.2] at b9; have l9 := (hf87.resolve_right (fun h8 => by have := h8.2.1; omega)); have c9 := (hf113.resolve_left (fun h8 => by have := h8.1; omega)).2; rw [l9.2.2] at c9; exact Or.inr ⟨by decide, Or.inr (Or.inr ⟨hk9, Or.inr ⟨_, b9, Or.inr ⟨_, Or.inl ⟨Or.inl (l9.1.trans (by decide)), rfl, rfl⟩, c9⟩⟩⟩)⟩)⟩), by (try dsimp only); rw [ht]; exact ⟨hT, hF, m97, m98, m99, m101⟩⟩, hS.F ht⟩) hS.2.2 dX12_readAtom_152
        · have t135 : r69.toInt = 0 := ti_eq c88 rfl (by decide)
          refine lv_aload_n hx hb dX12_readAtom_135 rfl (lv_at hl 1 rfl) ?_
          refine lv_bipush (v := 62) hx hb dX12_readAtom_136 (by decide) ?_
          have hFc := gA_free hG hA hS
          refine va_calli (va_runV (As := [.int 62]) (rest := []) ⟨hx, hb, hml, hown, hts⟩ (s_sign l dC dI kA adK adV G H q wZ wN wH wB wC wL wK wU wV PI im PM PT (lD (dS S0 lb u47.toInt u48) lS) lB lE lN o0 62 u71 en vt N hT hr_o0 m73 m75 (by have q8 := ti_all u71; omega) (by have q8 := ti_all en; omega) (by have := (show u71.toInt = u71.toInt from rfl); have := (show en.toInt = en.toInt from rfl); omega) hN (by unfold sgS; decide) m77 hgz hgn hgh hgb hgc hgi hgu) (cwV 1 hts (goodIn_app (goodIn_r _ [15, 16, 17, 10] rfl (by decide +kernel)) (goodIn_ca (goodIn_r _ [1, 2, 3, 4, 5, 6, 7, 8, 9, 10, 11, 12, 13, 14] rfl (by decide +kernel)) (bs_in _ _))) rfl rfl rfl (by decide +kernel) ⟨(Nat.le_of_ble_eq_true rfl), (Nat.le_of_ble_eq_true rfl)⟩) ⟨fun a U g mk q => by obtain ⟨q0, q1, qK, qE⟩ := q; exact ⟨q0, q1, va_K.moved (u := U) (U := U.calling g mk a) (Vm.Alike.refl U.vm) qK, EVS.blind g mk a qE⟩, gH_recv hK hT hr_o0 shm_0 rfl, fun U hU hW => ⟨rfl, hU, va_K.moved hW.alike hK, hE.call hS hFc hU hW⟩⟩ rfl rfl hl.1 rfl (lv_room (Nat.le_of_ble_eq_true rfl)) dX12_readAtom_138 ⟨(Nat.le_of_ble_eq_true rfl), (Nat.le_of_ble_eq_true rfl)⟩) hS (fun q _ h => hFc q h) hFc (fun r136 u t H locs ht hvm hw137 hB _ _ hS => ?_)
          obtain ⟨u138, u139⟩ := u
          obtain ⟨hT, hF1, m140, m141⟩ := hB
          rw [ht] at hT hF1 m140 m141
          have m142 := (hF1.fld hr_o0 skm_0 (k := 13) (by decide) (by decide)).trans m75
          have m143 := (hF1.fld hr_o0 skm_0 (k := 15) (by decide) (by decide)).trans m76
          have m144 := m77.kept (hF1.arr hg1 skm_11 (by decide))
          have m145 := (hF1.fld hr_o0 skm_0 (k := 28) (by decide) (by decide)).trans m80
          have hF := hF.more hF1 (by decide)
          try dsimp only at hw137
          obtain ⟨h148, h149, h150, hi151, hf152, hf153, hf154⟩ := hw137
          refine lv_if_eq (tgt := 151) hx hb dX12_readAtom_141 (by decide) (fun c155 => ?_) (fun c155 => ?_)
          · have t156 : r136.toInt = 0 := ti_eq c155 rfl (by decide)
            refine lv_iconst (v := 0) hx hb dX12_readAtom_151 (by decide) ?_
            exact W.zret (v := 0) hx hb hr (by decide) (fun t ht hW => ⟨⟨0, (u138, u139, u47, dv, u48), rfl, (by exact ⟨(by have q8 := ti_all u138; omega), (by have q8 := ti_all u139; omega), (by have q8 := ti_all u47; omega), (rg_t (a := 0) (by decide) (by omega) (by omega)), (fun h => absurd h (by decide)), (fun h => absurd h (by decide)), (by omega), hf64, (by have a9 := (hf19.resolve_left (fun h8 => by have := h8.2.1; omega)); have n9 := (hf40.resolve_left (fun h8 => by have := h8.2.1; omega)); rw [a9.2.2] at n9; have hk9 : ¬ (kd (tx vt) N (skp (tx vt) N pt.toNatClampNeg) = 16 ∨ kd (tx vt) N (skp (tx vt) N pt.toNatClampNeg) = 13) := (fun h7 => h7.elim (fun h6 => a9.1 (h6.trans (by decide))) (fun h6 => n9.1 (h6.trans (by decide)))); have b9 := (hf65.resolve_right (fun h8 => by have := h8.1; omega)).2; rw [n9.2.2] at b9; have l9 := (hf87.resolve_left (fun h8 => by have := h8.2.1; omega)); have g9 := (hf154.resolve_left (fun h8 => by have := h8.2.1; omega)); have s9 := hf153; rw [l9.2.2] at g9 s9; exact Or.inr ⟨by decide, Or.inr (Or.inr ⟨hk9, Or.inr ⟨_, b9, Or.inl ⟨Or.inr ⟨fun h7 => h7.elim (fun h6 => l9.1 (h6.trans (by decide))) (fun h6 => g9.1 (h6.trans (by decide))), rfl, s9.symm⟩, rfl⟩⟩⟩)⟩)⟩), by (try dsimp only); rw [ht]; exact ⟨hT, hF, m140, m141, m145, m143⟩⟩, hS.F ht⟩) hS.2.2 dX12_readAtom_152
          · have t157 : r136.toInt ≠ 0 := ti_ne c155 rfl (by decide)
            have t158 : u71.toInt + 1 ≤ u138.toInt := hi151 ((bit_of ⟨by omega, by omega⟩).resolve_left c155)
            refine lv_aload_n hx hb dX12_readAtom_144 rfl (lv_at hl 1 rfl) ?_
            have hFc := gA_free hG hA hS
            refine va_calli (va_runV (As := []) (rest := []) ⟨hx, hb, hml, hown, hts⟩ (s_readSum l dC dI kA adK adV G H q wZ wN wH wB wC wL wK wU wV PI im PM PT lS lB lE lN o0 u138 en u47 vt S0 lb u48 N hT hr_o0 m140 m142 m145 (by have q8 := ti_all u138; omega) (by have q8 := ti_all en; omega) (by have q8 := ti_all u47; omega) (by have := (show u138.toInt = u138.toInt from rfl); have := (show en.toInt = en.toInt from rfl); omega) (by have := (show u47.toInt = u47.toInt from rfl); have := (show u138.toInt = u138.toInt from rfl); omega) hS0 (by have := (show u47.toInt = u47.toInt from rfl); omega) hf64 (by omega) hN m144 hgz hgn hgh hgb hgc hgi hgu) (cwV 0 hts (goodIn_app (goodIn_r _ [82, 83, 84, 10] rfl (by decide +kernel)) (goodIn_ca (goodIn_r _ [62, 63, 19, 2, 3, 4, 5, 6, 7, 8, 9, 10, 11, 12, 13, 14, 20, 21, 22, 64, 65, 66, 67, 68, 69, 70, 71, 72, 73, 74, 75, 76, 77, 78, 23, 24, 25, 26, 27, 28, 29, 30, 31, 32, 33, 34, 35, 36, 37, 38, 39, 40, 41, 42, 43, 44, 45, 46, 47, 48, 49, 50, 51, 52, 53, 54, 55, 56, 57, 58, 79, 80, 81, 1, 15, 16, 17] rfl (by decide +kernel)) (bs_in _ _))) rfl rfl rfl (by decide +kernel) ⟨(Nat.le_of_ble_eq_true rfl), (Nat.le_of_ble_eq_true rfl)⟩) ⟨fun a U g mk q => by obtain ⟨q0, q1, qK, qE⟩ := q; exact ⟨q0, q1, va_K.moved (u := U) (U := U.calling g mk a) (Vm.Alike.refl U.vm) qK, EVS.blind g mk a qE⟩, gH_recv hK hT hr_o0 shm_0 rfl, fun U hU hW => ⟨rfl, hU, va_K.moved hW.alike hK, hE.call hS hFc hU hW⟩⟩ rfl rfl hl.1 rfl (lv_room (Nat.le_of_ble_eq_true rfl)) dX12_readAtom_145 ⟨(Nat.le_of_ble_eq_true rfl), (Nat.le_of_ble_eq_true rfl)⟩) hS (fun q _ h => hFc q h) hFc (fun r159 u t H locs ht hvm hw160 hB _ _ hS => ?_)
            obtain ⟨u161, u162, u163, u164⟩ := u
            obtain ⟨hT, hF1, m165, m166, m167⟩ := hB
            rw [ht] at hT hF1 m165 m166 m167
            have m168 := (hF1.fld hr_o0 skm_0 (k := 13) (by decide) (by decide)).trans m142
            have m169 := (hF1.fld hr_o0 skm_0 (k := 15) (by decide) (by decide)).trans m143
            have m170 := m144.kept (hF1.arr hg1 skm_11 (by decide))
            have hF := hF.more hF1 (by decide)
            try dsimp only at hw160
            obtain ⟨h174, h175, h176, h177, hi178, hf179, hf180, hf181⟩ := hw160
            refine lv_if_ne (tgt := 153) hx hb dX12_readAtom_148 (by decide) (fun c182 => ?_) (fun c182 => ?_)
            · have t183 : r159.toInt ≠ 0 := ti_ne c182 rfl (by decide)
              have t184 : u164 u163.toNatClampNeg = u48 u47.toNatClampNeg + 1 := hi178 ((bit_of ⟨by omega, by omega⟩).resolve_left c182)
              refine lv_aload_n hx hb dX12_readAtom_153 rfl (lv_at hl 1 rfl) ?_
              refine lv_iload_n hx hb dX12_readAtom_154 rfl (lv_at hl 0 rfl) ?_
              refine lv_if_eq (tgt := 163) hx hb dX12_readAtom_155 (by decide) (fun c185 => ?_) (fun c185 => (by exfalso; have q9 : r69.toInt ≠ 0 := ti_ne c185 rfl (by decide); omega))
              have t186 : r69.toInt = 0 := ti_eq c185 rfl (by decide)
              refine lv_bipush (v := 103) hx hb dX12_readAtom_163 (by decide) ?_
              refine lv_iconst (v := 0) hx hb dX12_readAtom_165 (by decide) ?_
              have hFc := gA_free hG hA hS
              refine va_callv (va_runV (As := [.int 103, .int 0]) (rest := []) ⟨hx, hb, hml, hown, hts⟩ (s_adds l dC dI kA adK adV G H q wZ wN wH wB wC wL wK wU wV PI im PM PT lS lB lE lN o0 103 0 u163 S0 lb u164 (u164 u163.toNatClampNeg - 1) hT hr_o0 m167 (by have q8 := ti_all u163; omega) (by have q9 := (show (103 : Int32).toInt = 103 from (by decide)); unfold stp; omega) hS0 (by have := (show u163.toInt = u163.toInt from rfl); omega) hf180 hgz hgn hgh hgb hgc hgi hgu) (cwV 2 hts (goodIn_app (goodIn_r _ [73, 74, 75, 10] rfl (by decide +kernel)) (goodIn_ca (goodIn_r _ [69, 70, 71, 72] rfl (by decide +kernel)) (bs_in _ _))) rfl rfl rfl (by decide +kernel) ⟨(Nat.le_of_ble_eq_true rfl), (Nat.le_of_ble_eq_true rfl)⟩) ⟨fun a U g mk q => by obtain ⟨q0, q1, qK, qE⟩ := q; exact ⟨q0, q1, va_K.moved (u := U) (U := U.calling g mk a) (Vm.Alike.refl U.vm) qK, EVS.blind g mk a qE⟩, gH_recv hK hT hr_o0 shm_0 rfl, fun U hU hW => ⟨rfl, hU, va_K.moved hW.alike hK, hE.call hS hFc hU hW⟩⟩ rfl rfl hl.1 rfl (lv_room (Nat.le_of_ble_eq_true rfl)) dX12_readAtom_166 ⟨(Nat.le_of_ble_eq_true rfl), (Nat.le_of_ble_eq_true rfl)⟩) hS (fun q _ h => hFc q h) hFc (fun u t H locs ht hvm hw188 hB _ _ hS => ?_)
              obtain ⟨u189, u190⟩ := u
              obtain ⟨hT, hF1, m191⟩ := hB
              rw [ht] at hT hF1 m191
              have m192 := (hF1.fld hr_o0 skm_0 (k := 13) (by decide) (by decide)).trans m168
              have m193 := (hF1.fld hr_o0 skm_0 (k := 15) (by decide) (by decide)).trans m169
              have m194 := m170.kept (hF1.arr hg1 skm_11 (by decide))
              have m195 := (hF1.fld hr_o0 skm_0 (k := 12) (by decide) (by decide)).trans m165
              have m196 := (hF1.fld hr_o0 skm_0 (k := 14) (by decide) (by decide)).trans m166
              have hF := hF.more hF1 (by decide)
              try dsimp only at hw188
              obtain ⟨h198, hf199, hf200, hf201⟩ := hw188
              refine lv_iconst (v := 1) hx hb dX12_readAtom_169 (by decide) ?_
              exact W.zret (v := 1) hx hb hr (by decide) (fun t ht hW => ⟨⟨1, (u161, u162, u189, dv, u190), rfl, (by exact ⟨(by have q8 := ti_all u161; omega), (by have q8 := ti_all u162; omega), (by have q8 := ti_all u189; omega), (rg_t (a := 1) (by decide) (by omega) (by omega)), (fun _ => (by omega)), (fun _ => (by omega)), (by omega), hf201, (by have a9 := (hf19.resolve_left (fun h8 => by have := h8.2.1; omega)); have n9 := (hf40.resolve_left (fun h8 => by have := h8.2.1; omega)); rw [a9.2.2] at n9; have hk9 : ¬ (kd (tx vt) N (skp (tx vt) N pt.toNatClampNeg) = 16 ∨ kd (tx vt) N (skp (tx vt) N pt.toNatClampNeg) = 13) := (fun h7 => h7.elim (fun h6 => a9.1 (h6.trans (by decide))) (fun h6 => n9.1 (h6.trans (by decide)))); have b9 := (hf65.resolve_right (fun h8 => by have := h8.1; omega)).2; rw [n9.2.2] at b9; have l9 := (hf87.resolve_left (fun h8 => by have := h8.2.1; omega)); have g9 := (hf154.resolve_right (fun h8 => by have := h8.2.1; omega)); have c9 := (hf181.resolve_right (fun h8 => by have := h8.1; omega)).2; rw [g9.2.2] at c9; rw [l9.2.2] at g9 c9; exact Or.inl ⟨by decide, Or.inr (Or.inr ⟨hk9, Or.inr ⟨_, b9, Or.inr ⟨_, Or.inl ⟨Or.inr (g9.1.trans (by decide)), rfl, rfl⟩, c9⟩⟩⟩)⟩)⟩), by (try dsimp only); rw [ht]; exact ⟨hT, hF, m195, m196, m191, m193⟩⟩, hS.F ht⟩) hS.2.2 dX12_readAtom_170
            · have t202 : r159.toInt = 0 := ti_eq c182 rfl (by decide)
              refine lv_iconst (v := 0) hx hb dX12_readAtom_151 (by decide) ?_
              exact W.zret (v := 0) hx hb hr (by decide) (fun t ht hW => ⟨⟨0, (u161, u162, u163, dv, u164), rfl, (by exact ⟨(by have q8 := ti_all u161; omega), (by have q8 := ti_all u162; omega), (by have q8 := ti_all u163; omega), (rg_t (a := 0) (by decide) (by omega) (by omega)), (fun h => absurd h (by decide)), (fun h => absurd h (by decide)), (by omega), hf180, (by have a9 := (hf19.resolve_left (fun h8 => by have := h8.2.1; omega)); have n9 := (hf40.resolve_left (fun h8 => by have := h8.2.1; omega)); rw [a9.2.2] at n9; have hk9 : ¬ (kd (tx vt) N (skp (tx vt) N pt.toNatClampNeg) = 16 ∨ kd (tx vt) N (skp (tx vt) N pt.toNatClampNeg) = 13) := (fun h7 => h7.elim (fun h6 => a9.1 (h6.trans (by decide))) (fun h6 => n9.1 (h6.trans (by decide)))); have b9 := (hf65.resolve_right (fun h8 => by have := h8.1; omega)).2; rw [n9.2.2] at b9; have l9 := (hf87.resolve_left (fun h8 => by have := h8.2.1; omega)); have g9 := (hf154.resolve_right (fun h8 => by have := h8.2.1; omega)); have c9 := (hf181.resolve_left (fun h8 => by have := h8.1; omega)).2; rw [g9.2.2] at c9; rw [l9.2.2] at g9 c9; exact Or.inr ⟨by decide, Or.inr (Or.inr ⟨hk9, Or.inr ⟨_, b9, Or.inr ⟨_, Or.inl ⟨Or.inr (g9.1.trans (by decide)), rfl, rfl⟩, c9⟩⟩⟩)⟩)⟩), by (try dsimp only); rw [ht]; exact ⟨hT, hF, m165, m166, m167, m169⟩⟩, hS.F ht⟩) hS.2.2 dX12_readAtom_152
      · have t203 : r43.toInt = 0 := ti_eq c66 rfl (by decide)
        refine lv_iconst (v := 0) hx hb dX12_readAtom_122 (by decide) ?_
        exact W.zret (v := 0) hx hb hr (by decide) (fun t ht hW => ⟨⟨0, (u45, u46, u47, dv, u48), rfl, (by exact ⟨(by have q8 := ti_all u45; omega), (by have q8 := ti_all u46; omega), (by have q8 := ti_all u47; omega), (rg_t (a := 0) (by decide) (by omega) (by omega)), (fun h => absurd h (by decide)), (fun h => absurd h (by decide)), (by omega), hf64, (by have a9 := (hf19.resolve_left (fun h8 => by have := h8.2.1; omega)); have n9 := (hf40.resolve_left (fun h8 => by have := h8.2.1; omega)); rw [a9.2.2] at n9; have hk9 : ¬ (kd (tx vt) N (skp (tx vt) N pt.toNatClampNeg) = 16 ∨ kd (tx vt) N (skp (tx vt) N pt.toNatClampNeg) = 13) := (fun h7 => h7.elim (fun h6 => a9.1 (h6.trans (by decide))) (fun h6 => n9.1 (h6.trans (by decide)))); have b9 := (hf65.resolve_left (fun h8 => by have := h8.1; omega)).2; rw [n9.2.2] at b9; exact Or.inr ⟨by decide, Or.inr (Or.inr ⟨hk9, Or.inl ⟨b9, rfl⟩⟩)⟩)⟩), by (try dsimp only); rw [ht]; exact ⟨hT, hF, m49, m50, m51, m54⟩⟩, hS.F ht⟩) hS.2.2 dX12_readAtom_123
    · have t204 : r22.toInt ≠ 0 := ti_ne c41 rfl (by decide)
      have t205 : u4.toInt + 1 ≤ u24.toInt := hi37 ((bit_of ⟨by omega, by omega⟩).resolve_left c41)
      refine lv_aload_n hx hb dX12_readAtom_66 rfl (lv_at hl 0 rfl) ?_
      refine tw_getM (v := .int dv) hx hb hts bF_X12 hown hK hT hr_o0 shm_0 rfl 15 (by decide) (ht_at hts 84 rfl) (fun _ h9 => h9) m30 dX12_readAtom_67 ?_
      refine lv_bipush (v := 6) hx hb dX12_readAtom_70 (by decide) ?_
      refine lv_icmp_ne (tgt := 77) hx hb dX12_readAtom_72 (by decide) (fun c206 => ?_) (fun c206 => (by exfalso; have q9 : dv.toInt = 6 := ti_eq c206 rfl (by decide); omega))
      have t207 : dv.toInt ≠ 6 := ti_ne c206 rfl (by decide)
      refine lv_aload_n hx hb dX12_readAtom_77 rfl (lv_at hl 0 rfl) ?_
      refine lv_dup hx hb dX12_readAtom_78 rfl ?_
      refine tw_getM (v := .int dv) hx hb hts bF_X12 hown hK hT hr_o0 shm_0 rfl 15 (by decide) (ht_at hts 84 rfl) (fun _ h9 => h9) m30 dX12_readAtom_79 ?_
      refine lv_iconst (v := 1) hx hb dX12_readAtom_82 (by decide) ?_
      refine lv_iadd hx hb dX12_readAtom_83 ?_
      refine lv_topi (fun x208 ex208 => ?_)
      have t209 : x208.toInt = dv.toInt + 1 := ti_add ex208 rfl (by decide) (by omega) (by omega)
      refine tw_put (v := .int x208) (ty := .int) hx hb hts bF_X12 tyX12 tyX12_ok nmX12 hown hK hT hG hS hr_o0 shm_0 rfl 15 (by decide) (ht_at hts 84 rfl) (fun _ h9 => h9) rfl (by decide +kernel) rfl rfl (gl_at rfl (gi_all _)) dX12_readAtom_84 (fun H locs hT oq m210 oj hS => ?_)
      have hF := hF.put hr_o0 skm_0 oq oj (by decide)
      have m211 := (oj 13 (by decide) (by decide)).trans m28
      have m212 := (oj 28 (by decide) (by decide)).trans m29
      have m213 := m31.kept (oq _ (gne hg1 hr_o0 (by decide)))
      have m214 := (oj 12 (by decide) (by decide)).trans m26
      have m215 := (oj 14 (by decide) (by decide)).trans m27
      refine lv_aload_n hx hb dX12_readAtom_87 rfl (lv_at hl 0 rfl) ?_
      have hFc := gA_free hG hA hS
      refine va_calli (va_runV (As := []) (rest := []) ⟨hx, hb, hml, hown, hts⟩ (s_readAtom5 l dC dI kA adK adV G H q wZ wN wH wB wC wL wK wU wV PI im PM PT lS lB lE lN o0 u24 en sv x208 vt S0 lb ld N hT hr_o0 m214 m211 m212 m210 (by have q8 := ti_all u24; omega) (by have q8 := ti_all en; omega) (by have q8 := ti_all sv; omega) (by have := (show u24.toInt = u24.toInt from rfl); have := (show en.toInt = en.toInt from rfl); omega) (by have := (show sv.toInt = sv.toInt from rfl); have := (show u24.toInt = u24.toInt from rfl); omega) hS0 (by have := (show sv.toInt = sv.toInt from rfl); omega) hlg (by omega) (by have q8 := ti_all x208; omega) hN m213 hgz hgn hgh hgb hgc hgi hgu) (cwV 0 hts (goodIn_app (goodIn_r _ [87, 88, 89, 10] rfl (by decide +kernel)) (goodIn_ca (goodIn_r _ [86, 1, 2, 3, 4, 5, 6, 7, 8, 9, 10, 11, 12, 13, 14, 15, 16, 17, 18, 19, 20, 21, 22, 23, 24, 25, 26, 27, 28, 29, 30, 31, 32, 33, 34, 35, 36, 37, 38, 39, 40, 41, 42, 43, 44, 45, 46, 47, 48, 49, 50, 51, 52, 53, 54, 55, 56, 57, 58, 59, 60, 61, 62, 63, 64, 65, 66, 67, 68, 69, 70, 71, 72, 73, 74, 75, 76, 77, 78, 79, 80, 81, 82, 83, 84, 85, 86, 87, 88, 89, 90, 91, 92, 93, 94, 95, 96, 97] rfl (by decide +kernel)) (bs_in _ _))) rfl rfl rfl (by decide +kernel) ⟨(Nat.le_of_ble_eq_true rfl), (Nat.le_of_ble_eq_true rfl)⟩) ⟨fun a U g mk q => by obtain ⟨q0, q1, qK, qE⟩ := q; exact ⟨q0, q1, va_K.moved (u := U) (U := U.calling g mk a) (Vm.Alike.refl U.vm) qK, EVS.blind g mk a qE⟩, gH_recv hK hT hr_o0 shm_0 rfl, fun U hU hW => ⟨rfl, hU, va_K.moved hW.alike hK, hE.call hS hFc hU hW⟩⟩ rfl rfl hl.1 rfl (lv_room (Nat.le_of_ble_eq_true rfl)) dX12_readAtom_88 ⟨(Nat.le_of_ble_eq_true rfl), (Nat.le_of_ble_eq_true rfl)⟩) hS (fun q _ h => hFc q h) hFc (fun r216 u t H locs ht hvm hw217 hB _ _ hS => ?_)
      obtain ⟨u218, u219, u220, u221, u222⟩ := u
      obtain ⟨hT, hF1, m223, m224, m225, m226⟩ := hB
      rw [ht] at hT hF1 m223 m224 m225 m226
      have m227 := (hF1.fld hr_o0 skm_0 (k := 13) (by decide) (by decide)).trans m211
      have m229 := m213.kept (hF1.arr hg1 skm_11 (by decide))
      have hF := hF.more hF1 (by decide)
      try dsimp only at hw217
      obtain ⟨h233, h234, h235, h236, hi237, hi238, hf239, hf240, hf241⟩ := hw217
      refine lv_if_ne (tgt := 96) hx hb dX12_readAtom_91 (by decide) (fun c242 => ?_) (fun c242 => ?_)
      · have t243 : r216.toInt ≠ 0 := ti_ne c242 rfl (by decide)
        have t244 : u222 u220.toNatClampNeg = ld sv.toNatClampNeg + 1 := hi237 ((bit_of ⟨by omega, by omega⟩).resolve_left c242)
        have t245 : u221.toInt = 5 := hi238 ((bit_of ⟨by omega, by omega⟩).resolve_left c242)
        refine lv_aload_n hx hb dX12_readAtom_96 rfl (lv_at hl 0 rfl) ?_
        refine lv_dup hx hb dX12_readAtom_97 rfl ?_
        refine tw_getM (v := .int u221) hx hb hts bF_X12 hown hK hT hr_o0 shm_0 rfl 15 (by decide) (ht_at hts 84 rfl) (fun _ h9 => h9) m226 dX12_readAtom_98 ?_
        refine lv_iconst (v := 1) hx hb dX12_readAtom_101 (by decide) ?_
        refine lv_isub hx hb dX12_readAtom_102 ?_
        refine lv_topi (fun x246 ex246 => ?_)
        have t247 : x246.toInt = u221.toInt - 1 := ti_sub ex246 rfl (by decide) (by omega) (by omega)
        refine tw_put (v := .int x246) (ty := .int) hx hb hts bF_X12 tyX12 tyX12_ok nmX12 hown hK hT hG hS hr_o0 shm_0 rfl 15 (by decide) (ht_at hts 84 rfl) (fun _ h9 => h9) rfl (by decide +kernel) rfl rfl (gl_at rfl (gi_all _)) dX12_readAtom_103 (fun H locs hT oq m248 oj hS => ?_)
        have hF := hF.put hr_o0 skm_0 oq oj (by decide)
        have m249 := (oj 13 (by decide) (by decide)).trans m227
        have m250 := m229.kept (oq _ (gne hg1 hr_o0 (by decide)))
        have m251 := (oj 12 (by decide) (by decide)).trans m223
        have m252 := (oj 14 (by decide) (by decide)).trans m224
        have m253 := (oj 28 (by decide) (by decide)).trans m225
        refine lv_aload_n hx hb dX12_readAtom_106 rfl (lv_at hl 0 rfl) ?_
        refine lv_bipush (v := 104) hx hb dX12_readAtom_107 (by decide) ?_
        refine lv_iconst (v := 0) hx hb dX12_readAtom_109 (by decide) ?_
        have hFc := gA_free hG hA hS
        refine va_callv (va_runV (As := [.int 104, .int 0]) (rest := []) ⟨hx, hb, hml, hown, hts⟩ (s_adds l dC dI kA adK adV G H q wZ wN wH wB wC wL wK wU wV PI im PM PT lS lB lE lN o0 104 0 u220 S0 lb u222 (u222 u220.toNatClampNeg) hT hr_o0 m253 (by have q8 := ti_all u220; omega) (by have q9 := (show (104 : Int32).toInt = 104 from (by decide)); unfold stp; omega) hS0 (by have := (show u220.toInt = u220.toInt from rfl); omega) hf240 hgz hgn hgh hgb hgc hgi hgu) (cwV 2 hts (goodIn_app (goodIn_r _ [73, 74, 75, 10] rfl (by decide +kernel)) (goodIn_ca (goodIn_r _ [69, 70, 71, 72] rfl (by decide +kernel)) (bs_in _ _))) rfl rfl rfl (by decide +kernel) ⟨(Nat.le_of_ble_eq_true rfl), (Nat.le_of_ble_eq_true rfl)⟩) ⟨fun a U g mk q => by obtain ⟨q0, q1, qK, qE⟩ := q; exact ⟨q0, q1, va_K.moved (u := U) (U := U.calling g mk a) (Vm.Alike.refl U.vm) qK, EVS.blind g mk a qE⟩, gH_recv hK hT hr_o0 shm_0 rfl, fun U hU hW => ⟨rfl, hU, va_K.moved hW.alike hK, hE.call hS hFc hU hW⟩⟩ rfl rfl hl.1 rfl (lv_room (Nat.le_of_ble_eq_true rfl)) dX12_readAtom_110 ⟨(Nat.le_of_ble_eq_true rfl), (Nat.le_of_ble_eq_true rfl)⟩) hS (fun q _ h => hFc q h) hFc (fun u t H locs ht hvm hw255 hB _ _ hS => ?_)
        obtain ⟨u256, u257⟩ := u
        obtain ⟨hT, hF1, m258⟩ := hB
        rw [ht] at hT hF1 m258
        have m259 := (hF1.fld hr_o0 skm_0 (k := 13) (by decide) (by decide)).trans m249
        have m260 := m250.kept (hF1.arr hg1 skm_11 (by decide))
        have m261 := (hF1.fld hr_o0 skm_0 (k := 12) (by decide) (by decide)).trans m251
        have m262 := (hF1.fld hr_o0 skm_0 (k := 14) (by decide) (by decide)).trans m252
        have m264 := (hF1.fld hr_o0 skm_0 (k := 15) (by decide) (by decide)).trans m248
        have hF := hF.more hF1 (by decide)
        try dsimp only at hw255
        obtain ⟨h265, hf266, hf267, hf268⟩ := hw255
        refine lv_iconst (v := 1) hx hb dX12_readAtom_113 (by decide) ?_
        exact W.zret (v := 1) hx hb hr (by decide) (fun t ht hW => ⟨⟨1, (u218, u219, u256, x246, u257), rfl, (by exact ⟨(by have q8 := ti_all u218; omega), (by have q8 := ti_all u219; omega), (by have q8 := ti_all u256; omega), (rg_t (a := 1) (by decide) (by omega) (by omega)), (fun _ => (by omega)), (fun _ => (by omega)), (by omega), hf268, (by have a9 := (hf19.resolve_left (fun h8 => by have := h8.2.1; omega)); have n9 := (hf40.resolve_right (fun h8 => by have := h8.2.1; omega)); have b9 := (hf241.resolve_right (fun h8 => by have := h8.1; omega)).2; rw [a9.2.2] at n9; rw [n9.2.2] at b9; exact Or.inl ⟨by decide, Or.inl ⟨n9.1.trans (by decide), b9⟩⟩)⟩), by (try dsimp only); rw [ht]; exact ⟨hT, hF, m261, m262, m258, m264⟩⟩, hS.F ht⟩) hS.2.2 dX12_readAtom_114
      · have t269 : r216.toInt = 0 := ti_eq c242 rfl (by decide)
        refine lv_iconst (v := 0) hx hb dX12_readAtom_94 (by decide) ?_
        exact W.zret (v := 0) hx hb hr (by decide) (fun t ht hW => ⟨⟨0, (u218, u219, u220, u221, u222), rfl, (by exact ⟨(by have q8 := ti_all u218; omega), (by have q8 := ti_all u219; omega), (by have q8 := ti_all u220; omega), (rg_t (a := 0) (by decide) (by omega) (by omega)), (fun h => absurd h (by decide)), (fun h => absurd h (by decide)), (by omega), hf240, (by have a9 := (hf19.resolve_left (fun h8 => by have := h8.2.1; omega)); have n9 := (hf40.resolve_right (fun h8 => by have := h8.2.1; omega)); have b9 := (hf241.resolve_left (fun h8 => by have := h8.1; omega)).2; rw [a9.2.2] at n9; rw [n9.2.2] at b9; exact Or.inr ⟨by decide, Or.inl ⟨n9.1.trans (by decide), b9⟩⟩)⟩), by (try dsimp only); rw [ht]; exact ⟨hT, hF, m223, m224, m225, m226⟩⟩, hS.F ht⟩) hS.2.2 dX12_readAtom_95
  · have t270 : r2.toInt ≠ 0 := ti_ne c20 rfl (by decide)
    have t271 : pt.toInt + 1 ≤ u4.toInt := hi16 ((bit_of ⟨by omega, by omega⟩).resolve_left c20)
    refine lv_aload_n hx hb dX12_readAtom_9 rfl (lv_at hl 0 rfl) ?_
    refine tw_getM (v := .int dv) hx hb hts bF_X12 hown hK hT hr_o0 shm_0 rfl 15 (by decide) (ht_at hts 84 rfl) (fun _ h9 => h9) m11 dX12_readAtom_10 ?_
    refine lv_bipush (v := 6) hx hb dX12_readAtom_13 (by decide) ?_
    refine lv_icmp_ne (tgt := 20) hx hb dX12_readAtom_15 (by decide) (fun c272 => ?_) (fun c272 => (by exfalso; have q9 : dv.toInt = 6 := ti_eq c272 rfl (by decide); omega))
    have t273 : dv.toInt ≠ 6 := ti_ne c272 rfl (by decide)
    refine lv_aload_n hx hb dX12_readAtom_20 rfl (lv_at hl 0 rfl) ?_
    refine lv_dup hx hb dX12_readAtom_21 rfl ?_
    refine tw_getM (v := .int dv) hx hb hts bF_X12 hown hK hT hr_o0 shm_0 rfl 15 (by decide) (ht_at hts 84 rfl) (fun _ h9 => h9) m11 dX12_readAtom_22 ?_
    refine lv_iconst (v := 1) hx hb dX12_readAtom_25 (by decide) ?_
    refine lv_iadd hx hb dX12_readAtom_26 ?_
    refine lv_topi (fun x274 ex274 => ?_)
    have t275 : x274.toInt = dv.toInt + 1 := ti_add ex274 rfl (by decide) (by omega) (by omega)
    refine tw_put (v := .int x274) (ty := .int) hx hb hts bF_X12 tyX12 tyX12_ok nmX12 hown hK hT hG hS hr_o0 shm_0 rfl 15 (by decide) (ht_at hts 84 rfl) (fun _ h9 => h9) rfl (by decide +kernel) rfl rfl (gl_at rfl (gi_all _)) dX12_readAtom_27 (fun H locs hT oq m276 oj hS => ?_)
    have hF := hF.put hr_o0 skm_0 oq oj (by decide)
    have m277 := (oj 13 (by decide) (by decide)).trans m9
    have m278 := (oj 28 (by decide) (by decide)).trans m10
    have m279 := m12.kept (oq _ (gne hg1 hr_o0 (by decide)))
    have m280 := (oj 12 (by decide) (by decide)).trans m6
    have m281 := (oj 14 (by decide) (by decide)).trans m7
    refine lv_aload_n hx hb dX12_readAtom_30 rfl (lv_at hl 0 rfl) ?_
    have hFc := gA_free hG hA hS
    refine va_calli (va_runV (As := []) (rest := []) ⟨hx, hb, hml, hown, hts⟩ (s_readCond5 l dC dI kA adK adV G H q wZ wN wH wB wC wL wK wU wV PI im PM PT lS lB lE lN o0 u4 en sv x274 vt S0 lb ld N hT hr_o0 m280 m277 m278 m276 (by have q8 := ti_all u4; omega) (by have q8 := ti_all en; omega) (by have q8 := ti_all sv; omega) (by have := (show u4.toInt = u4.toInt from rfl); have := (show en.toInt = en.toInt from rfl); omega) (by have := (show sv.toInt = sv.toInt from rfl); have := (show u4.toInt = u4.toInt from rfl); omega) hS0 (by have := (show sv.toInt = sv.toInt from rfl); omega) hlg (by omega) (by have q8 := ti_all x274; omega) hN m279 hgz hgn hgh hgb hgc hgi hgu) (cwV 0 hts (goodIn_app (goodIn_r _ [95, 96, 97, 10] rfl (by decide +kernel)) (goodIn_ca (goodIn_r _ [90, 91, 86, 1, 2, 3, 4, 5, 6, 7, 8, 9, 10, 11, 12, 13, 14, 15, 16, 17, 18, 19, 20, 21, 22, 23, 24, 25, 26, 27, 28, 29, 30, 31, 32, 33, 34, 35, 36, 37, 38, 39, 40, 41, 42, 43, 44, 45, 46, 47, 48, 49, 50, 51, 52, 53, 54, 55, 56, 57, 58, 59, 60, 61, 62, 63, 64, 65, 66, 67, 68, 69, 70, 71, 72, 73, 74, 75, 76, 77, 78, 79, 80, 81, 82, 83, 84, 85, 87, 88, 89, 90, 92, 93, 94, 95, 96, 97] rfl (by decide +kernel)) (bs_in _ _))) rfl rfl rfl (by decide +kernel) ⟨(Nat.le_of_ble_eq_true rfl), (Nat.le_of_ble_eq_true rfl)⟩) ⟨fun a U g mk q => by obtain ⟨q0, q1, qK, qE⟩ := q; exact ⟨q0, q1, va_K.moved (u := U) (U := U.calling g mk a) (Vm.Alike.refl U.vm) qK, EVS.blind g mk a qE⟩, gH_recv hK hT hr_o0 shm_0 rfl, fun U hU hW => ⟨rfl, hU, va_K.moved hW.alike hK, hE.call hS hFc hU hW⟩⟩ rfl rfl hl.1 rfl (lv_room (Nat.le_of_ble_eq_true rfl)) dX12_readAtom_31 ⟨(Nat.le_of_ble_eq_true rfl), (Nat.le_of_ble_eq_true rfl)⟩) hS (fun q _ h => hFc q h) hFc (fun r282 u t H locs ht hvm hw283 hB _ _ hS => ?_)
    obtain ⟨u284, u285, u286, u287, u288⟩ := u
    obtain ⟨hT, hF1, m289, m290, m291, m292⟩ := hB
    rw [ht] at hT hF1 m289 m290 m291 m292
    have m293 := (hF1.fld hr_o0 skm_0 (k := 13) (by decide) (by decide)).trans m277
    have m295 := m279.kept (hF1.arr hg1 skm_11 (by decide))
    have hF := hF.more hF1 (by decide)
    try dsimp only at hw283
    obtain ⟨h299, h300, h301, h302, hi303, hi304, hf305, hf306, hf307⟩ := hw283
    refine lv_if_ne (tgt := 39) hx hb dX12_readAtom_34 (by decide) (fun c308 => ?_) (fun c308 => ?_)
    · have t309 : r282.toInt ≠ 0 := ti_ne c308 rfl (by decide)
      have t310 : u288 u286.toNatClampNeg = ld sv.toNatClampNeg + 1 := hi303 ((bit_of ⟨by omega, by omega⟩).resolve_left c308)
      have t311 : u287.toInt = 5 := hi304 ((bit_of ⟨by omega, by omega⟩).resolve_left c308)
      refine lv_aload_n hx hb dX12_readAtom_39 rfl (lv_at hl 0 rfl) ?_
      refine lv_dup hx hb dX12_readAtom_40 rfl ?_
      refine tw_getM (v := .int u287) hx hb hts bF_X12 hown hK hT hr_o0 shm_0 rfl 15 (by decide) (ht_at hts 84 rfl) (fun _ h9 => h9) m292 dX12_readAtom_41 ?_
      refine lv_iconst (v := 1) hx hb dX12_readAtom_44 (by decide) ?_
      refine lv_isub hx hb dX12_readAtom_45 ?_
      refine lv_topi (fun x312 ex312 => ?_)
      have t313 : x312.toInt = u287.toInt - 1 := ti_sub ex312 rfl (by decide) (by omega) (by omega)
      refine tw_put (v := .int x312) (ty := .int) hx hb hts bF_X12 tyX12 tyX12_ok nmX12 hown hK hT hG hS hr_o0 shm_0 rfl 15 (by decide) (ht_at hts 84 rfl) (fun _ h9 => h9) rfl (by decide +kernel) rfl rfl (gl_at rfl (gi_all _)) dX12_readAtom_46 (fun H locs hT oq m314 oj hS => ?_)
      have hF := hF.put hr_o0 skm_0 oq oj (by decide)
      have m315 := (oj 13 (by decide) (by decide)).trans m293
      have m316 := m295.kept (oq _ (gne hg1 hr_o0 (by decide)))
      have m317 := (oj 12 (by decide) (by decide)).trans m289
      have m318 := (oj 14 (by decide) (by decide)).trans m290
      have m319 := (oj 28 (by decide) (by decide)).trans m291
      refine lv_aload_n hx hb dX12_readAtom_49 rfl (lv_at hl 0 rfl) ?_
      refine lv_bipush (v := 41) hx hb dX12_readAtom_50 (by decide) ?_
      have hFc := gA_free hG hA hS
      refine va_calli (va_runV (As := [.int 41]) (rest := []) ⟨hx, hb, hml, hown, hts⟩ (s_sign l dC dI kA adK adV G H q wZ wN wH wB wC wL wK wU wV PI im PM PT (lD (dS S0 lb u286.toInt u288) lS) lB lE lN o0 41 u284 en vt N hT hr_o0 m317 m315 (by have q8 := ti_all u284; omega) (by have q8 := ti_all en; omega) (by have := (show u284.toInt = u284.toInt from rfl); have := (show en.toInt = en.toInt from rfl); omega) hN (by unfold sgS; decide) m316 hgz hgn hgh hgb hgc hgi hgu) (cwV 1 hts (goodIn_app (goodIn_r _ [15, 16, 17, 10] rfl (by decide +kernel)) (goodIn_ca (goodIn_r _ [1, 2, 3, 4, 5, 6, 7, 8, 9, 10, 11, 12, 13, 14] rfl (by decide +kernel)) (bs_in _ _))) rfl rfl rfl (by decide +kernel) ⟨(Nat.le_of_ble_eq_true rfl), (Nat.le_of_ble_eq_true rfl)⟩) ⟨fun a U g mk q => by obtain ⟨q0, q1, qK, qE⟩ := q; exact ⟨q0, q1, va_K.moved (u := U) (U := U.calling g mk a) (Vm.Alike.refl U.vm) qK, EVS.blind g mk a qE⟩, gH_recv hK hT hr_o0 shm_0 rfl, fun U hU hW => ⟨rfl, hU, va_K.moved hW.alike hK, hE.call hS hFc hU hW⟩⟩ rfl rfl hl.1 rfl (lv_room (Nat.le_of_ble_eq_true rfl)) dX12_readAtom_52 ⟨(Nat.le_of_ble_eq_true rfl), (Nat.le_of_ble_eq_true rfl)⟩) hS (fun q _ h => hFc q h) hFc (fun r320 u t H locs ht hvm hw321 hB _ _ hS => ?_)
      obtain ⟨u322, u323⟩ := u
      obtain ⟨hT, hF1, m324, m325⟩ := hB
      rw [ht] at hT hF1 m324 m325
      have m326 := (hF1.fld hr_o0 skm_0 (k := 13) (by decide) (by decide)).trans m315
      have m327 := m316.kept (hF1.arr hg1 skm_11 (by decide))
      have m330 := (hF1.fld hr_o0 skm_0 (k := 28) (by decide) (by decide)).trans m319
      have m331 := (hF1.fld hr_o0 skm_0 (k := 15) (by decide) (by decide)).trans m314
      have hF := hF.more hF1 (by decide)
      try dsimp only at hw321
      obtain ⟨h332, h333, h334, hi335, hf336, hf337, hf338⟩ := hw321
      exact W.zret (v := r320) hx hb hr (nar_b (by have q8 := ti_all r320; omega)) (fun t ht hW => ⟨⟨r320, (u322, u323, u286, x312, u288), rfl, (by exact ⟨(by have q8 := ti_all u322; omega), (by have q8 := ti_all u323; omega), (by have q8 := ti_all u286; omega), (by have q8 := ti_all r320; omega), (fun _ => by omega), (fun _ => by omega), (by omega), hf306, (by have a9 := (hf19.resolve_right (fun h8 => by have := h8.2.1; omega)); have b9 := (hf307.resolve_right (fun h8 => by have := h8.1; omega)).2; rw [a9.2.2] at b9; rcases hf338 with ⟨x1, x2, x3⟩ | ⟨x1, x2, x3⟩; (exact Or.inl ⟨x2, Or.inr (Or.inl ⟨a9.1.trans (by decide), Or.inr ⟨_, b9, Or.inl ⟨x1.trans (by decide), rfl, x3⟩⟩⟩)⟩); exact Or.inr ⟨x2, Or.inr (Or.inl ⟨a9.1.trans (by decide), Or.inr ⟨_, b9, Or.inr ⟨fun h7 => x1 (h7.trans (by decide)), rfl, hf337.symm⟩⟩⟩)⟩)⟩), by (try dsimp only); rw [ht]; exact ⟨hT, hF, m324, m325, m330, m331⟩⟩, hS.F ht⟩) hS.2.2 dX12_readAtom_55
    · have t339 : r282.toInt = 0 := ti_eq c308 rfl (by decide)
      refine lv_iconst (v := 0) hx hb dX12_readAtom_37 (by decide) ?_
      exact W.zret (v := 0) hx hb hr (by decide) (fun t ht hW => ⟨⟨0, (u284, u285, u286, u287, u288), rfl, (by exact ⟨(by have q8 := ti_all u284; omega), (by have q8 := ti_all u285; omega), (by have q8 := ti_all u286; omega), (rg_t (a := 0) (by decide) (by omega) (by omega)), (fun h => absurd h (by decide)), (fun h => absurd h (by decide)), (by omega), hf306, (by have a9 := (hf19.resolve_right (fun h8 => by have := h8.2.1; omega)); have b9 := (hf307.resolve_left (fun h8 => by have := h8.1; omega)).2; rw [a9.2.2] at b9; exact Or.inr ⟨by decide, Or.inr (Or.inl ⟨a9.1.trans (by decide), Or.inl ⟨b9, rfl⟩⟩)⟩)⟩), by (try dsimp only); rw [ht]; exact ⟨hT, hF, m289, m290, m291, m292⟩⟩, hS.F ht⟩) hS.2.2 dX12_readAtom_38
def w_s_readAllOf4 : List Cond := .code yX12_readAllOf cX12_readAllOf 1 (some .boolean) :: (HAppend.hAppend (α := List Cond) (β := List Cond) (γ := List Cond) [.code yX12_readAtom cX12_readAtom 2 (some .boolean), .code yX12_sign cX12_sign 2 (some .boolean), .code yX12_blanks cX12_blanks 1 none, .code yX12_isAt cX12_isAt 3 (some .boolean), .fieldLink RX12 335 "SeaLandModel" "point" "I", .fieldLink RX12 338 "SeaLandModel" "end" "I", .fieldLink RX12 31 "SeaLandModel" "tape" "[B", .methodLink RX12 341 yX12_isAt, .instanceMethod yX12_isAt, .selects RX12 yX12_isAt yX12_isAt, .initialized RX12, .fieldLink RX12 345 "SeaLandModel" "begin" "I", .methodLink RX12 348 yX12_blanks, .instanceMethod yX12_blanks, .selects RX12 yX12_blanks yX12_blanks, .methodLink RX12 398 yX12_sign, .instanceMethod yX12_sign, .selects RX12 yX12_sign yX12_sign, .code yX12_passes cX12_passes 2 (some .boolean), .code yX12_word cX12_word 1 none, .methodLink RX12 360 yX12_word, .instanceMethod yX12_word, .selects RX12 yX12_word yX12_word, .code yX12_isWord cX12_isWord 4 (some .boolean), .code yJ0_length_8abf5 cJ0_length_8abf5 1 (some .int), .fieldLink RJ0 9 "java/lang/String" "value" "[B", .code yJ0_coder_7d493 cJ0_coder_7d493 1 (some .byte), .fieldLink RJ0 38 "java/lang/String" "COMPACT_STRINGS" "Z", .fieldLink RJ0 15 "java/lang/String" "coder" "B", .methodLink RJ0 335 yJ0_coder_7d493, .instanceMethod yJ0_coder_7d493, .selects RJ0 yJ0_coder_7d493 yJ0_coder_7d493, .initialized RJ0, .methodLink RX12 351 yJ0_length_8abf5, .instanceMethod yJ0_length_8abf5, .selects RJ0 yJ0_length_8abf5 yJ0_length_8abf5, .code yJ0_charAt_5068e cJ0_charAt_5068e 2 (some .char), .code yJ0_isLatin1_aae02 cJ0_isLatin1_aae02 1 (some .boolean), .methodLink RJ0 492 yJ0_isLatin1_aae02, .instanceMethod yJ0_isLatin1_aae02, .selects RJ0 yJ0_isLatin1_aae02 yJ0_isLatin1_aae02, .code yJ1_charAt_3b067 cJ1_charAt_3b067 2 (some .char), .code yJ0_checkIndex_df160 cJ0_checkIndex_df160 2 none, .fieldLink RJ0 1053 "jdk/internal/util/Preconditions" "SIOOBE_FORMATTER" "Ljava/util/function/BiFunction;", .code yJ3_checkIndex_8e157 cJ3_checkIndex_8e157 3 (some .int), .methodLink RJ0 1059 yJ3_checkIndex_8e157, .static yJ3_checkIndex_8e157, .initialized RJ3, .methodLink RJ1 9 yJ0_checkIndex_df160, .static yJ0_checkIndex_df160, .methodLink RJ0 495 yJ1_charAt_3b067, .static yJ1_charAt_3b067, .initialized RJ1, .methodLink RX12 356 yJ0_charAt_5068e, .instanceMethod yJ0_charAt_5068e, .selects RJ0 yJ0_charAt_5068e yJ0_charAt_5068e, .methodLink RX12 363 yX12_isWord, .instanceMethod yX12_isWord, .selects RX12 yX12_isWord yX12_isWord, .methodLink RX12 409 yX12_passes, .instanceMethod yX12_passes, .selects RX12 yX12_passes yX12_passes, .code yX12_readSum cX12_readSum 1 (some .boolean), .code yX12_readPart cX12_readPart 2 (some .boolean), .constant RX12 390 99999, .code yX12_number cX12_number 3 (some .int), .methodLink RX12 391 yX12_number, .instanceMethod yX12_number, .selects RX12 yX12_number yX12_number, .code yX12_adds cX12_adds 3 none, .fieldLink RX12 66 "SeaLandModel" "step" "[I", .fieldLink RX12 367 "SeaLandModel" "steps" "I", .fieldLink RX12 69 "SeaLandModel" "than" "[I", .methodLink RX12 387 yX12_adds, .instanceMethod yX12_adds, .selects RX12 yX12_adds yX12_adds, .code yX12_fact cX12_fact 1 (some (.object "java/lang/String")), .methodLink RX12 383 yX12_fact, .static yX12_fact, .methodLink RX12 394 yX12_readPart, .instanceMethod yX12_readPart, .selects RX12 yX12_readPart yX12_readPart, .methodLink RX12 415 yX12_readSum, .instanceMethod yX12_readSum, .selects RX12 yX12_readSum yX12_readSum, .fieldLink RX12 401 "SeaLandModel" "deep" "I", .methodLink RX12 412 yX12_readAtom, .instanceMethod yX12_readAtom, .selects RX12 yX12_readAtom yX12_readAtom, .code yX12_readCond cX12_readCond 1 (some .boolean), .code yX12_readAllOf cX12_readAllOf 1 (some .boolean), .methodLink RX12 420 yX12_readAllOf, .instanceMethod yX12_readAllOf, .selects RX12 yX12_readAllOf yX12_readAllOf, .methodLink RX12 404 yX12_readCond, .instanceMethod yX12_readCond, .selects RX12 yX12_readCond yX12_readCond] bs)
set_option maxHeartbeats 4000000 in
set_option maxRecDepth 100000 in
theorem s_readAllOf4 (l : Launch) (dC : Nat → ClassId) (dI : Nat → Nat → Nat) (kA : Nat → ClassId) (adK adV : Nat → Nat) (G : gT) (H0 : Heap) (q : Nat → Nat) (wZ wN : Nat → Int) (wH wB wC : Int) (wL wK : Nat → Prop) (wU wV : Nat → Nat) (PI : Nat → Int → Prop) (im : Int) (PM PT : Nat → Int → Prop) (lS lB lE : Nat → Nat → Int → Prop) (lN : Nat → Int) (o0 : Nat) (pt : Int32) (en : Int32) (sv : Int32) (dv : Int32) (vt : Nat → Int32) (S0 : Nat → Int → Prop) (lb : Int) (ld : Nat → Int) (N : Nat) (hT : gH (dC, dI) kA (SHm q (wP wZ wN wH wB wC wL wK wU wV) PI im PM PT (lD (dS S0 lb sv.toInt ld) lS) lB lE lN) G H0) (hr_o0 : G o0 = some 0) (hm_pt : el H0 o0 (dI 15 12) = some (.int pt)) (hm_en : el H0 o0 (dI 15 13) = some (.int en)) (hm_sv : el H0 o0 (dI 15 28) = some (.int sv)) (hm_dv : el H0 o0 (dI 15 15) = some (.int dv)) (hq0 : 0 ≤ pt.toInt ∧ pt.toInt ≤ 400) (hq1 : 0 ≤ en.toInt ∧ en.toInt ≤ 400) (hq2 : 0 ≤ sv.toInt ∧ sv.toInt ≤ 400) (hpe : pt.toInt ≤ en.toInt) (hsp : sv.toInt ≤ pt.toInt) (hS0 : ∀ (i : Nat) x, lb ≤ (i : Int) → S0 i x) (hlb : 0 ≤ lb ∧ lb ≤ sv.toInt) (hlg : lG lb ld) (hd0 : 0 ≤ ld sv.toNatClampNeg) (hq9 : 4 ≤ dv.toInt ∧ dv.toInt ≤ 4) (hN : en.toInt = ((N : Nat) : Int)) (hc_vt : ct H0 (q 10) 400 vt) (hgz : ∀ i, 0 ≤ wZ i) (hgn : ∀ i, 6500000 ≤ wN i ∧ wN i ≤ 20200000) (hgh : 0 ≤ wH ∧ wH ≤ 40000) (hgb : 0 ≤ wB ∧ wB ≤ 3850000) (hgc : 0 ≤ wC ∧ wC ≤ 30) (hgi : 0 ≤ im ∧ im ≤ 1) (hgu : ∀ a t, G a = some (t + 1) → a = q t) : Met l yX12_readAllOf w_s_readAllOf4 ({ frames := 14, cells := 0, slots := 0, locals := 292 }) (va_Pc [.ref o0] (fun U => U.heap = H0 ∧ va_K (dC, dI) vwCl (tyl kA) U ∧ EVS adK adV (gA G H0.size) U U.heap)) (va_Qi (fun (r : Int32) (u : Int32 × Int32 × Int32 × Int32 × (Nat → Int)) => match u with | (p1, b1, s1, d1, ld1) => (0 ≤ p1.toInt ∧ p1.toInt ≤ 400) ∧ (0 ≤ b1.toInt ∧ b1.toInt ≤ 400) ∧ (0 ≤ s1.toInt ∧ s1.toInt ≤ 400) ∧ (0 ≤ r.toInt ∧ r.toInt ≤ 1) ∧ (r = 1 → ld1 s1.toNatClampNeg = ld sv.toNatClampNeg + 1) ∧ (r = 1 → d1.toInt = 4) ∧ (pt.toInt ≤ p1.toInt ∧ p1.toInt ≤ en.toInt ∧ sv.toInt ≤ s1.toInt ∧ s1.toInt - sv.toInt ≤ p1.toInt - pt.toInt) ∧ (lG lb ld1) ∧ ((r.toInt = 1 ∧ lpR (kd (tx vt) N) (xn (tx vt) N) (aR (kd (tx vt) N) (xn (tx vt) N) 2) 14 (skp (tx vt) N pt.toNatClampNeg) 1 (skp (tx vt) N p1.toNatClampNeg)) ∨ (r.toInt = 0 ∧ lpR (kd (tx vt) N) (xn (tx vt) N) (aR (kd (tx vt) N) (xn (tx vt) N) 2) 14 (skp (tx vt) N pt.toNatClampNeg) 0 b1.toNatClampNeg))) (fun (u : Int32 × Int32 × Int32 × Int32 × (Nat → Int)) (t : State) => match u with | (p1, b1, s1, d1, ld1) => gH (dC, dI) kA (SHm q (wP wZ wN wH wB wC wL wK wU wV) PI im PM PT (lD (dS S0 lb s1.toInt ld1) lS) lB lE lN) G t.heap ∧ gF (dC, dI) SKm G ([(0, 12), (0, 14), (0, 15), (0, 28), (27, 0), (28, 0)] : List (Nat × Nat)) H0 t.heap ∧ el t.heap o0 (dI 15 12) = some (.int p1) ∧ el t.heap o0 (dI 15 14) = some (.int b1) ∧ el t.heap o0 (dI 15 28) = some (.int s1) ∧ el t.heap o0 (dI 15 15) = some (.int d1)) (gA G H0.size)) 0 0 (gA G H0.size) := by
  refine Met.ofW (cc := cX12_readAllOf) (maxL := 1) (ret := (some .boolean)) (by decide) rfl ?_
  intro p e s m args below meth c s₁ B hml hv
  obtain ⟨rfl, hH0, hK, hE⟩ := hv
  have hx := B.exec
  have hb := B.bytes
  have hr := B.returns
  have hts := atoms_spec (ws := w_s_readAllOf4) B.pre
  have hown : s.vm.findClass RX12 = some m.cls := findClass_of_methodNamed B.named
  have hlocks := B.notSynchronized
  subst hH0
  generalize hAe : gA G s.heap.size = A at hE ⊢
  have hA : ∀ q : Nat, s.heap.size ≤ q → A q := fun q h => by rw [← hAe]; exact Or.inr h
  have hG := gA_of hAe
  have hS : va_S A s.heap s.heap [] := va_S.rf
  have hF : gF (dC, dI) SKm G ([(0, 12), (0, 14), (0, 15), (0, 28), (27, 0), (28, 0)] : List (Nat × Nat)) s.heap s.heap := gF.rf
  have hl := lv_entry ([.ref o0]) (n := 1) (Nat.le_of_ble_eq_true rfl)
  rw [lg_entry_eq]
  generalize (lg_sl ([.ref o0]) ++ List.replicate (1 - (lg_sl ([.ref o0])).length) Slot.unset).toArray = ls at hl ⊢
  have hl : lv_has ls 1 [(0, .ref o0)] := hl
  have hg1 : G (q 10) = some 11 := gx_of hT hr_o0 shm_0 (k := 10) (by decide) rfl
  refine lv_aload_n hx hb dX12_readAllOf_0 rfl (lv_at hl 0 rfl) ?_
  have hFc := gA_free hG hA hS
  refine va_calli (va_runV (As := []) (rest := []) ⟨hx, hb, hml, hown, hts⟩ (s_readAtom4 l dC dI kA adK adV G s.heap q wZ wN wH wB wC wL wK wU wV PI im PM PT lS lB lE lN o0 pt en sv dv vt S0 lb ld N hT hr_o0 hm_pt hm_en hm_sv hm_dv (by have q8 := ti_all pt; omega) (by have q8 := ti_all en; omega) (by have q8 := ti_all sv; omega) (by have := (show pt.toInt = pt.toInt from rfl); have := (show en.toInt = en.toInt from rfl); omega) (by have := (show sv.toInt = sv.toInt from rfl); have := (show pt.toInt = pt.toInt from rfl); omega) hS0 (by have := (show sv.toInt = sv.toInt from rfl); omega) hlg (by omega) (by have q8 := ti_all dv; omega) hN hc_vt hgz hgn hgh hgb hgc hgi hgu) (cwV 0 hts (goodIn_app (goodIn_r _ [87, 88, 89, 11] rfl (by decide +kernel)) (goodIn_ca (goodIn_r _ [1, 2, 3, 4, 5, 6, 7, 8, 9, 10, 11, 12, 13, 14, 15, 16, 17, 18, 19, 20, 21, 22, 23, 24, 25, 26, 27, 28, 29, 30, 31, 32, 33, 34, 35, 36, 37, 38, 39, 40, 41, 42, 43, 44, 45, 46, 47, 48, 49, 50, 51, 52, 53, 54, 55, 56, 57, 58, 59, 60, 61, 62, 63, 64, 65, 66, 67, 68, 69, 70, 71, 72, 73, 74, 75, 76, 77, 78, 79, 80, 81, 82, 83, 84, 85, 86, 1, 87, 88, 89, 90, 91, 92, 93, 94, 95, 96, 97] rfl (by decide +kernel)) (bs_in _ _))) rfl rfl rfl (by decide +kernel) ⟨(Nat.le_of_ble_eq_true rfl), (Nat.le_of_ble_eq_true rfl)⟩) ⟨fun a U g mk q => by obtain ⟨q0, q1, qK, qE⟩ := q; exact ⟨q0, q1, va_K.moved (u := U) (U := U.calling g mk a) (Vm.Alike.refl U.vm) qK, EVS.blind g mk a qE⟩, gH_recv hK hT hr_o0 shm_0 rfl, fun U hU hW => ⟨rfl, hU, va_K.moved hW.alike hK, hE.call hS hFc hU hW⟩⟩ rfl rfl hl.1 rfl (lv_room (Nat.le_of_ble_eq_true rfl)) dX12_readAllOf_1 ⟨(Nat.le_of_ble_eq_true rfl), (Nat.le_of_ble_eq_true rfl)⟩) hS (fun q _ h => hFc q h) hFc (fun r2 u t H locs ht hvm hw3 hB _ _ hS => ?_)
  obtain ⟨u4, u5, u6, u7, u8⟩ := u
  obtain ⟨hT, hF1, m9, m10, m11, m12⟩ := hB
  rw [ht] at hT hF1 m9 m10 m11 m12
  have m14 := (hF1.fld hr_o0 skm_0 (k := 13) (by decide) (by decide)).trans hm_en
  have m17 := hc_vt.kept (hF1.arr hg1 skm_11 (by decide))
  have hF := hF.more hF1 (by decide)
  try dsimp only at hw3
  obtain ⟨h18, h19, h20, h21, hi22, hi23, hf24, hf25, hf26⟩ := hw3
  refine lv_if_ne (tgt := 9) hx hb dX12_readAllOf_4 (by decide) (fun c27 => ?_) (fun c27 => ?_)
  · have t28 : r2.toInt ≠ 0 := ti_ne c27 rfl (by decide)
    have t29 : u8 u6.toNatClampNeg = ld sv.toNatClampNeg + 1 := hi22 ((bit_of ⟨by omega, by omega⟩).resolve_left c27)
    have t30 : u7.toInt = 4 := hi23 ((bit_of ⟨by omega, by omega⟩).resolve_left c27)
    have key199 : ∀ (n199 : Nat), ∀ (gld111 : Nat → Int), ∀ (z114 : Int32), ∀ (z117 : Int32), ∀ (z120 : Int32), ∀ (z123 : Int32), (400 - z114.toInt < ((n199 : Nat) : Int)) → ((0 ≤ z114.toInt ∧ z114.toInt ≤ 400) ∧ (0 ≤ z117.toInt ∧ z117.toInt ≤ 400) ∧ (0 ≤ z120.toInt ∧ z120.toInt ≤ 400) ∧ (4 ≤ z123.toInt ∧ z123.toInt ≤ 4) ∧ (lG lb gld111) ∧ (gld111 z120.toNatClampNeg = ld sv.toNatClampNeg + 1) ∧ (pt.toInt ≤ z114.toInt ∧ z114.toInt ≤ en.toInt ∧ sv.toInt ≤ z120.toInt ∧ z120.toInt - sv.toInt ≤ z114.toInt - pt.toInt) ∧ (∀ (r : Int) (f : Nat), lpQ (kd (tx vt) N) (xn (tx vt) N) (aR (kd (tx vt) N) (xn (tx vt) N) 2) 14 (skp (tx vt) N z114.toNatClampNeg) r f → lpR (kd (tx vt) N) (xn (tx vt) N) (aR (kd (tx vt) N) (xn (tx vt) N) 2) 14 (skp (tx vt) N pt.toNatClampNeg) r f)) → ∀ (H : Heap) (locs : List Loc), gH (dC, dI) kA (SHm q (wP wZ wN wH wB wC wL wK wU wV) PI im PM PT (lD (dS S0 lb z120.toInt gld111) lS) lB lE lN) G H → gF (dC, dI) SKm G ([(0, 12), (0, 14), (0, 15), (0, 28), (27, 0), (28, 0)] : List (Nat × Nat)) s.heap H → va_S A s.heap H locs → ct H (q 10) 400 vt → el H o0 (dI 15 13) = some (.int en) → el H o0 (dI 15 12) = some (.int z114) → el H o0 (dI 15 14) = some (.int z117) → el H o0 (dI 15 28) = some (.int z120) → el H o0 (dI 15 15) = some (.int z123) → ∀ ls : Array Slot, lv_has ls 1 [(0, .ref o0)] → W p l e (headSpec w_s_readAllOf4 ({ frames := 14, cells := 0, slots := 0, locals := 292 })).room s m #[.ref o0] below meth c H locs 0 0 (MQ below (va_Qi (fun (r : Int32) (u : Int32 × Int32 × Int32 × Int32 × (Nat → Int)) => match u with | (p1, b1, s1, d1, ld1) => (0 ≤ p1.toInt ∧ p1.toInt ≤ 400) ∧ (0 ≤ b1.toInt ∧ b1.toInt ≤ 400) ∧ (0 ≤ s1.toInt ∧ s1.toInt ≤ 400) ∧ (0 ≤ r.toInt ∧ r.toInt ≤ 1) ∧ (r = 1 → ld1 s1.toNatClampNeg = ld sv.toNatClampNeg + 1) ∧ (r = 1 → d1.toInt = 4) ∧ (pt.toInt ≤ p1.toInt ∧ p1.toInt ≤ en.toInt ∧ sv.toInt ≤ s1.toInt ∧ s1.toInt - sv.toInt ≤ p1.toInt - pt.toInt) ∧ (lG lb ld1) ∧ ((r.toInt = 1 ∧ lpR (kd (tx vt) N) (xn (tx vt) N) (aR (kd (tx vt) N) (xn (tx vt) N) 2) 14 (skp (tx vt) N pt.toNatClampNeg) 1 (skp (tx vt) N p1.toNatClampNeg)) ∨ (r.toInt = 0 ∧ lpR (kd (tx vt) N) (xn (tx vt) N) (aR (kd (tx vt) N) (xn (tx vt) N) 2) 14 (skp (tx vt) N pt.toNatClampNeg) 0 b1.toNatClampNeg))) (fun (u : Int32 × Int32 × Int32 × Int32 × (Nat → Int)) (t : State) => match u with | (p1, b1, s1, d1, ld1) => gH (dC, dI) kA (SHm q (wP wZ wN wH wB wC wL wK wU wV) PI im PM PT (lD (dS S0 lb s1.toInt ld1) lS) lB lE lN) G t.heap ∧ gF (dC, dI) SKm G ([(0, 12), (0, 14), (0, 15), (0, 28), (27, 0), (28, 0)] : List (Nat × Nat)) s.heap t.heap ∧ el t.heap o0 (dI 15 12) = some (.int p1) ∧ el t.heap o0 (dI 15 14) = some (.int b1) ∧ el t.heap o0 (dI 15 28) = some (.int s1) ∧ el t.heap o0 (dI 15 15) = some (.int d1)) A) #[.ref o0] s 0 0 A) (F0 m 9 ls []) := by
      intro n199
      induction n199 with
      | zero =>
        intro gld111 z114 z117 z120 z123 hv199 ⟨h115, h118, h121, h124, hg126, hg127, hj128, hj129⟩ H locs hT hF hS m112 m113 m116 m119 m122 m125 ls hl
        exfalso; have q9 := (show z114.toInt = z114.toInt from rfl); omega
      | succ n199 ih199 =>
        intro gld111 z114 z117 z120 z123 hv199 ⟨h115, h118, h121, h124, hg126, hg127, hj128, hj129⟩ H locs hT hF hS m112 m113 m116 m119 m122 m125 ls hl
        refine lv_aload_n hx hb dX12_readAllOf_9 rfl (lv_at hl 0 rfl) ?_
        refine tw_ldcwS hx hb hown hE.s11 dX12_readAllOf_10 ?_
        have hFc := gA_free hG hA hS
        refine va_calli (va_runV (As := [.ref (adK 11)]) (rest := []) ⟨hx, hb, hml, hown, hts⟩ (s_passes l dC dI kA adK adV G H q wZ wN wH wB wC wL wK wU wV PI im PM PT (lD (dS S0 lb z120.toInt gld111) lS) lB lE lN o0 z114 en vt 11 N hT hr_o0 m116 m113 (by have q8 := ti_all z114; omega) (by have q8 := ti_all en; omega) (by have := (show z114.toInt = z114.toInt from rfl); have := (show en.toInt = en.toInt from rfl); omega) hN (by first | omega | decide) m112 hgz hgn hgh hgb hgc hgi hgu) (cwV 1 hts (goodIn_app (goodIn_r _ [60, 61, 62, 11] rfl (by decide +kernel)) (goodIn_ca (goodIn_r _ [19, 20, 3, 4, 5, 6, 7, 8, 9, 10, 11, 12, 13, 14, 15, 21, 22, 23, 24, 25, 26, 27, 28, 29, 30, 31, 32, 33, 34, 35, 36, 37, 38, 39, 40, 41, 42, 43, 44, 45, 46, 47, 48, 49, 50, 51, 52, 53, 54, 55, 56, 57, 58, 59] rfl (by decide +kernel)) (bs_in _ _))) rfl rfl rfl (by decide +kernel) ⟨(Nat.le_of_ble_eq_true rfl), (Nat.le_of_ble_eq_true rfl)⟩) ⟨fun a U g mk q => by obtain ⟨q0, q1, qK, qE⟩ := q; exact ⟨q0, q1, va_K.moved (u := U) (U := U.calling g mk a) (Vm.Alike.refl U.vm) qK, EVS.blind g mk a qE⟩, gH_recv hK hT hr_o0 shm_0 rfl, fun U hU hW => ⟨rfl, hU, va_K.moved hW.alike hK, hE.call hS hFc hU hW⟩⟩ rfl rfl hl.1 rfl (lv_room (Nat.le_of_ble_eq_true rfl)) dX12_readAllOf_13 ⟨(Nat.le_of_ble_eq_true rfl), (Nat.le_of_ble_eq_true rfl)⟩) hS (fun q _ h => hFc q h) hFc (fun r200 u t H locs ht hvm hw201 hB _ _ hS => ?_)
        obtain ⟨u202, u203⟩ := u
        obtain ⟨hT, hF1, m204, m205⟩ := hB
        rw [ht] at hT hF1 m204 m205
        have m206 := m112.kept (hF1.arr hg1 skm_11 (by decide))
        have m207 := (hF1.fld hr_o0 skm_0 (k := 13) (by decide) (by decide)).trans m113
        have m210 := (hF1.fld hr_o0 skm_0 (k := 28) (by decide) (by decide)).trans m122
        have m211 := (hF1.fld hr_o0 skm_0 (k := 15) (by decide) (by decide)).trans m125
        have hF := hF.more hF1 (by decide)
        try dsimp only at hw201
        obtain ⟨h212, h213, h214, hi215, hf216, hf217, hf218⟩ := hw201
        refine lv_if_eq (tgt := 38) hx hb dX12_readAllOf_16 (by decide) (fun c219 => ?_) (fun c219 => ?_)
        · have t220 : r200.toInt = 0 := ti_eq c219 rfl (by decide)
          refine lv_iconst (v := 1) hx hb dX12_readAllOf_38 (by decide) ?_
          exact W.zret (v := 1) hx hb hr (by decide) (fun t ht hW => ⟨⟨1, (u202, u203, z120, z123, gld111), rfl, (by exact ⟨(by have q8 := ti_all u202; omega), (by have q8 := ti_all u203; omega), (by have q8 := ti_all z120; omega), (rg_t (a := 1) (by decide) (by omega) (by omega)), (fun _ => (by omega)), (fun _ => (by omega)), (by omega), hg126, (by have a9 := (hf218.resolve_left (fun h8 => by have := h8.2.1; omega)); rw [a9.2.2]; exact Or.inl ⟨by decide, lp_e hj129 (fun h7 => a9.1 (h7.trans (by decide)))⟩)⟩), by (try dsimp only); rw [ht]; exact ⟨hT, hF, m204, m205, m210, m211⟩⟩, hS.F ht⟩) hS.2.2 dX12_readAllOf_39
        · have t221 : r200.toInt ≠ 0 := ti_ne c219 rfl (by decide)
          have t222 : z114.toInt + 1 ≤ u202.toInt := hi215 ((bit_of ⟨by omega, by omega⟩).resolve_left c219)
          refine lv_aload_n hx hb dX12_readAllOf_19 rfl (lv_at hl 0 rfl) ?_
          have hFc := gA_free hG hA hS
          refine va_calli (va_runV (As := []) (rest := []) ⟨hx, hb, hml, hown, hts⟩ (s_readAtom4 l dC dI kA adK adV G H q wZ wN wH wB wC wL wK wU wV PI im PM PT lS lB lE lN o0 u202 en z120 z123 vt S0 lb gld111 N hT hr_o0 m204 m207 m210 m211 (by have q8 := ti_all u202; omega) (by have q8 := ti_all en; omega) (by have q8 := ti_all z120; omega) (by have := (show u202.toInt = u202.toInt from rfl); have := (show en.toInt = en.toInt from rfl); omega) (by have := (show z120.toInt = z120.toInt from rfl); have := (show u202.toInt = u202.toInt from rfl); omega) hS0 (by have := (show z120.toInt = z120.toInt from rfl); omega) hg126 (by omega) (by have q8 := ti_all z123; omega) hN m206 hgz hgn hgh hgb hgc hgi hgu) (cwV 0 hts (goodIn_app (goodIn_r _ [87, 88, 89, 11] rfl (by decide +kernel)) (goodIn_ca (goodIn_r _ [1, 2, 3, 4, 5, 6, 7, 8, 9, 10, 11, 12, 13, 14, 15, 16, 17, 18, 19, 20, 21, 22, 23, 24, 25, 26, 27, 28, 29, 30, 31, 32, 33, 34, 35, 36, 37, 38, 39, 40, 41, 42, 43, 44, 45, 46, 47, 48, 49, 50, 51, 52, 53, 54, 55, 56, 57, 58, 59, 60, 61, 62, 63, 64, 65, 66, 67, 68, 69, 70, 71, 72, 73, 74, 75, 76, 77, 78, 79, 80, 81, 82, 83, 84, 85, 86, 1, 87, 88, 89, 90, 91, 92, 93, 94, 95, 96, 97] rfl (by decide +kernel)) (bs_in _ _))) rfl rfl rfl (by decide +kernel) ⟨(Nat.le_of_ble_eq_true rfl), (Nat.le_of_ble_eq_true rfl)⟩) ⟨fun a U g mk q => by obtain ⟨q0, q1, qK, qE⟩ := q; exact ⟨q0, q1, va_K.moved (u := U) (U := U.calling g mk a) (Vm.Alike.refl U.vm) qK, EVS.blind g mk a qE⟩, gH_recv hK hT hr_o0 shm_0 rfl, fun U hU hW => ⟨rfl, hU, va_K.moved hW.alike hK, hE.call hS hFc hU hW⟩⟩ rfl rfl hl.1 rfl (lv_room (Nat.le_of_ble_eq_true rfl)) dX12_readAllOf_20 ⟨(Nat.le_of_ble_eq_true rfl), (Nat.le_of_ble_eq_true rfl)⟩) hS (fun q _ h => hFc q h) hFc (fun r223 u t H locs ht hvm hw224 hB _ _ hS => ?_)
          obtain ⟨u225, u226, u227, u228, u229⟩ := u
          obtain ⟨hT, hF1, m230, m231, m232, m233⟩ := hB
          rw [ht] at hT hF1 m230 m231 m232 m233
          have m234 := m206.kept (hF1.arr hg1 skm_11 (by decide))
          have m235 := (hF1.fld hr_o0 skm_0 (k := 13) (by decide) (by decide)).trans m207
          have hF := hF.more hF1 (by decide)
          try dsimp only at hw224
          obtain ⟨h240, h241, h242, h243, hi244, hi245, hf246, hf247, hf248⟩ := hw224
          refine lv_if_ne (tgt := 28) hx hb dX12_readAllOf_23 (by decide) (fun c249 => ?_) (fun c249 => ?_)
          · have t250 : r223.toInt ≠ 0 := ti_ne c249 rfl (by decide)
            have t251 : u229 u227.toNatClampNeg = gld111 z120.toNatClampNeg + 1 := hi244 ((bit_of ⟨by omega, by omega⟩).resolve_left c249)
            have t252 : u228.toInt = 4 := hi245 ((bit_of ⟨by omega, by omega⟩).resolve_left c249)
            refine lv_aload_n hx hb dX12_readAllOf_28 rfl (lv_at hl 0 rfl) ?_
            refine lv_bipush (v := 105) hx hb dX12_readAllOf_29 (by decide) ?_
            refine lv_iconst (v := 0) hx hb dX12_readAllOf_31 (by decide) ?_
            have hFc := gA_free hG hA hS
            refine va_callv (va_runV (As := [.int 105, .int 0]) (rest := []) ⟨hx, hb, hml, hown, hts⟩ (s_adds l dC dI kA adK adV G H q wZ wN wH wB wC wL wK wU wV PI im PM PT lS lB lE lN o0 105 0 u227 S0 lb u229 (u229 u227.toNatClampNeg - 1) hT hr_o0 m232 (by have q8 := ti_all u227; omega) (by have q9 := (show (105 : Int32).toInt = 105 from (by decide)); unfold stp; omega) hS0 (by have := (show u227.toInt = u227.toInt from rfl); omega) hf247 hgz hgn hgh hgb hgc hgi hgu) (cwV 2 hts (goodIn_app (goodIn_r _ [74, 75, 76, 11] rfl (by decide +kernel)) (goodIn_ca (goodIn_r _ [70, 71, 72, 73] rfl (by decide +kernel)) (bs_in _ _))) rfl rfl rfl (by decide +kernel) ⟨(Nat.le_of_ble_eq_true rfl), (Nat.le_of_ble_eq_true rfl)⟩) ⟨fun a U g mk q => by obtain ⟨q0, q1, qK, qE⟩ := q; exact ⟨q0, q1, va_K.moved (u := U) (U := U.calling g mk a) (Vm.Alike.refl U.vm) qK, EVS.blind g mk a qE⟩, gH_recv hK hT hr_o0 shm_0 rfl, fun U hU hW => ⟨rfl, hU, va_K.moved hW.alike hK, hE.call hS hFc hU hW⟩⟩ rfl rfl hl.1 rfl (lv_room (Nat.le_of_ble_eq_true rfl)) dX12_readAllOf_32 ⟨(Nat.le_of_ble_eq_true rfl), (Nat.le_of_ble_eq_true rfl)⟩) hS (fun q _ h => hFc q h) hFc (fun u t H locs ht hvm hw254 hB _ _ hS => ?_)
            obtain ⟨u255, u256⟩ := u
            obtain ⟨hT, hF1, m257⟩ := hB
            rw [ht] at hT hF1 m257
            have m258 := m234.kept (hF1.arr hg1 skm_11 (by decide))
            have m259 := (hF1.fld hr_o0 skm_0 (k := 13) (by decide) (by decide)).trans m235
            have m260 := (hF1.fld hr_o0 skm_0 (k := 12) (by decide) (by decide)).trans m230
            have m261 := (hF1.fld hr_o0 skm_0 (k := 14) (by decide) (by decide)).trans m231
            have m263 := (hF1.fld hr_o0 skm_0 (k := 15) (by decide) (by decide)).trans m233
            have hF := hF.more hF1 (by decide)
            try dsimp only at hw254
            obtain ⟨h264, hf265, hf266, hf267⟩ := hw254
            refine lv_goto (tgt := 9) hx hb dX12_readAllOf_35 (by decide) ?_
            exact ih199 u256 u225 u226 u255 u228 (by have q9 := (show u225.toInt = u225.toInt from rfl); omega) ⟨(by have q8 := ti_all u225; omega), (by have q8 := ti_all u226; omega), (by have q8 := ti_all u255; omega), (by have q8 := ti_all u228; omega), hf267, (by omega), (by have := (show u225.toInt = u225.toInt from rfl); have := (show u255.toInt = u255.toInt from rfl); omega), (by have a9 := (hf218.resolve_right (fun h8 => by have := h8.2.1; omega)); have b9 := (hf248.resolve_right (fun h8 => by have := h8.1; omega)).2; rw [a9.2.2] at b9; exact lp_s hj129 (a9.1.trans (by decide)) b9)⟩ _ _ hT hF hS m258 m259 m260 m261 m257 m263 ls (lv_sub hl [0] rfl)
          · have t268 : r223.toInt = 0 := ti_eq c249 rfl (by decide)
            refine lv_iconst (v := 0) hx hb dX12_readAllOf_26 (by decide) ?_
            exact W.zret (v := 0) hx hb hr (by decide) (fun t ht hW => ⟨⟨0, (u225, u226, u227, u228, u229), rfl, (by exact ⟨(by have q8 := ti_all u225; omega), (by have q8 := ti_all u226; omega), (by have q8 := ti_all u227; omega), (rg_t (a := 0) (by decide) (by omega) (by omega)), (fun h => absurd h (by decide)), (fun h => absurd h (by decide)), (by omega), hf247, (by have a9 := (hf218.resolve_right (fun h8 => by have := h8.2.1; omega)); have b9 := (hf248.resolve_left (fun h8 => by have := h8.1; omega)).2; rw [a9.2.2] at b9; exact Or.inr ⟨by decide, lp_f hj129 (a9.1.trans (by decide)) b9⟩)⟩), by (try dsimp only); rw [ht]; exact ⟨hT, hF, m230, m231, m232, m233⟩⟩, hS.F ht⟩) hS.2.2 dX12_readAllOf_27
    exact key199 401 u8 u4 u5 u6 u7 (by have q9 := (show u4.toInt = u4.toInt from rfl); omega) ⟨(by have q8 := ti_all u4; omega), (by have q8 := ti_all u5; omega), (by have q8 := ti_all u6; omega), (by have q8 := ti_all u7; omega), hf25, (by omega), (by have := (show u4.toInt = u4.toInt from rfl); have := (show u6.toInt = u6.toInt from rfl); omega), (lp_1 (hf26.resolve_right (fun h8 => by have := h8.1; omega)).2)⟩ _ _ hT hF hS m17 m14 m9 m10 m11 m12 ls (lv_sub hl [0] rfl)
  · have t269 : r2.toInt = 0 := ti_eq c27 rfl (by decide)
    refine lv_iconst (v := 0) hx hb dX12_readAllOf_7 (by decide) ?_
    exact W.zret (v := 0) hx hb hr (by decide) (fun t ht hW => ⟨⟨0, (u4, u5, u6, u7, u8), rfl, (by exact ⟨(by have q8 := ti_all u4; omega), (by have q8 := ti_all u5; omega), (by have q8 := ti_all u6; omega), (rg_t (a := 0) (by decide) (by omega) (by omega)), (fun h => absurd h (by decide)), (fun h => absurd h (by decide)), (by omega), hf25, (Or.inr ⟨by decide, lp_0 (hf26.resolve_left (fun h8 => by have := h8.1; omega)).2⟩)⟩), by (try dsimp only); rw [ht]; exact ⟨hT, hF, m9, m10, m11, m12⟩⟩, hS.F ht⟩) hS.2.2 dX12_readAllOf_8
def w_s_readCond4 : List Cond := .code yX12_readCond cX12_readCond 1 (some .boolean) :: (HAppend.hAppend (α := List Cond) (β := List Cond) (γ := List Cond) [.code yX12_readAllOf cX12_readAllOf 1 (some .boolean), .code yX12_readAtom cX12_readAtom 2 (some .boolean), .code yX12_sign cX12_sign 2 (some .boolean), .code yX12_blanks cX12_blanks 1 none, .code yX12_isAt cX12_isAt 3 (some .boolean), .fieldLink RX12 335 "SeaLandModel" "point" "I", .fieldLink RX12 338 "SeaLandModel" "end" "I", .fieldLink RX12 31 "SeaLandModel" "tape" "[B", .methodLink RX12 341 yX12_isAt, .instanceMethod yX12_isAt, .selects RX12 yX12_isAt yX12_isAt, .initialized RX12, .fieldLink RX12 345 "SeaLandModel" "begin" "I", .methodLink RX12 348 yX12_blanks, .instanceMethod yX12_blanks, .selects RX12 yX12_blanks yX12_blanks, .methodLink RX12 398 yX12_sign, .instanceMethod yX12_sign, .selects RX12 yX12_sign yX12_sign, .code yX12_passes cX12_passes 2 (some .boolean), .code yX12_word cX12_word 1 none, .methodLink RX12 360 yX12_word, .instanceMethod yX12_word, .selects RX12 yX12_word yX12_word, .code yX12_isWord cX12_isWord 4 (some .boolean), .code yJ0_length_8abf5 cJ0_length_8abf5 1 (some .int), .fieldLink RJ0 9 "java/lang/String" "value" "[B", .code yJ0_coder_7d493 cJ0_coder_7d493 1 (some .byte), .fieldLink RJ0 38 "java/lang/String" "COMPACT_STRINGS" "Z", .fieldLink RJ0 15 "java/lang/String" "coder" "B", .methodLink RJ0 335 yJ0_coder_7d493, .instanceMethod yJ0_coder_7d493, .selects RJ0 yJ0_coder_7d493 yJ0_coder_7d493, .initialized RJ0, .methodLink RX12 351 yJ0_length_8abf5, .instanceMethod yJ0_length_8abf5, .selects RJ0 yJ0_length_8abf5 yJ0_length_8abf5, .code yJ0_charAt_5068e cJ0_charAt_5068e 2 (some .char), .code yJ0_isLatin1_aae02 cJ0_isLatin1_aae02 1 (some .boolean), .methodLink RJ0 492 yJ0_isLatin1_aae02, .instanceMethod yJ0_isLatin1_aae02, .selects RJ0 yJ0_isLatin1_aae02 yJ0_isLatin1_aae02, .code yJ1_charAt_3b067 cJ1_charAt_3b067 2 (some .char), .code yJ0_checkIndex_df160 cJ0_checkIndex_df160 2 none, .fieldLink RJ0 1053 "jdk/internal/util/Preconditions" "SIOOBE_FORMATTER" "Ljava/util/function/BiFunction;", .code yJ3_checkIndex_8e157 cJ3_checkIndex_8e157 3 (some .int), .methodLink RJ0 1059 yJ3_checkIndex_8e157, .static yJ3_checkIndex_8e157, .initialized RJ3, .methodLink RJ1 9 yJ0_checkIndex_df160, .static yJ0_checkIndex_df160, .methodLink RJ0 495 yJ1_charAt_3b067, .static yJ1_charAt_3b067, .initialized RJ1, .methodLink RX12 356 yJ0_charAt_5068e, .instanceMethod yJ0_charAt_5068e, .selects RJ0 yJ0_charAt_5068e yJ0_charAt_5068e, .methodLink RX12 363 yX12_isWord, .instanceMethod yX12_isWord, .selects RX12 yX12_isWord yX12_isWord, .methodLink RX12 409 yX12_passes, .instanceMethod yX12_passes, .selects RX12 yX12_passes yX12_passes, .code yX12_readSum cX12_readSum 1 (some .boolean), .code yX12_readPart cX12_readPart 2 (some .boolean), .constant RX12 390 99999, .code yX12_number cX12_number 3 (some .int), .methodLink RX12 391 yX12_number, .instanceMethod yX12_number, .selects RX12 yX12_number yX12_number, .code yX12_adds cX12_adds 3 none, .fieldLink RX12 66 "SeaLandModel" "step" "[I", .fieldLink RX12 367 "SeaLandModel" "steps" "I", .fieldLink RX12 69 "SeaLandModel" "than" "[I", .methodLink RX12 387 yX12_adds, .instanceMethod yX12_adds, .selects RX12 yX12_adds yX12_adds, .code yX12_fact cX12_fact 1 (some (.object "java/lang/String")), .methodLink RX12 383 yX12_fact, .static yX12_fact, .methodLink RX12 394 yX12_readPart, .instanceMethod yX12_readPart, .selects RX12 yX12_readPart yX12_readPart, .methodLink RX12 415 yX12_readSum, .instanceMethod yX12_readSum, .selects RX12 yX12_readSum yX12_readSum, .fieldLink RX12 401 "SeaLandModel" "deep" "I", .methodLink RX12 412 yX12_readAtom, .instanceMethod yX12_readAtom, .selects RX12 yX12_readAtom yX12_readAtom, .code yX12_readCond cX12_readCond 1 (some .boolean), .methodLink RX12 420 yX12_readAllOf, .instanceMethod yX12_readAllOf, .selects RX12 yX12_readAllOf yX12_readAllOf, .methodLink RX12 404 yX12_readCond, .instanceMethod yX12_readCond, .selects RX12 yX12_readCond yX12_readCond] bs)
set_option maxHeartbeats 4000000 in
set_option maxRecDepth 100000 in
theorem s_readCond4 (l : Launch) (dC : Nat → ClassId) (dI : Nat → Nat → Nat) (kA : Nat → ClassId) (adK adV : Nat → Nat) (G : gT) (H0 : Heap) (q : Nat → Nat) (wZ wN : Nat → Int) (wH wB wC : Int) (wL wK : Nat → Prop) (wU wV : Nat → Nat) (PI : Nat → Int → Prop) (im : Int) (PM PT : Nat → Int → Prop) (lS lB lE : Nat → Nat → Int → Prop) (lN : Nat → Int) (o0 : Nat) (pt : Int32) (en : Int32) (sv : Int32) (dv : Int32) (vt : Nat → Int32) (S0 : Nat → Int → Prop) (lb : Int) (ld : Nat → Int) (N : Nat) (hT : gH (dC, dI) kA (SHm q (wP wZ wN wH wB wC wL wK wU wV) PI im PM PT (lD (dS S0 lb sv.toInt ld) lS) lB lE lN) G H0) (hr_o0 : G o0 = some 0) (hm_pt : el H0 o0 (dI 15 12) = some (.int pt)) (hm_en : el H0 o0 (dI 15 13) = some (.int en)) (hm_sv : el H0 o0 (dI 15 28) = some (.int sv)) (hm_dv : el H0 o0 (dI 15 15) = some (.int dv)) (hq0 : 0 ≤ pt.toInt ∧ pt.toInt ≤ 400) (hq1 : 0 ≤ en.toInt ∧ en.toInt ≤ 400) (hq2 : 0 ≤ sv.toInt ∧ sv.toInt ≤ 400) (hpe : pt.toInt ≤ en.toInt) (hsp : sv.toInt ≤ pt.toInt) (hS0 : ∀ (i : Nat) x, lb ≤ (i : Int) → S0 i x) (hlb : 0 ≤ lb ∧ lb ≤ sv.toInt) (hlg : lG lb ld) (hd0 : 0 ≤ ld sv.toNatClampNeg) (hq9 : 4 ≤ dv.toInt ∧ dv.toInt ≤ 4) (hN : en.toInt = ((N : Nat) : Int)) (hc_vt : ct H0 (q 10) 400 vt) (hgz : ∀ i, 0 ≤ wZ i) (hgn : ∀ i, 6500000 ≤ wN i ∧ wN i ≤ 20200000) (hgh : 0 ≤ wH ∧ wH ≤ 40000) (hgb : 0 ≤ wB ∧ wB ≤ 3850000) (hgc : 0 ≤ wC ∧ wC ≤ 30) (hgi : 0 ≤ im ∧ im ≤ 1) (hgu : ∀ a t, G a = some (t + 1) → a = q t) : Met l yX12_readCond w_s_readCond4 ({ frames := 15, cells := 0, slots := 0, locals := 312 }) (va_Pc [.ref o0] (fun U => U.heap = H0 ∧ va_K (dC, dI) vwCl (tyl kA) U ∧ EVS adK adV (gA G H0.size) U U.heap)) (va_Qi (fun (r : Int32) (u : Int32 × Int32 × Int32 × Int32 × (Nat → Int)) => match u with | (p1, b1, s1, d1, ld1) => (0 ≤ p1.toInt ∧ p1.toInt ≤ 400) ∧ (0 ≤ b1.toInt ∧ b1.toInt ≤ 400) ∧ (0 ≤ s1.toInt ∧ s1.toInt ≤ 400) ∧ (0 ≤ r.toInt ∧ r.toInt ≤ 1) ∧ (r = 1 → ld1 s1.toNatClampNeg = ld sv.toNatClampNeg + 1) ∧ (r = 1 → d1.toInt = 4) ∧ (pt.toInt ≤ p1.toInt ∧ p1.toInt ≤ en.toInt ∧ sv.toInt ≤ s1.toInt ∧ s1.toInt - sv.toInt ≤ p1.toInt - pt.toInt) ∧ (lG lb ld1) ∧ ((r.toInt = 1 ∧ coR (kd (tx vt) N) (xn (tx vt) N) (aR (kd (tx vt) N) (xn (tx vt) N) 2) (skp (tx vt) N pt.toNatClampNeg) 1 (skp (tx vt) N p1.toNatClampNeg)) ∨ (r.toInt = 0 ∧ coR (kd (tx vt) N) (xn (tx vt) N) (aR (kd (tx vt) N) (xn (tx vt) N) 2) (skp (tx vt) N pt.toNatClampNeg) 0 b1.toNatClampNeg))) (fun (u : Int32 × Int32 × Int32 × Int32 × (Nat → Int)) (t : State) => match u with | (p1, b1, s1, d1, ld1) => gH (dC, dI) kA (SHm q (wP wZ wN wH wB wC wL wK wU wV) PI im PM PT (lD (dS S0 lb s1.toInt ld1) lS) lB lE lN) G t.heap ∧ gF (dC, dI) SKm G ([(0, 12), (0, 14), (0, 15), (0, 28), (27, 0), (28, 0)] : List (Nat × Nat)) H0 t.heap ∧ el t.heap o0 (dI 15 12) = some (.int p1) ∧ el t.heap o0 (dI 15 14) = some (.int b1) ∧ el t.heap o0 (dI 15 28) = some (.int s1) ∧ el t.heap o0 (dI 15 15) = some (.int d1)) (gA G H0.size)) 0 0 (gA G H0.size) := by
  refine Met.ofW (cc := cX12_readCond) (maxL := 1) (ret := (some .boolean)) (by decide) rfl ?_
  intro p e s m args below meth c s₁ B hml hv
  obtain ⟨rfl, hH0, hK, hE⟩ := hv
  have hx := B.exec
  have hb := B.bytes
  have hr := B.returns
  have hts := atoms_spec (ws := w_s_readCond4) B.pre
  have hown : s.vm.findClass RX12 = some m.cls := findClass_of_methodNamed B.named
  have hlocks := B.notSynchronized
  subst hH0
  generalize hAe : gA G s.heap.size = A at hE ⊢
  have hA : ∀ q : Nat, s.heap.size ≤ q → A q := fun q h => by rw [← hAe]; exact Or.inr h
  have hG := gA_of hAe
  have hS : va_S A s.heap s.heap [] := va_S.rf
  have hF : gF (dC, dI) SKm G ([(0, 12), (0, 14), (0, 15), (0, 28), (27, 0), (28, 0)] : List (Nat × Nat)) s.heap s.heap := gF.rf
  have hl := lv_entry ([.ref o0]) (n := 1) (Nat.le_of_ble_eq_true rfl)
  rw [lg_entry_eq]
  generalize (lg_sl ([.ref o0]) ++ List.replicate (1 - (lg_sl ([.ref o0])).length) Slot.unset).toArray = ls at hl ⊢
  have hl : lv_has ls 1 [(0, .ref o0)] := hl
  have hg1 : G (q 10) = some 11 := gx_of hT hr_o0 shm_0 (k := 10) (by decide) rfl
  refine lv_aload_n hx hb dX12_readCond_0 rfl (lv_at hl 0 rfl) ?_
  have hFc := gA_free hG hA hS
  refine va_calli (va_runV (As := []) (rest := []) ⟨hx, hb, hml, hown, hts⟩ (s_readAllOf4 l dC dI kA adK adV G s.heap q wZ wN wH wB wC wL wK wU wV PI im PM PT lS lB lE lN o0 pt en sv dv vt S0 lb ld N hT hr_o0 hm_pt hm_en hm_sv hm_dv (by have q8 := ti_all pt; omega) (by have q8 := ti_all en; omega) (by have q8 := ti_all sv; omega) (by have := (show pt.toInt = pt.toInt from rfl); have := (show en.toInt = en.toInt from rfl); omega) (by have := (show sv.toInt = sv.toInt from rfl); have := (show pt.toInt = pt.toInt from rfl); omega) hS0 (by have := (show sv.toInt = sv.toInt from rfl); omega) hlg (by omega) (by have q8 := ti_all dv; omega) hN hc_vt hgz hgn hgh hgb hgc hgi hgu) (cwV 0 hts (goodIn_app (goodIn_r _ [92, 93, 94, 12] rfl (by decide +kernel)) (goodIn_ca (goodIn_r _ [1, 2, 3, 4, 5, 6, 7, 8, 9, 10, 11, 12, 13, 14, 15, 16, 17, 18, 19, 20, 21, 22, 23, 24, 25, 26, 27, 28, 29, 30, 31, 32, 33, 34, 35, 36, 37, 38, 39, 40, 41, 42, 43, 44, 45, 46, 47, 48, 49, 50, 51, 52, 53, 54, 55, 56, 57, 58, 59, 60, 61, 62, 63, 64, 65, 66, 67, 68, 69, 70, 71, 72, 73, 74, 75, 76, 77, 78, 79, 80, 81, 82, 83, 84, 85, 86, 87, 88, 89, 90, 91, 1, 92, 93, 94, 95, 96, 97] rfl (by decide +kernel)) (bs_in _ _))) rfl rfl rfl (by decide +kernel) ⟨(Nat.le_of_ble_eq_true rfl), (Nat.le_of_ble_eq_true rfl)⟩) ⟨fun a U g mk q => by obtain ⟨q0, q1, qK, qE⟩ := q; exact ⟨q0, q1, va_K.moved (u := U) (U := U.calling g mk a) (Vm.Alike.refl U.vm) qK, EVS.blind g mk a qE⟩, gH_recv hK hT hr_o0 shm_0 rfl, fun U hU hW => ⟨rfl, hU, va_K.moved hW.alike hK, hE.call hS hFc hU hW⟩⟩ rfl rfl hl.1 rfl (lv_room (Nat.le_of_ble_eq_true rfl)) dX12_readCond_1 ⟨(Nat.le_of_ble_eq_true rfl), (Nat.le_of_ble_eq_true rfl)⟩) hS (fun q _ h => hFc q h) hFc (fun r2 u t H locs ht hvm hw3 hB _ _ hS => ?_)
  obtain ⟨u4, u5, u6, u7, u8⟩ := u
  obtain ⟨hT, hF1, m9, m10, m11, m12⟩ := hB
  rw [ht] at hT hF1 m9 m10 m11 m12
  have m14 := (hF1.fld hr_o0 skm_0 (k := 13) (by decide) (by decide)).trans hm_en
  have m17 := hc_vt.kept (hF1.arr hg1 skm_11 (by decide))
  have hF := hF.more hF1 (by decide)
  try dsimp only at hw3
  obtain ⟨h18, h19, h20, h21, hi22, hi23, hf24, hf25, hf26⟩ := hw3
  refine lv_if_ne (tgt := 9) hx hb dX12_readCond_4 (by decide) (fun c27 => ?_) (fun c27 => ?_)
  · have t28 : r2.toInt ≠ 0 := ti_ne c27 rfl (by decide)
    have t29 : u8 u6.toNatClampNeg = ld sv.toNatClampNeg + 1 := hi22 ((bit_of ⟨by omega, by omega⟩).resolve_left c27)
    have t30 : u7.toInt = 4 := hi23 ((bit_of ⟨by omega, by omega⟩).resolve_left c27)
    have key199 : ∀ (n199 : Nat), ∀ (gld111 : Nat → Int), ∀ (z114 : Int32), ∀ (z117 : Int32), ∀ (z120 : Int32), ∀ (z123 : Int32), (400 - z114.toInt < ((n199 : Nat) : Int)) → ((0 ≤ z114.toInt ∧ z114.toInt ≤ 400) ∧ (0 ≤ z117.toInt ∧ z117.toInt ≤ 400) ∧ (0 ≤ z120.toInt ∧ z120.toInt ≤ 400) ∧ (4 ≤ z123.toInt ∧ z123.toInt ≤ 4) ∧ (lG lb gld111) ∧ (gld111 z120.toNatClampNeg = ld sv.toNatClampNeg + 1) ∧ (pt.toInt ≤ z114.toInt ∧ z114.toInt ≤ en.toInt ∧ sv.toInt ≤ z120.toInt ∧ z120.toInt - sv.toInt ≤ z114.toInt - pt.toInt) ∧ (∀ (r : Int) (f : Nat), lpQ (kd (tx vt) N) (xn (tx vt) N) (lpR (kd (tx vt) N) (xn (tx vt) N) (aR (kd (tx vt) N) (xn (tx vt) N) 2) 14) 15 (skp (tx vt) N z114.toNatClampNeg) r f → coR (kd (tx vt) N) (xn (tx vt) N) (aR (kd (tx vt) N) (xn (tx vt) N) 2) (skp (tx vt) N pt.toNatClampNeg) r f)) → ∀ (H : Heap) (locs : List Loc), gH (dC, dI) kA (SHm q (wP wZ wN wH wB wC wL wK wU wV) PI im PM PT (lD (dS S0 lb z120.toInt gld111) lS) lB lE lN) G H → gF (dC, dI) SKm G ([(0, 12), (0, 14), (0, 15), (0, 28), (27, 0), (28, 0)] : List (Nat × Nat)) s.heap H → va_S A s.heap H locs → ct H (q 10) 400 vt → el H o0 (dI 15 13) = some (.int en) → el H o0 (dI 15 12) = some (.int z114) → el H o0 (dI 15 14) = some (.int z117) → el H o0 (dI 15 28) = some (.int z120) → el H o0 (dI 15 15) = some (.int z123) → ∀ ls : Array Slot, lv_has ls 1 [(0, .ref o0)] → W p l e (headSpec w_s_readCond4 ({ frames := 15, cells := 0, slots := 0, locals := 312 })).room s m #[.ref o0] below meth c H locs 0 0 (MQ below (va_Qi (fun (r : Int32) (u : Int32 × Int32 × Int32 × Int32 × (Nat → Int)) => match u with | (p1, b1, s1, d1, ld1) => (0 ≤ p1.toInt ∧ p1.toInt ≤ 400) ∧ (0 ≤ b1.toInt ∧ b1.toInt ≤ 400) ∧ (0 ≤ s1.toInt ∧ s1.toInt ≤ 400) ∧ (0 ≤ r.toInt ∧ r.toInt ≤ 1) ∧ (r = 1 → ld1 s1.toNatClampNeg = ld sv.toNatClampNeg + 1) ∧ (r = 1 → d1.toInt = 4) ∧ (pt.toInt ≤ p1.toInt ∧ p1.toInt ≤ en.toInt ∧ sv.toInt ≤ s1.toInt ∧ s1.toInt - sv.toInt ≤ p1.toInt - pt.toInt) ∧ (lG lb ld1) ∧ ((r.toInt = 1 ∧ coR (kd (tx vt) N) (xn (tx vt) N) (aR (kd (tx vt) N) (xn (tx vt) N) 2) (skp (tx vt) N pt.toNatClampNeg) 1 (skp (tx vt) N p1.toNatClampNeg)) ∨ (r.toInt = 0 ∧ coR (kd (tx vt) N) (xn (tx vt) N) (aR (kd (tx vt) N) (xn (tx vt) N) 2) (skp (tx vt) N pt.toNatClampNeg) 0 b1.toNatClampNeg))) (fun (u : Int32 × Int32 × Int32 × Int32 × (Nat → Int)) (t : State) => match u with | (p1, b1, s1, d1, ld1) => gH (dC, dI) kA (SHm q (wP wZ wN wH wB wC wL wK wU wV) PI im PM PT (lD (dS S0 lb s1.toInt ld1) lS) lB lE lN) G t.heap ∧ gF (dC, dI) SKm G ([(0, 12), (0, 14), (0, 15), (0, 28), (27, 0), (28, 0)] : List (Nat × Nat)) s.heap t.heap ∧ el t.heap o0 (dI 15 12) = some (.int p1) ∧ el t.heap o0 (dI 15 14) = some (.int b1) ∧ el t.heap o0 (dI 15 28) = some (.int s1) ∧ el t.heap o0 (dI 15 15) = some (.int d1)) A) #[.ref o0] s 0 0 A) (F0 m 9 ls []) := by
      intro n199
      induction n199 with
      | zero =>
        intro gld111 z114 z117 z120 z123 hv199 ⟨h115, h118, h121, h124, hg126, hg127, hj128, hj129⟩ H locs hT hF hS m112 m113 m116 m119 m122 m125 ls hl
        exfalso; have q9 := (show z114.toInt = z114.toInt from rfl); omega
      | succ n199 ih199 =>
        intro gld111 z114 z117 z120 z123 hv199 ⟨h115, h118, h121, h124, hg126, hg127, hj128, hj129⟩ H locs hT hF hS m112 m113 m116 m119 m122 m125 ls hl
        refine lv_aload_n hx hb dX12_readCond_9 rfl (lv_at hl 0 rfl) ?_
        refine tw_ldcwS hx hb hown hE.s12 dX12_readCond_10 ?_
        have hFc := gA_free hG hA hS
        refine va_calli (va_runV (As := [.ref (adK 12)]) (rest := []) ⟨hx, hb, hml, hown, hts⟩ (s_passes l dC dI kA adK adV G H q wZ wN wH wB wC wL wK wU wV PI im PM PT (lD (dS S0 lb z120.toInt gld111) lS) lB lE lN o0 z114 en vt 12 N hT hr_o0 m116 m113 (by have q8 := ti_all z114; omega) (by have q8 := ti_all en; omega) (by have := (show z114.toInt = z114.toInt from rfl); have := (show en.toInt = en.toInt from rfl); omega) hN (by first | omega | decide) m112 hgz hgn hgh hgb hgc hgi hgu) (cwV 1 hts (goodIn_app (goodIn_r _ [61, 62, 63, 12] rfl (by decide +kernel)) (goodIn_ca (goodIn_r _ [20, 21, 4, 5, 6, 7, 8, 9, 10, 11, 12, 13, 14, 15, 16, 22, 23, 24, 25, 26, 27, 28, 29, 30, 31, 32, 33, 34, 35, 36, 37, 38, 39, 40, 41, 42, 43, 44, 45, 46, 47, 48, 49, 50, 51, 52, 53, 54, 55, 56, 57, 58, 59, 60] rfl (by decide +kernel)) (bs_in _ _))) rfl rfl rfl (by decide +kernel) ⟨(Nat.le_of_ble_eq_true rfl), (Nat.le_of_ble_eq_true rfl)⟩) ⟨fun a U g mk q => by obtain ⟨q0, q1, qK, qE⟩ := q; exact ⟨q0, q1, va_K.moved (u := U) (U := U.calling g mk a) (Vm.Alike.refl U.vm) qK, EVS.blind g mk a qE⟩, gH_recv hK hT hr_o0 shm_0 rfl, fun U hU hW => ⟨rfl, hU, va_K.moved hW.alike hK, hE.call hS hFc hU hW⟩⟩ rfl rfl hl.1 rfl (lv_room (Nat.le_of_ble_eq_true rfl)) dX12_readCond_13 ⟨(Nat.le_of_ble_eq_true rfl), (Nat.le_of_ble_eq_true rfl)⟩) hS (fun q _ h => hFc q h) hFc (fun r200 u t H locs ht hvm hw201 hB _ _ hS => ?_)
        obtain ⟨u202, u203⟩ := u
        obtain ⟨hT, hF1, m204, m205⟩ := hB
        rw [ht] at hT hF1 m204 m205
        have m206 := m112.kept (hF1.arr hg1 skm_11 (by decide))
        have m207 := (hF1.fld hr_o0 skm_0 (k := 13) (by decide) (by decide)).trans m113
        have m210 := (hF1.fld hr_o0 skm_0 (k := 28) (by decide) (by decide)).trans m122
        have m211 := (hF1.fld hr_o0 skm_0 (k := 15) (by decide) (by decide)).trans m125
        have hF := hF.more hF1 (by decide)
        try dsimp only at hw201
        obtain ⟨h212, h213, h214, hi215, hf216, hf217, hf218⟩ := hw201
        refine lv_if_eq (tgt := 38) hx hb dX12_readCond_16 (by decide) (fun c219 => ?_) (fun c219 => ?_)
        · have t220 : r200.toInt = 0 := ti_eq c219 rfl (by decide)
          refine lv_iconst (v := 1) hx hb dX12_readCond_38 (by decide) ?_
          exact W.zret (v := 1) hx hb hr (by decide) (fun t ht hW => ⟨⟨1, (u202, u203, z120, z123, gld111), rfl, (by exact ⟨(by have q8 := ti_all u202; omega), (by have q8 := ti_all u203; omega), (by have q8 := ti_all z120; omega), (rg_t (a := 1) (by decide) (by omega) (by omega)), (fun _ => (by omega)), (fun _ => (by omega)), (by omega), hg126, (by have a9 := (hf218.resolve_left (fun h8 => by have := h8.2.1; omega)); rw [a9.2.2]; exact Or.inl ⟨by decide, lp_e hj129 (fun h7 => a9.1 (h7.trans (by decide)))⟩)⟩), by (try dsimp only); rw [ht]; exact ⟨hT, hF, m204, m205, m210, m211⟩⟩, hS.F ht⟩) hS.2.2 dX12_readCond_39
        · have t221 : r200.toInt ≠ 0 := ti_ne c219 rfl (by decide)
          have t222 : z114.toInt + 1 ≤ u202.toInt := hi215 ((bit_of ⟨by omega, by omega⟩).resolve_left c219)
          refine lv_aload_n hx hb dX12_readCond_19 rfl (lv_at hl 0 rfl) ?_
          have hFc := gA_free hG hA hS
          refine va_calli (va_runV (As := []) (rest := []) ⟨hx, hb, hml, hown, hts⟩ (s_readAllOf4 l dC dI kA adK adV G H q wZ wN wH wB wC wL wK wU wV PI im PM PT lS lB lE lN o0 u202 en z120 z123 vt S0 lb gld111 N hT hr_o0 m204 m207 m210 m211 (by have q8 := ti_all u202; omega) (by have q8 := ti_all en; omega) (by have q8 := ti_all z120; omega) (by have := (show u202.toInt = u202.toInt from rfl); have := (show en.toInt = en.toInt from rfl); omega) (by have := (show z120.toInt = z120.toInt from rfl); have := (show u202.toInt = u202.toInt from rfl); omega) hS0 (by have := (show z120.toInt = z120.toInt from rfl); omega) hg126 (by omega) (by have q8 := ti_all z123; omega) hN m206 hgz hgn hgh hgb hgc hgi hgu) (cwV 0 hts (goodIn_app (goodIn_r _ [92, 93, 94, 12] rfl (by decide +kernel)) (goodIn_ca (goodIn_r _ [1, 2, 3, 4, 5, 6, 7, 8, 9, 10, 11, 12, 13, 14, 15, 16, 17, 18, 19, 20, 21, 22, 23, 24, 25, 26, 27, 28, 29, 30, 31, 32, 33, 34, 35, 36, 37, 38, 39, 40, 41, 42, 43, 44, 45, 46, 47, 48, 49, 50, 51, 52, 53, 54, 55, 56, 57, 58, 59, 60, 61, 62, 63, 64, 65, 66, 67, 68, 69, 70, 71, 72, 73, 74, 75, 76, 77, 78, 79, 80, 81, 82, 83, 84, 85, 86, 87, 88, 89, 90, 91, 1, 92, 93, 94, 95, 96, 97] rfl (by decide +kernel)) (bs_in _ _))) rfl rfl rfl (by decide +kernel) ⟨(Nat.le_of_ble_eq_true rfl), (Nat.le_of_ble_eq_true rfl)⟩) ⟨fun a U g mk q => by obtain ⟨q0, q1, qK, qE⟩ := q; exact ⟨q0, q1, va_K.moved (u := U) (U := U.calling g mk a) (Vm.Alike.refl U.vm) qK, EVS.blind g mk a qE⟩, gH_recv hK hT hr_o0 shm_0 rfl, fun U hU hW => ⟨rfl, hU, va_K.moved hW.alike hK, hE.call hS hFc hU hW⟩⟩ rfl rfl hl.1 rfl (lv_room (Nat.le_of_ble_eq_true rfl)) dX12_readCond_20 ⟨(Nat.le_of_ble_eq_true rfl), (Nat.le_of_ble_eq_true rfl)⟩) hS (fun q _ h => hFc q h) hFc (fun r223 u t H locs ht hvm hw224 hB _ _ hS => ?_)
          obtain ⟨u225, u226, u227, u228, u229⟩ := u
          obtain ⟨hT, hF1, m230, m231, m232, m233⟩ := hB
          rw [ht] at hT hF1 m230 m231 m232 m233
          have m234 := m206.kept (hF1.arr hg1 skm_11 (by decide))
          have m235 := (hF1.fld hr_o0 skm_0 (k := 13) (by decide) (by decide)).trans m207
          have hF := hF.more hF1 (by decide)
          try dsimp only at hw224
          obtain ⟨h240, h241, h242, h243, hi244, hi245, hf246, hf247, hf248⟩ := hw224
          refine lv_if_ne (tgt := 28) hx hb dX12_readCond_23 (by decide) (fun c249 => ?_) (fun c249 => ?_)
          · have t250 : r223.toInt ≠ 0 := ti_ne c249 rfl (by decide)
            have t251 : u229 u227.toNatClampNeg = gld111 z120.toNatClampNeg + 1 := hi244 ((bit_of ⟨by omega, by omega⟩).resolve_left c249)
            have t252 : u228.toInt = 4 := hi245 ((bit_of ⟨by omega, by omega⟩).resolve_left c249)
            refine lv_aload_n hx hb dX12_readCond_28 rfl (lv_at hl 0 rfl) ?_
            refine lv_bipush (v := 106) hx hb dX12_readCond_29 (by decide) ?_
            refine lv_iconst (v := 0) hx hb dX12_readCond_31 (by decide) ?_
            have hFc := gA_free hG hA hS
            refine va_callv (va_runV (As := [.int 106, .int 0]) (rest := []) ⟨hx, hb, hml, hown, hts⟩ (s_adds l dC dI kA adK adV G H q wZ wN wH wB wC wL wK wU wV PI im PM PT lS lB lE lN o0 106 0 u227 S0 lb u229 (u229 u227.toNatClampNeg - 1) hT hr_o0 m232 (by have q8 := ti_all u227; omega) (by have q9 := (show (106 : Int32).toInt = 106 from (by decide)); unfold stp; omega) hS0 (by have := (show u227.toInt = u227.toInt from rfl); omega) hf247 hgz hgn hgh hgb hgc hgi hgu) (cwV 2 hts (goodIn_app (goodIn_r _ [75, 76, 77, 12] rfl (by decide +kernel)) (goodIn_ca (goodIn_r _ [71, 72, 73, 74] rfl (by decide +kernel)) (bs_in _ _))) rfl rfl rfl (by decide +kernel) ⟨(Nat.le_of_ble_eq_true rfl), (Nat.le_of_ble_eq_true rfl)⟩) ⟨fun a U g mk q => by obtain ⟨q0, q1, qK, qE⟩ := q; exact ⟨q0, q1, va_K.moved (u := U) (U := U.calling g mk a) (Vm.Alike.refl U.vm) qK, EVS.blind g mk a qE⟩, gH_recv hK hT hr_o0 shm_0 rfl, fun U hU hW => ⟨rfl, hU, va_K.moved hW.alike hK, hE.call hS hFc hU hW⟩⟩ rfl rfl hl.1 rfl (lv_room (Nat.le_of_ble_eq_true rfl)) dX12_readCond_32 ⟨(Nat.le_of_ble_eq_true rfl), (Nat.le_of_ble_eq_true rfl)⟩) hS (fun q _ h => hFc q h) hFc (fun u t H locs ht hvm hw254 hB _ _ hS => ?_)
            obtain ⟨u255, u256⟩ := u
            obtain ⟨hT, hF1, m257⟩ := hB
            rw [ht] at hT hF1 m257
            have m258 := m234.kept (hF1.arr hg1 skm_11 (by decide))
            have m259 := (hF1.fld hr_o0 skm_0 (k := 13) (by decide) (by decide)).trans m235
            have m260 := (hF1.fld hr_o0 skm_0 (k := 12) (by decide) (by decide)).trans m230
            have m261 := (hF1.fld hr_o0 skm_0 (k := 14) (by decide) (by decide)).trans m231
            have m263 := (hF1.fld hr_o0 skm_0 (k := 15) (by decide) (by decide)).trans m233
            have hF := hF.more hF1 (by decide)
            try dsimp only at hw254
            obtain ⟨h264, hf265, hf266, hf267⟩ := hw254
            refine lv_goto (tgt := 9) hx hb dX12_readCond_35 (by decide) ?_
            exact ih199 u256 u225 u226 u255 u228 (by have q9 := (show u225.toInt = u225.toInt from rfl); omega) ⟨(by have q8 := ti_all u225; omega), (by have q8 := ti_all u226; omega), (by have q8 := ti_all u255; omega), (by have q8 := ti_all u228; omega), hf267, (by omega), (by have := (show u225.toInt = u225.toInt from rfl); have := (show u255.toInt = u255.toInt from rfl); omega), (by have a9 := (hf218.resolve_right (fun h8 => by have := h8.2.1; omega)); have b9 := (hf248.resolve_right (fun h8 => by have := h8.1; omega)).2; rw [a9.2.2] at b9; exact lp_s hj129 (a9.1.trans (by decide)) b9)⟩ _ _ hT hF hS m258 m259 m260 m261 m257 m263 ls (lv_sub hl [0] rfl)
          · have t268 : r223.toInt = 0 := ti_eq c249 rfl (by decide)
            refine lv_iconst (v := 0) hx hb dX12_readCond_26 (by decide) ?_
            exact W.zret (v := 0) hx hb hr (by decide) (fun t ht hW => ⟨⟨0, (u225, u226, u227, u228, u229), rfl, (by exact ⟨(by have q8 := ti_all u225; omega), (by have q8 := ti_all u226; omega), (by have q8 := ti_all u227; omega), (rg_t (a := 0) (by decide) (by omega) (by omega)), (fun h => absurd h (by decide)), (fun h => absurd h (by decide)), (by omega), hf247, (by have a9 := (hf218.resolve_right (fun h8 => by have := h8.2.1; omega)); have b9 := (hf248.resolve_left (fun h8 => by have := h8.1; omega)).2; rw [a9.2.2] at b9; exact Or.inr ⟨by decide, lp_f hj129 (a9.1.trans (by decide)) b9⟩)⟩), by (try dsimp only); rw [ht]; exact ⟨hT, hF, m230, m231, m232, m233⟩⟩, hS.F ht⟩) hS.2.2 dX12_readCond_27
    exact key199 401 u8 u4 u5 u6 u7 (by have q9 := (show u4.toInt = u4.toInt from rfl); omega) ⟨(by have q8 := ti_all u4; omega), (by have q8 := ti_all u5; omega), (by have q8 := ti_all u6; omega), (by have q8 := ti_all u7; omega), hf25, (by omega), (by have := (show u4.toInt = u4.toInt from rfl); have := (show u6.toInt = u6.toInt from rfl); omega), (lp_1 (hf26.resolve_right (fun h8 => by have := h8.1; omega)).2)⟩ _ _ hT hF hS m17 m14 m9 m10 m11 m12 ls (lv_sub hl [0] rfl)
  · have t269 : r2.toInt = 0 := ti_eq c27 rfl (by decide)
    refine lv_iconst (v := 0) hx hb dX12_readCond_7 (by decide) ?_
    exact W.zret (v := 0) hx hb hr (by decide) (fun t ht hW => ⟨⟨0, (u4, u5, u6, u7, u8), rfl, (by exact ⟨(by have q8 := ti_all u4; omega), (by have q8 := ti_all u5; omega), (by have q8 := ti_all u6; omega), (rg_t (a := 0) (by decide) (by omega) (by omega)), (fun h => absurd h (by decide)), (fun h => absurd h (by decide)), (by omega), hf25, (Or.inr ⟨by decide, lp_0 (hf26.resolve_left (fun h8 => by have := h8.1; omega)).2⟩)⟩), by (try dsimp only); rw [ht]; exact ⟨hT, hF, m9, m10, m11, m12⟩⟩, hS.F ht⟩) hS.2.2 dX12_readCond_8
