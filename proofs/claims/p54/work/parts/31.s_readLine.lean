def w_s_readLine : List Cond := .code yX12_readLine cX12_readLine 3 (some .boolean) :: (HAppend.hAppend (α := List Cond) (β := List Cond) (γ := List Cond) [.code yX12_word cX12_word 1 none, .code yX12_blanks cX12_blanks 1 none, .code yX12_isAt cX12_isAt 3 (some .boolean), .fieldLink RX12 335 "SeaLandModel" "point" "I", .fieldLink RX12 338 "SeaLandModel" "end" "I", .fieldLink RX12 31 "SeaLandModel" "tape" "[B", .methodLink RX12 341 yX12_isAt, .instanceMethod yX12_isAt, .selects RX12 yX12_isAt yX12_isAt, .initialized RX12, .fieldLink RX12 345 "SeaLandModel" "begin" "I", .methodLink RX12 348 yX12_blanks, .instanceMethod yX12_blanks, .selects RX12 yX12_blanks yX12_blanks, .methodLink RX12 360 yX12_word, .instanceMethod yX12_word, .selects RX12 yX12_word yX12_word, .fieldLink RX12 45 "SeaLandModel" "sort" "[I", .code yX12_sortOf cX12_sortOf 1 (some .int), .code yX12_isWord cX12_isWord 4 (some .boolean), .code yJ0_length_8abf5 cJ0_length_8abf5 1 (some .int), .fieldLink RJ0 9 "java/lang/String" "value" "[B", .code yJ0_coder_7d493 cJ0_coder_7d493 1 (some .byte), .fieldLink RJ0 38 "java/lang/String" "COMPACT_STRINGS" "Z", .fieldLink RJ0 15 "java/lang/String" "coder" "B", .methodLink RJ0 335 yJ0_coder_7d493, .instanceMethod yJ0_coder_7d493, .selects RJ0 yJ0_coder_7d493 yJ0_coder_7d493, .initialized RJ0, .methodLink RX12 351 yJ0_length_8abf5, .instanceMethod yJ0_length_8abf5, .selects RJ0 yJ0_length_8abf5 yJ0_length_8abf5, .code yJ0_charAt_5068e cJ0_charAt_5068e 2 (some .char), .code yJ0_isLatin1_aae02 cJ0_isLatin1_aae02 1 (some .boolean), .methodLink RJ0 492 yJ0_isLatin1_aae02, .instanceMethod yJ0_isLatin1_aae02, .selects RJ0 yJ0_isLatin1_aae02 yJ0_isLatin1_aae02, .code yJ1_charAt_3b067 cJ1_charAt_3b067 2 (some .char), .code yJ0_checkIndex_df160 cJ0_checkIndex_df160 2 none, .fieldLink RJ0 1053 "jdk/internal/util/Preconditions" "SIOOBE_FORMATTER" "Ljava/util/function/BiFunction;", .code yJ3_checkIndex_8e157 cJ3_checkIndex_8e157 3 (some .int), .methodLink RJ0 1059 yJ3_checkIndex_8e157, .static yJ3_checkIndex_8e157, .initialized RJ3, .methodLink RJ1 9 yJ0_checkIndex_df160, .static yJ0_checkIndex_df160, .methodLink RJ0 495 yJ1_charAt_3b067, .static yJ1_charAt_3b067, .initialized RJ1, .methodLink RX12 356 yJ0_charAt_5068e, .instanceMethod yJ0_charAt_5068e, .selects RJ0 yJ0_charAt_5068e yJ0_charAt_5068e, .methodLink RX12 363 yX12_isWord, .instanceMethod yX12_isWord, .selects RX12 yX12_isWord yX12_isWord, .methodLink RX12 443 yX12_sortOf, .instanceMethod yX12_sortOf, .selects RX12 yX12_sortOf yX12_sortOf, .fieldLink RX12 60 "SeaLandModel" "begins" "[I", .fieldLink RX12 367 "SeaLandModel" "steps" "I", .fieldLink RX12 63 "SeaLandModel" "ends" "[I", .fieldLink RX12 48 "SeaLandModel" "told" "[I", .code yX12_passes cX12_passes 2 (some .boolean), .methodLink RX12 409 yX12_passes, .instanceMethod yX12_passes, .selects RX12 yX12_passes yX12_passes, .fieldLink RX12 401 "SeaLandModel" "deep" "I", .code yX12_readCond cX12_readCond 1 (some .boolean), .code yX12_readAllOf cX12_readAllOf 1 (some .boolean), .code yX12_readAtom cX12_readAtom 2 (some .boolean), .code yX12_sign cX12_sign 2 (some .boolean), .methodLink RX12 398 yX12_sign, .instanceMethod yX12_sign, .selects RX12 yX12_sign yX12_sign, .code yX12_readSum cX12_readSum 1 (some .boolean), .code yX12_readPart cX12_readPart 2 (some .boolean), .constant RX12 390 99999, .code yX12_number cX12_number 3 (some .int), .methodLink RX12 391 yX12_number, .instanceMethod yX12_number, .selects RX12 yX12_number yX12_number, .code yX12_adds cX12_adds 3 none, .fieldLink RX12 66 "SeaLandModel" "step" "[I", .fieldLink RX12 69 "SeaLandModel" "than" "[I", .methodLink RX12 387 yX12_adds, .instanceMethod yX12_adds, .selects RX12 yX12_adds yX12_adds, .code yX12_fact cX12_fact 1 (some (.object "java/lang/String")), .methodLink RX12 383 yX12_fact, .static yX12_fact, .methodLink RX12 394 yX12_readPart, .instanceMethod yX12_readPart, .selects RX12 yX12_readPart yX12_readPart, .methodLink RX12 415 yX12_readSum, .instanceMethod yX12_readSum, .selects RX12 yX12_readSum yX12_readSum, .methodLink RX12 412 yX12_readAtom, .instanceMethod yX12_readAtom, .selects RX12 yX12_readAtom yX12_readAtom, .methodLink RX12 420 yX12_readAllOf, .instanceMethod yX12_readAllOf, .selects RX12 yX12_readAllOf yX12_readAllOf, .methodLink RX12 404 yX12_readCond, .instanceMethod yX12_readCond, .selects RX12 yX12_readCond yX12_readCond, .code yX12_readLevel cX12_readLevel 2 (some .boolean), .fieldLink RX12 51 "SeaLandModel" "winter" "[I", .fieldLink RX12 54 "SeaLandModel" "from" "[I", .fieldLink RX12 57 "SeaLandModel" "to" "[I", .methodLink RX12 446 yX12_readLevel, .instanceMethod yX12_readLevel, .selects RX12 yX12_readLevel yX12_readLevel] bs)
set_option maxHeartbeats 4000000 in
set_option maxRecDepth 100000 in
theorem s_readLine (l : Launch) (dC : Nat → ClassId) (dI : Nat → Nat → Nat) (kA : Nat → ClassId) (adK adV : Nat → Nat) (G : gT) (H0 : Heap) (q : Nat → Nat) (wZ wN : Nat → Int) (wH wB wC : Int) (wL wK : Nat → Prop) (wU wV : Nat → Nat) (PI : Nat → Int → Prop) (im : Int) (PM PT : Nat → Int → Prop) (lS lB lE : Nat → Nat → Int → Prop) (lN : Nat → Int) (o0 : Nat) (nl : Int32) (pt : Int32) (en : Int32) (sv : Int32) (S0 dB dE : Nat → Int → Prop) (hT : gH (dC, dI) kA (SHm q (wP wZ wN wH wB wC wL wK wU wV) PI im PM PT (lD S0 lS) (lD dB lB) (lD dE lE) lN) G H0) (hr_o0 : G o0 = some 0) (hm_pt : el H0 o0 (dI 15 12) = some (.int pt)) (hm_en : el H0 o0 (dI 15 13) = some (.int en)) (hm_sv : el H0 o0 (dI 15 28) = some (.int sv)) (hq0 : 0 ≤ pt.toInt ∧ pt.toInt ≤ 400) (hq1 : 0 ≤ en.toInt ∧ en.toInt ≤ 400) (hq2 : 0 ≤ sv.toInt ∧ sv.toInt ≤ 400) (hq3 : 0 ≤ nl.toInt ∧ nl.toInt ≤ 20) (hpe : pt.toInt ≤ en.toInt) (hsp : sv.toInt ≤ pt.toInt) (hlw : lwOK S0 dB dE nl.toNatClampNeg sv.toInt) (hgz : ∀ i, 0 ≤ wZ i) (hgn : ∀ i, 6500000 ≤ wN i ∧ wN i ≤ 20200000) (hgh : 0 ≤ wH ∧ wH ≤ 40000) (hgb : 0 ≤ wB ∧ wB ≤ 3850000) (hgc : 0 ≤ wC ∧ wC ≤ 30) (hgi : 0 ≤ im ∧ im ≤ 1) (hgu : ∀ a t, G a = some (t + 1) → a = q t) : Met l yX12_readLine w_s_readLine ({ frames := 28, cells := 0, slots := 0, locals := 576 }) (va_Pc [.ref o0, .int nl] (fun U => U.heap = H0 ∧ va_K (dC, dI) vwCl (tyl kA) U ∧ EVS adK adV (gA G H0.size) U U.heap)) (va_Qi (fun (r : Int32) (u : Int32 × Int32 × Int32 × (Nat → Int → Prop) × (Nat → Int → Prop) × (Nat → Int → Prop)) => match u with | (p1, b1, s1, S1, dB1, dE1) => (0 ≤ p1.toInt ∧ p1.toInt ≤ 400) ∧ (0 ≤ b1.toInt ∧ b1.toInt ≤ 400) ∧ (0 ≤ s1.toInt ∧ s1.toInt ≤ 400) ∧ (0 ≤ r.toInt ∧ r.toInt ≤ 1) ∧ (r = 1 → lwOK S1 dB1 dE1 (nl.toNatClampNeg + 1) s1.toInt ∧ nl.toInt < 20) ∧ (pt.toInt ≤ p1.toInt ∧ p1.toInt ≤ en.toInt ∧ sv.toInt ≤ s1.toInt ∧ s1.toInt - sv.toInt ≤ p1.toInt - pt.toInt)) (fun (u : Int32 × Int32 × Int32 × (Nat → Int → Prop) × (Nat → Int → Prop) × (Nat → Int → Prop)) (t : State) => match u with | (p1, b1, s1, S1, dB1, dE1) => gH (dC, dI) kA (SHm q (wP wZ wN wH wB wC wL wK wU wV) PI im PM PT (lD S1 lS) (lD dB1 lB) (lD dE1 lE) lN) G t.heap ∧ gF (dC, dI) SKm G ([(0, 12), (0, 14), (0, 15), (0, 28), (20, 0), (21, 0), (22, 0), (23, 0), (24, 0), (25, 0), (26, 0), (27, 0), (28, 0)] : List (Nat × Nat)) H0 t.heap ∧ el t.heap o0 (dI 15 12) = some (.int p1) ∧ el t.heap o0 (dI 15 14) = some (.int b1) ∧ el t.heap o0 (dI 15 28) = some (.int s1)) (gA G H0.size)) 0 0 (gA G H0.size) := by
  refine Met.ofW (cc := cX12_readLine) (maxL := 3) (ret := (some .boolean)) (by decide) rfl ?_
  intro p e s m args below meth c s₁ B hml hv
  obtain ⟨rfl, hH0, hK, hE⟩ := hv
  have hx := B.exec
  have hb := B.bytes
  have hr := B.returns
  have hts := atoms_spec (ws := w_s_readLine) B.pre
  have hown : s.vm.findClass RX12 = some m.cls := findClass_of_methodNamed B.named
  have hlocks := B.notSynchronized
  subst hH0
  generalize hAe : gA G s.heap.size = A at hE ⊢
  have hA : ∀ q : Nat, s.heap.size ≤ q → A q := fun q h => by rw [← hAe]; exact Or.inr h
  have hG := gA_of hAe
  have hS : va_S A s.heap s.heap [] := va_S.rf
  have hF : gF (dC, dI) SKm G ([(0, 12), (0, 14), (0, 15), (0, 28), (20, 0), (21, 0), (22, 0), (23, 0), (24, 0), (25, 0), (26, 0), (27, 0), (28, 0)] : List (Nat × Nat)) s.heap s.heap := gF.rf
  have hl := lv_entry ([.ref o0, .int nl]) (n := 3) (Nat.le_of_ble_eq_true rfl)
  rw [lg_entry_eq]
  generalize (lg_sl ([.ref o0, .int nl]) ++ List.replicate (3 - (lg_sl ([.ref o0, .int nl])).length) Slot.unset).toArray = ls at hl ⊢
  have hl : lv_has ls 3 [(0, .ref o0), (1, .int nl)] := hl
  refine lv_aload_n hx hb dX12_readLine_0 rfl (lv_at hl 0 rfl) ?_
  have hFc := gA_free hG hA hS
  refine va_callv (va_runV (As := []) (rest := []) ⟨hx, hb, hml, hown, hts⟩ (s_word l dC dI kA adK adV G s.heap q wZ wN wH wB wC wL wK wU wV PI im PM PT (lD S0 lS) (lD dB lB) (lD dE lE) lN o0 pt en hT hr_o0 hm_pt hm_en (by have q8 := ti_all pt; omega) (by have q8 := ti_all en; omega) (by have := (show pt.toInt = pt.toInt from rfl); have := (show en.toInt = en.toInt from rfl); omega) hgz hgn hgh hgb hgc hgi hgu) (cwV 0 hts (goodIn_app (goodIn_r _ [15, 16, 17, 10] rfl (by decide +kernel)) (goodIn_ca (goodIn_r _ [1, 2, 3, 4, 5, 6, 7, 8, 9, 10, 11, 12, 13, 14] rfl (by decide +kernel)) (bs_in _ _))) rfl rfl rfl (by decide +kernel) ⟨(Nat.le_of_ble_eq_true rfl), (Nat.le_of_ble_eq_true rfl)⟩) ⟨fun a U g mk q => by obtain ⟨q0, q1, qK, qE⟩ := q; exact ⟨q0, q1, va_K.moved (u := U) (U := U.calling g mk a) (Vm.Alike.refl U.vm) qK, EVS.blind g mk a qE⟩, gH_rc hK hT hr_o0 shm_0 rfl, fun U hU hW => ⟨rfl, hU, va_K.moved hW.alike hK, hE.call hS hFc hU hW⟩⟩ rfl rfl hl.1 rfl (lv_room (Nat.le_of_ble_eq_true rfl)) dX12_readLine_1 ⟨(Nat.le_of_ble_eq_true rfl), (Nat.le_of_ble_eq_true rfl)⟩) hS (fun q _ h => hFc q h) hFc (fun u t H locs ht hvm hw2 hB _ _ hS => ?_)
  obtain ⟨u3, u4⟩ := u
  obtain ⟨hT, hF1, m5, m6⟩ := hB
  rw [ht] at hT hF1 m5 m6
  have m8 := (hF1.fld hr_o0 skm_0 (k := 13) (by decide) (by decide)).trans hm_en
  have m9 := (hF1.fld hr_o0 skm_0 (k := 28) (by decide) (by decide)).trans hm_sv
  have hF := hF.more hF1 (by decide)
  try dsimp only at hw2
  obtain ⟨h10, h11, hf12⟩ := hw2
  refine lv_iload_n hx hb dX12_readLine_4 rfl (lv_at hl 1 rfl) ?_
  refine lv_bipush (v := 20) hx hb dX12_readLine_5 (by decide) ?_
  refine lv_icmp_ne (tgt := 12) hx hb dX12_readLine_7 (by decide) (fun c13 => ?_) (fun c13 => ?_)
  · have t14 : nl.toInt ≠ 20 := ti_ne c13 rfl (by decide)
    refine lv_bipush (v := 40) hx hb dX12_readLine_12 (by decide) ?_
    refine lv_iload_n hx hb dX12_readLine_14 rfl (lv_at hl 1 rfl) ?_
    refine lv_iadd hx hb dX12_readLine_15 ?_
    refine lv_topi (fun x15 ex15 => ?_)
    have t16 : x15.toInt = 40 + nl.toInt := ti_add ex15 (by decide) rfl (by omega) (by omega)
    refine lv_istore_n (lv' := [(2, .int x15), (0, .ref o0), (1, .int nl)]) hx hb dX12_readLine_16 rfl hl (by decide) rfl (fun ls hl => ?_)
    refine lv_aload_n hx hb dX12_readLine_17 rfl (lv_at hl 1 rfl) ?_
    refine tw_get hx hb hts bF_X12 hown hK hT hr_o0 shm_0 rfl 19 (by decide) (ht_at hts 17 rfl) (fun _ h9 => h9) dX12_readLine_18 (fun v9 m17 h9 => ?_)
    obtain ⟨rfl, hg18⟩ := h9 _ rfl
    refine lv_iload_n hx hb dX12_readLine_21 rfl (lv_at hl 0 rfl) ?_
    refine lv_aload_n hx hb dX12_readLine_22 rfl (lv_at hl 1 rfl) ?_
    have hFc := gA_free hG hA hS
    refine va_calli (va_runV (As := []) (rest := [.int x15, .ref (q 19)]) ⟨hx, hb, hml, hown, hts⟩ (s_sortOf l dC dI kA adK adV G H q wZ wN wH wB wC wL wK wU wV PI im PM PT (lD S0 lS) (lD dB lB) (lD dE lE) lN o0 u3 u4 hT hr_o0 m5 m6 (by have q8 := ti_all u3; omega) (by have q8 := ti_all u4; omega) (by have := (show u3.toInt = u3.toInt from rfl); have := (show u4.toInt = u4.toInt from rfl); omega) hgz hgn hgh hgb hgc hgi hgu) (cwV 0 hts (goodIn_app (goodIn_r _ [56, 57, 58, 10] rfl (by decide +kernel)) (goodIn_ca (goodIn_r _ [19, 20, 4, 11, 21, 22, 23, 24, 25, 26, 27, 28, 29, 30, 31, 32, 6, 33, 34, 35, 36, 37, 38, 39, 40, 41, 42, 43, 44, 45, 46, 47, 48, 49, 50, 51, 52, 53, 54, 55, 10] rfl (by decide +kernel)) (bs_in _ _))) rfl rfl rfl (by decide +kernel) ⟨(Nat.le_of_ble_eq_true rfl), (Nat.le_of_ble_eq_true rfl)⟩) ⟨fun a U g mk q => by obtain ⟨q0, q1, qK, qE⟩ := q; exact ⟨q0, q1, va_K.moved (u := U) (U := U.calling g mk a) (Vm.Alike.refl U.vm) qK, EVS.blind g mk a qE⟩, gH_rc hK hT hr_o0 shm_0 rfl, fun U hU hW => ⟨rfl, hU, va_K.moved hW.alike hK, hE.call hS hFc hU hW⟩⟩ rfl rfl hl.1 rfl (lv_room (Nat.le_of_ble_eq_true rfl)) dX12_readLine_23 ⟨(Nat.le_of_ble_eq_true rfl), (Nat.le_of_ble_eq_true rfl)⟩) hS (fun q _ h => hFc q h) hFc (fun r19 u t H locs ht hvm hw20 hB _ _ hS => ?_)
    obtain ⟨hT, hF1⟩ := hB
    rw [ht] at hT hF1
    have m21 := (hF1.fld hr_o0 skm_0 (k := 13) (by decide) (by decide)).trans m8
    have m22 := (hF1.fld hr_o0 skm_0 (k := 28) (by decide) (by decide)).trans m9
    have m23 := (hF1.fld hr_o0 skm_0 (k := 12) (by decide) (by decide)).trans m5
    have m24 := (hF1.fld hr_o0 skm_0 (k := 14) (by decide) (by decide)).trans m6
    have hF := hF.more hF1 (by decide)
    try dsimp only at hw20
    have h25 := hw20
    refine tw_iast (i := x15) (x := r19) hx hb hK hT hG hS hg18 shm_20 rfl (vin_t (a := x15.toInt) rfl (by omega) (by omega)) (gi_all _) dX12_readLine_26 (fun H locs hT oq m26 oi hS => ?_)
    have hF := hF.ast hg18 skm_20 oq (by decide)
    have m27 := (el_kept (oq _ (gne hr_o0 hg18 (by decide)))).trans m21
    have m28 := (el_kept (oq _ (gne hr_o0 hg18 (by decide)))).trans m22
    have m29 := (el_kept (oq _ (gne hr_o0 hg18 (by decide)))).trans m23
    have m30 := (el_kept (oq _ (gne hr_o0 hg18 (by decide)))).trans m24
    refine lv_aload_n hx hb dX12_readLine_27 rfl (lv_at hl 1 rfl) ?_
    refine tw_get hx hb hts bF_X12 hown hK hT hr_o0 shm_0 rfl 24 (by decide) (ht_at hts 58 rfl) (fun _ h9 => h9) dX12_readLine_28 (fun v9 m31 h9 => ?_)
    obtain ⟨rfl, hg32⟩ := h9 _ rfl
    refine lv_iload_n hx hb dX12_readLine_31 rfl (lv_at hl 0 rfl) ?_
    refine lv_aload_n hx hb dX12_readLine_32 rfl (lv_at hl 1 rfl) ?_
    refine tw_getM (v := .int sv) hx hb hts bF_X12 hown hK hT hr_o0 shm_0 rfl 28 (by decide) (ht_at hts 59 rfl) (fun _ h9 => h9) m28 dX12_readLine_33 ?_
    have t33 : ((x15.toNatClampNeg : Nat) : Int) = x15.toInt := tn_of (show x15.toInt = x15.toInt from rfl) (by omega)
    have t34 : ((nl.toNatClampNeg : Nat) : Int) = nl.toInt := tn_of rfl (by omega)
    refine tw_iast2 (Sg1 := (SHm q (wP wZ wN wH wB wC wL wK wU wV) PI im PM PT (lD S0 lS) (lD (pset dB nl.toNatClampNeg (fun y => y = sv.toInt)) lB) (lD dE lE) lN)) (i := x15) (x := sv) hx hb hK hT hG hS hg32 shm_25 rfl shm_25 shm_o25 (fun b9 h9 => hgu b9 24 h9) (vin_t (a := x15.toInt) rfl (by omega) (by omega)) (⟨_, rfl, lb_hv (n := nl.toNatClampNeg) (by omega) (by omega) (by have q8 := ti_all sv; omega) rfl⟩) (fun k9 hk9 hne9 v9 hv9 he9 => by obtain ⟨x9, rfl, p9⟩ := he9; exact ⟨x9, rfl, lb_hm (n := nl.toNatClampNeg) hk9 (by omega) p9⟩) dX12_readLine_36 (fun H locs hT oq m35 oi hS => ?_)
    have hF := hF.ast hg32 skm_25 oq (by decide)
    have m36 := (el_kept (oq _ (gne hr_o0 hg32 (by decide)))).trans m27
    have m37 := (el_kept (oq _ (gne hr_o0 hg32 (by decide)))).trans m28
    have m38 := (el_kept (oq _ (gne hr_o0 hg32 (by decide)))).trans m29
    have m39 := (el_kept (oq _ (gne hr_o0 hg32 (by decide)))).trans m30
    have m40 := (el_kept (oq _ (gne hg18 hg32 (by decide)))).trans m26
    refine lv_aload_n hx hb dX12_readLine_37 rfl (lv_at hl 1 rfl) ?_
    refine tw_get hx hb hts bF_X12 hown hK hT hr_o0 shm_0 rfl 25 (by decide) (ht_at hts 60 rfl) (fun _ h9 => h9) dX12_readLine_38 (fun v9 m41 h9 => ?_)
    obtain ⟨rfl, hg42⟩ := h9 _ rfl
    refine lv_iload_n hx hb dX12_readLine_41 rfl (lv_at hl 0 rfl) ?_
    refine lv_aload_n hx hb dX12_readLine_42 rfl (lv_at hl 1 rfl) ?_
    refine tw_getM (v := .int sv) hx hb hts bF_X12 hown hK hT hr_o0 shm_0 rfl 28 (by decide) (ht_at hts 59 rfl) (fun _ h9 => h9) m37 dX12_readLine_43 ?_
    have t43 : ((x15.toNatClampNeg : Nat) : Int) = x15.toInt := tn_of (show x15.toInt = x15.toInt from rfl) (by omega)
    have t44 : ((nl.toNatClampNeg : Nat) : Int) = nl.toInt := tn_of rfl (by omega)
    refine tw_iast2 (Sg1 := (SHm q (wP wZ wN wH wB wC wL wK wU wV) PI im PM PT (lD S0 lS) (lD (pset dB nl.toNatClampNeg (fun y => y = sv.toInt)) lB) (lD (pset dE nl.toNatClampNeg (fun y => y ≤ sv.toInt)) lE) lN)) (i := x15) (x := sv) hx hb hK hT hG hS hg42 shm_26 rfl shm_26 shm_o26 (fun b9 h9 => hgu b9 25 h9) (vin_t (a := x15.toInt) rfl (by omega) (by omega)) (⟨_, rfl, lb_hv (n := nl.toNatClampNeg) (by omega) (by omega) (by have q8 := ti_all sv; omega) (Int.le_refl _)⟩) (fun k9 hk9 hne9 v9 hv9 he9 => by obtain ⟨x9, rfl, p9⟩ := he9; exact ⟨x9, rfl, lb_hm (n := nl.toNatClampNeg) hk9 (by omega) p9⟩) dX12_readLine_46 (fun H locs hT oq m45 oi hS => ?_)
    have hF := hF.ast hg42 skm_26 oq (by decide)
    have m46 := (el_kept (oq _ (gne hr_o0 hg42 (by decide)))).trans m36
    have m47 := (el_kept (oq _ (gne hr_o0 hg42 (by decide)))).trans m37
    have m48 := (el_kept (oq _ (gne hr_o0 hg42 (by decide)))).trans m38
    have m49 := (el_kept (oq _ (gne hr_o0 hg42 (by decide)))).trans m39
    have m50 := (el_kept (oq _ (gne hg18 hg42 (by decide)))).trans m40
    have m51 := (el_kept (oq _ (gne hg32 hg42 (by decide)))).trans m35
    refine lv_aload_n hx hb dX12_readLine_47 rfl (lv_at hl 1 rfl) ?_
    refine tw_get hx hb hts bF_X12 hown hK hT hr_o0 shm_0 rfl 20 (by decide) (ht_at hts 61 rfl) (fun _ h9 => h9) dX12_readLine_48 (fun v9 m52 h9 => ?_)
    obtain ⟨rfl, hg53⟩ := h9 _ rfl
    refine lv_iload_n hx hb dX12_readLine_51 rfl (lv_at hl 0 rfl) ?_
    refine lv_iconst (v := 0) hx hb dX12_readLine_52 (by decide) ?_
    refine tw_iast (i := x15) (x := 0) hx hb hK hT hG hS hg53 shm_21 rfl (vin_t (a := x15.toInt) rfl (by omega) (by omega)) (gi_all _) dX12_readLine_53 (fun H locs hT oq m54 oi hS => ?_)
    have hF := hF.ast hg53 skm_21 oq (by decide)
    have m55 := (el_kept (oq _ (gne hr_o0 hg53 (by decide)))).trans m46
    have m56 := (el_kept (oq _ (gne hr_o0 hg53 (by decide)))).trans m47
    have m57 := (el_kept (oq _ (gne hr_o0 hg53 (by decide)))).trans m48
    have m58 := (el_kept (oq _ (gne hr_o0 hg53 (by decide)))).trans m49
    have m59 := (el_kept (oq _ (gne hg18 hg53 (by decide)))).trans m50
    have m60 := (el_kept (oq _ (gne hg32 hg53 (by decide)))).trans m51
    have m61 := (el_kept (oq _ (gne hg42 hg53 (by decide)))).trans m45
    refine lv_aload_n hx hb dX12_readLine_54 rfl (lv_at hl 1 rfl) ?_
    refine tw_get hx hb hts bF_X12 hown hK hT hr_o0 shm_0 rfl 19 (by decide) (ht_at hts 17 rfl) (fun _ h9 => h9) dX12_readLine_55 (fun v9 m62 h9 => ?_)
    obtain ⟨rfl, hg63⟩ := h9 _ rfl
    refine lv_iload_n hx hb dX12_readLine_58 rfl (lv_at hl 0 rfl) ?_
    refine tw_iald (i := x15) hx hb hK hT hg18 shm_20 rfl (vin_t (a := x15.toInt) rfl (by omega) (by omega)) dX12_readLine_59 (fun v9 m64 h9 => ?_)
    obtain ⟨x65, rfl, gx65, kx65⟩ := h9
    obtain rfl : r19 = x65 := (el_same m64 m59 rfl).symm
    refine lv_if_ge (tgt := 65) hx hb dX12_readLine_60 (by decide) (fun c66 => ?_) (fun c66 => ?_)
    · have t67 : 0 ≤ r19.toInt := ti_le c66 (by decide) rfl
      refine lv_aload_n hx hb dX12_readLine_65 rfl (lv_at hl 1 rfl) ?_
      refine tw_get hx hb hts bF_X12 hown hK hT hr_o0 shm_0 rfl 19 (by decide) (ht_at hts 17 rfl) (fun _ h9 => h9) dX12_readLine_66 (fun v9 m68 h9 => ?_)
      obtain ⟨rfl, hg69⟩ := h9 _ rfl
      refine lv_iload_n hx hb dX12_readLine_69 rfl (lv_at hl 0 rfl) ?_
      refine tw_iald (i := x15) hx hb hK hT hg18 shm_20 rfl (vin_t (a := x15.toInt) rfl (by omega) (by omega)) dX12_readLine_70 (fun v9 m70 h9 => ?_)
      obtain ⟨x71, rfl, gx71, kx71⟩ := h9
      obtain rfl : r19 = x71 := (el_same m70 m59 rfl).symm
      refine lv_bipush (v := 7) hx hb dX12_readLine_71 (by decide) ?_
      refine lv_icmp_ne (tgt := 82) hx hb dX12_readLine_73 (by decide) (fun c72 => ?_) (fun c72 => ?_)
      · have t73 : r19.toInt ≠ 7 := ti_ne c72 rfl (by decide)
        refine lv_aload_n hx hb dX12_readLine_82 rfl (lv_at hl 1 rfl) ?_
        refine tw_get hx hb hts bF_X12 hown hK hT hr_o0 shm_0 rfl 19 (by decide) (ht_at hts 17 rfl) (fun _ h9 => h9) dX12_readLine_83 (fun v9 m74 h9 => ?_)
        obtain ⟨rfl, hg75⟩ := h9 _ rfl
        refine lv_iload_n hx hb dX12_readLine_86 rfl (lv_at hl 0 rfl) ?_
        refine tw_iald (i := x15) hx hb hK hT hg18 shm_20 rfl (vin_t (a := x15.toInt) rfl (by omega) (by omega)) dX12_readLine_87 (fun v9 m76 h9 => ?_)
        obtain ⟨x77, rfl, gx77, kx77⟩ := h9
        obtain rfl : r19 = x77 := (el_same m76 m59 rfl).symm
        refine lv_iconst (v := 5) hx hb dX12_readLine_88 (by decide) ?_
        refine lv_icmp_eq (tgt := 159) hx hb dX12_readLine_89 (by decide) (fun c78 => ?_) (fun c78 => ?_)
        · have t79 : r19.toInt = 5 := ti_eq c78 rfl (by decide)
          refine lv_aload_n hx hb dX12_readLine_159 rfl (lv_at hl 1 rfl) ?_
          refine tw_get hx hb hts bF_X12 hown hK hT hr_o0 shm_0 rfl 19 (by decide) (ht_at hts 17 rfl) (fun _ h9 => h9) dX12_readLine_160 (fun v9 m80 h9 => ?_)
          obtain ⟨rfl, hg81⟩ := h9 _ rfl
          refine lv_iload_n hx hb dX12_readLine_163 rfl (lv_at hl 0 rfl) ?_
          refine tw_iald (i := x15) hx hb hK hT hg18 shm_20 rfl (vin_t (a := x15.toInt) rfl (by omega) (by omega)) dX12_readLine_164 (fun v9 m82 h9 => ?_)
          obtain ⟨x83, rfl, gx83, kx83⟩ := h9
          obtain rfl : r19 = x83 := (el_same m82 m59 rfl).symm
          refine lv_bipush (v := 6) hx hb dX12_readLine_165 (by decide) ?_
          refine lv_icmp_le (tgt := 172) hx hb dX12_readLine_167 (by decide) (fun c84 => ?_) (fun c84 => (by exfalso; have q9 : 6 < r19.toInt := ti_nle c84 rfl (by decide); omega))
          have t85 : r19.toInt ≤ 6 := ti_le c84 rfl (by decide)
          refine lv_aload_n hx hb dX12_readLine_172 rfl (lv_at hl 1 rfl) ?_
          refine tw_ldcwS hx hb hown hE.s23 dX12_readLine_173 ?_
          have hFc := gA_free hG hA hS
          refine va_calli (va_runV (As := [.ref (adK 23)]) (rest := []) ⟨hx, hb, hml, hown, hts⟩ (s_passes l dC dI kA adK adV G H q wZ wN wH wB wC wL wK wU wV PI im PM PT (lD S0 lS) (lD (pset dB nl.toNatClampNeg (fun y => y = sv.toInt)) lB) (lD (pset dE nl.toNatClampNeg (fun y => y ≤ sv.toInt)) lE) lN o0 u3 en 23 hT hr_o0 m57 m55 (by have q8 := ti_all u3; omega) (by have q8 := ti_all en; omega) (by have := (show u3.toInt = u3.toInt from rfl); have := (show en.toInt = en.toInt from rfl); omega) (by first | omega | decide) hgz hgn hgh hgb hgc hgi hgu) (cwV 1 hts (goodIn_app (goodIn_r _ [64, 65, 66, 10] rfl (by decide +kernel)) (goodIn_ca (goodIn_r _ [63, 1, 2, 3, 4, 5, 6, 7, 8, 9, 10, 11, 12, 13, 14, 15, 16, 17, 20, 21, 22, 23, 24, 25, 26, 27, 28, 29, 30, 31, 32, 33, 34, 35, 36, 37, 38, 39, 40, 41, 42, 43, 44, 45, 46, 47, 48, 49, 50, 51, 52, 53, 54, 55] rfl (by decide +kernel)) (bs_in _ _))) rfl rfl rfl (by decide +kernel) ⟨(Nat.le_of_ble_eq_true rfl), (Nat.le_of_ble_eq_true rfl)⟩) ⟨fun a U g mk q => by obtain ⟨q0, q1, qK, qE⟩ := q; exact ⟨q0, q1, va_K.moved (u := U) (U := U.calling g mk a) (Vm.Alike.refl U.vm) qK, EVS.blind g mk a qE⟩, gH_rc hK hT hr_o0 shm_0 rfl, fun U hU hW => ⟨rfl, hU, va_K.moved hW.alike hK, hE.call hS hFc hU hW⟩⟩ rfl rfl hl.1 rfl (lv_room (Nat.le_of_ble_eq_true rfl)) dX12_readLine_176 ⟨(Nat.le_of_ble_eq_true rfl), (Nat.le_of_ble_eq_true rfl)⟩) hS (fun q _ h => hFc q h) hFc (fun r86 u t H locs ht hvm hw87 hB _ _ hS => ?_)
          obtain ⟨u88, u89⟩ := u
          obtain ⟨hT, hF1, m90, m91⟩ := hB
          rw [ht] at hT hF1 m90 m91
          have m92 := (hF1.fld hr_o0 skm_0 (k := 13) (by decide) (by decide)).trans m55
          have m93 := (hF1.fld hr_o0 skm_0 (k := 28) (by decide) (by decide)).trans m56
          have hF := hF.more hF1 (by decide)
          try dsimp only at hw87
          obtain ⟨h100, h101, h102, hi103, hf104⟩ := hw87
          refine lv_if_eq (tgt := 196) hx hb dX12_readLine_179 (by decide) (fun c105 => ?_) (fun c105 => ?_)
          · have t106 : r86.toInt = 0 := ti_eq c105 rfl (by decide)
            refine lv_aload_n hx hb dX12_readLine_196 rfl (lv_at hl 1 rfl) ?_
            refine tw_get hx hb hts bF_X12 hown hK hT hr_o0 shm_0 rfl 25 (by decide) (ht_at hts 60 rfl) (fun _ h9 => h9) dX12_readLine_197 (fun v9 m107 h9 => ?_)
            obtain ⟨rfl, hg108⟩ := h9 _ rfl
            refine lv_iload_n hx hb dX12_readLine_200 rfl (lv_at hl 0 rfl) ?_
            refine lv_aload_n hx hb dX12_readLine_201 rfl (lv_at hl 1 rfl) ?_
            refine tw_getM (v := .int sv) hx hb hts bF_X12 hown hK hT hr_o0 shm_0 rfl 28 (by decide) (ht_at hts 59 rfl) (fun _ h9 => h9) m93 dX12_readLine_202 ?_
            have t109 : ((x15.toNatClampNeg : Nat) : Int) = x15.toInt := tn_of (show x15.toInt = x15.toInt from rfl) (by omega)
            have t110 : ((nl.toNatClampNeg : Nat) : Int) = nl.toInt := tn_of rfl (by omega)
            refine tw_iast2 (Sg1 := (SHm q (wP wZ wN wH wB wC wL wK wU wV) PI im PM PT (lD S0 lS) (lD (pset dB nl.toNatClampNeg (fun y => y = sv.toInt)) lB) (lD (pset (pset dE nl.toNatClampNeg (fun y => y ≤ sv.toInt)) nl.toNatClampNeg (fun y => y ≤ sv.toInt)) lE) lN)) (i := x15) (x := sv) hx hb hK hT hG hS hg42 shm_26 rfl shm_26 shm_o26 (fun b9 h9 => hgu b9 25 h9) (vin_t (a := x15.toInt) rfl (by omega) (by omega)) (⟨_, rfl, lb_hv (n := nl.toNatClampNeg) (by omega) (by omega) (by have q8 := ti_all sv; omega) (Int.le_refl _)⟩) (fun k9 hk9 hne9 v9 hv9 he9 => by obtain ⟨x9, rfl, p9⟩ := he9; exact ⟨x9, rfl, lb_hm (n := nl.toNatClampNeg) hk9 (by omega) p9⟩) dX12_readLine_205 (fun H locs hT oq m111 oi hS => ?_)
            have hF := hF.ast hg42 skm_26 oq (by decide)
            have m113 := (el_kept (oq _ (gne hr_o0 hg42 (by decide)))).trans m93
            have m117 := (el_kept (oq _ (gne hr_o0 hg42 (by decide)))).trans m90
            have m118 := (el_kept (oq _ (gne hr_o0 hg42 (by decide)))).trans m91
            refine lv_iconst (v := 1) hx hb dX12_readLine_206 (by decide) ?_
            exact W.zret (v := 1) hx hb hr (by decide) (fun t ht hW => ⟨⟨1, (u88, u89, sv, S0, (pset dB nl.toNatClampNeg (fun y => y = sv.toInt)), (pset (pset dE nl.toNatClampNeg (fun y => y ≤ sv.toInt)) nl.toNatClampNeg (fun y => y ≤ sv.toInt))), rfl, (by exact ⟨(by have q8 := ti_all u88; omega), (by have q8 := ti_all u89; omega), (by have q8 := ti_all sv; omega), (rg_t (a := 1) (by decide) (by first | decide | omega) (by first | decide | omega)), (fun _ => ⟨lw_next1 hlw, by omega⟩), (by omega)⟩), by (try dsimp only); rw [ht]; exact ⟨hT, hF, m117, m118, m113⟩⟩, hS.F ht⟩) hS.2.2 dX12_readLine_207
          · have t119 : r86.toInt ≠ 0 := ti_ne c105 rfl (by decide)
            have t120 : u3.toInt + 1 ≤ u88.toInt := hi103 ((bit_of ⟨by omega, by omega⟩).resolve_left c105)
            refine lv_aload_n hx hb dX12_readLine_182 rfl (lv_at hl 1 rfl) ?_
            refine lv_iconst (v := 0) hx hb dX12_readLine_183 (by decide) ?_
            refine tw_put (v := .int 0) (ty := .int) hx hb hts bF_X12 tyX12 tyX12_ok nmX12 hown hK hT hG hS hr_o0 shm_0 rfl 15 (by decide) (ht_at hts 66 rfl) (fun _ h9 => h9) rfl (by decide +kernel) rfl rfl (gl_at rfl (gi_all _)) dX12_readLine_184 (fun H locs hT oq m121 oj hS => ?_)
            have hF := hF.put hr_o0 skm_0 oq oj (by decide)
            have m122 := (oj 13 (by decide) (by decide)).trans m92
            have m123 := (oj 28 (by decide) (by decide)).trans m93
            have m128 := (oj 12 (by decide) (by decide)).trans m90
            have hT : gH (dC, dI) kA (SHm q (wP wZ wN wH wB wC wL wK wU wV) PI im PM PT (lD (dS S0 sv.toInt sv.toInt (fun _ => 0)) lS) (lD (pset dB nl.toNatClampNeg (fun y => y = sv.toInt)) lB) (lD (pset dE nl.toNatClampNeg (fun y => y ≤ sv.toInt)) lE) lN) G H := SHm_mono hT (fun _ _ _ z => z) (fun _ _ _ z => z) (fun _ _ z => z) (fun _ _ z => z) (lD_m (fun _ _ q => ⟨q, fun a b => by omega⟩)) (fun _ _ _ _ z => z) (fun _ _ _ _ z => z) (fun _ => Int.le_refl _)
            refine lv_aload_n hx hb dX12_readLine_187 rfl (lv_at hl 1 rfl) ?_
            have hFc := gA_free hG hA hS
            refine va_calli (va_runV (As := []) (rest := []) ⟨hx, hb, hml, hown, hts⟩ (s_readCond0 l dC dI kA adK adV G H q wZ wN wH wB wC wL wK wU wV PI im PM PT lS (lD (pset dB nl.toNatClampNeg (fun y => y = sv.toInt)) lB) (lD (pset dE nl.toNatClampNeg (fun y => y ≤ sv.toInt)) lE) lN o0 u88 en sv 0 S0 sv.toInt (fun _ => 0) hT hr_o0 m128 m122 m123 m121 (by have q8 := ti_all u88; omega) (by have q8 := ti_all en; omega) (by have q8 := ti_all sv; omega) (by have := (show u88.toInt = u88.toInt from rfl); have := (show en.toInt = en.toInt from rfl); omega) (by have := (show sv.toInt = sv.toInt from rfl); have := (show u88.toInt = u88.toInt from rfl); omega) hlw.1 (by have := (show sv.toInt = sv.toInt from rfl); omega) ⟨fun i => by show (0 : Int) ≤ (i : Int); omega, rfl⟩ (Int.le_refl 0) (rg_t (a := 0) (by decide) (by first | decide | omega) (by first | decide | omega)) hgz hgn hgh hgb hgc hgi hgu) (cwV 0 hts (goodIn_app (goodIn_r _ [103, 104, 105, 10] rfl (by decide +kernel)) (goodIn_ca (goodIn_r _ [68, 69, 70, 71, 2, 3, 4, 5, 6, 7, 8, 9, 10, 11, 12, 13, 14, 72, 73, 74, 63, 1, 15, 16, 17, 20, 21, 22, 23, 24, 25, 26, 27, 28, 29, 30, 31, 32, 33, 34, 35, 36, 37, 38, 39, 40, 41, 42, 43, 44, 45, 46, 47, 48, 49, 50, 51, 52, 53, 54, 55, 64, 65, 66, 75, 76, 77, 78, 79, 80, 81, 82, 83, 60, 84, 85, 86, 87, 88, 89, 90, 91, 92, 93, 94, 95, 96, 67, 97, 98, 99, 68, 100, 101, 102, 103, 104, 105] rfl (by decide +kernel)) (bs_in _ _))) rfl rfl rfl (by decide +kernel) ⟨(Nat.le_of_ble_eq_true rfl), (Nat.le_of_ble_eq_true rfl)⟩) ⟨fun a U g mk q => by obtain ⟨q0, q1, qK, qE⟩ := q; exact ⟨q0, q1, va_K.moved (u := U) (U := U.calling g mk a) (Vm.Alike.refl U.vm) qK, EVS.blind g mk a qE⟩, gH_rc hK hT hr_o0 shm_0 rfl, fun U hU hW => ⟨rfl, hU, va_K.moved hW.alike hK, hE.call hS hFc hU hW⟩⟩ rfl rfl hl.1 rfl (lv_room (Nat.le_of_ble_eq_true rfl)) dX12_readLine_188 ⟨(Nat.le_of_ble_eq_true rfl), (Nat.le_of_ble_eq_true rfl)⟩) hS (fun q _ h => hFc q h) hFc (fun r130 u t H locs ht hvm hw131 hB _ _ hS => ?_)
            obtain ⟨u132, u133, u134, u135, u136⟩ := u
            obtain ⟨hT, hF1, m137, m138, m139, m140⟩ := hB
            rw [ht] at hT hF1 m137 m138 m139 m140
            have hF := hF.more hF1 (by decide)
            try dsimp only at hw131
            obtain ⟨h150, h151, h152, h153, hi154, hi155, hf156, hf157⟩ := hw131
            refine lv_if_ne (tgt := 196) hx hb dX12_readLine_191 (by decide) (fun c158 => ?_) (fun c158 => ?_)
            · have t159 : r130.toInt ≠ 0 := ti_ne c158 rfl (by decide)
              have t160 : u136 u134.toNatClampNeg = (fun _ => 0) sv.toNatClampNeg + 1 := hi154 ((bit_of ⟨by omega, by omega⟩).resolve_left c158)
              have t161 : u135.toInt = 0 := hi155 ((bit_of ⟨by omega, by omega⟩).resolve_left c158)
              refine lv_aload_n hx hb dX12_readLine_196 rfl (lv_at hl 1 rfl) ?_
              refine tw_get hx hb hts bF_X12 hown hK hT hr_o0 shm_0 rfl 25 (by decide) (ht_at hts 60 rfl) (fun _ h9 => h9) dX12_readLine_197 (fun v9 m162 h9 => ?_)
              obtain ⟨rfl, hg163⟩ := h9 _ rfl
              refine lv_iload_n hx hb dX12_readLine_200 rfl (lv_at hl 0 rfl) ?_
              refine lv_aload_n hx hb dX12_readLine_201 rfl (lv_at hl 1 rfl) ?_
              refine tw_getM (v := .int u134) hx hb hts bF_X12 hown hK hT hr_o0 shm_0 rfl 28 (by decide) (ht_at hts 59 rfl) (fun _ h9 => h9) m139 dX12_readLine_202 ?_
              have t164 : ((x15.toNatClampNeg : Nat) : Int) = x15.toInt := tn_of (show x15.toInt = x15.toInt from rfl) (by omega)
              have t165 : ((nl.toNatClampNeg : Nat) : Int) = nl.toInt := tn_of rfl (by omega)
              refine tw_iast2 (Sg1 := (SHm q (wP wZ wN wH wB wC wL wK wU wV) PI im PM PT (lD (dS S0 sv.toInt u134.toInt u136) lS) (lD (pset dB nl.toNatClampNeg (fun y => y = sv.toInt)) lB) (lD (pset (pset dE nl.toNatClampNeg (fun y => y ≤ sv.toInt)) nl.toNatClampNeg (fun y => y ≤ u134.toInt)) lE) lN)) (i := x15) (x := u134) hx hb hK hT hG hS hg42 shm_26 rfl shm_26 shm_o26 (fun b9 h9 => hgu b9 25 h9) (vin_t (a := x15.toInt) rfl (by omega) (by omega)) (⟨_, rfl, lb_hv (n := nl.toNatClampNeg) (by omega) (by omega) (by have q8 := ti_all u134; omega) (Int.le_refl _)⟩) (fun k9 hk9 hne9 v9 hv9 he9 => by obtain ⟨x9, rfl, p9⟩ := he9; exact ⟨x9, rfl, lb_hm (n := nl.toNatClampNeg) hk9 (by omega) p9⟩) dX12_readLine_205 (fun H locs hT oq m166 oi hS => ?_)
              have hF := hF.ast hg42 skm_26 oq (by decide)
              have m171 := (el_kept (oq _ (gne hr_o0 hg42 (by decide)))).trans m137
              have m172 := (el_kept (oq _ (gne hr_o0 hg42 (by decide)))).trans m138
              have m173 := (el_kept (oq _ (gne hr_o0 hg42 (by decide)))).trans m139
              refine lv_iconst (v := 1) hx hb dX12_readLine_206 (by decide) ?_
              exact W.zret (v := 1) hx hb hr (by decide) (fun t ht hW => ⟨⟨1, (u132, u133, u134, (dS S0 sv.toInt u134.toInt u136), (pset dB nl.toNatClampNeg (fun y => y = sv.toInt)), (pset (pset dE nl.toNatClampNeg (fun y => y ≤ sv.toInt)) nl.toNatClampNeg (fun y => y ≤ u134.toInt))), rfl, (by exact ⟨(by have q8 := ti_all u132; omega), (by have q8 := ti_all u133; omega), (by have q8 := ti_all u134; omega), (rg_t (a := 1) (by decide) (by first | decide | omega) (by first | decide | omega)), (fun _ => ⟨lw_next hlw hf157 (by omega), by omega⟩), (by omega)⟩), by (try dsimp only); rw [ht]; exact ⟨hT, hF, m171, m172, m173⟩⟩, hS.F ht⟩) hS.2.2 dX12_readLine_207
            · have t175 : r130.toInt = 0 := ti_eq c158 rfl (by decide)
              refine lv_iconst (v := 0) hx hb dX12_readLine_194 (by decide) ?_
              exact W.zret (v := 0) hx hb hr (by decide) (fun t ht hW => ⟨⟨0, (u132, u133, u134, (dS S0 sv.toInt u134.toInt u136), (pset dB nl.toNatClampNeg (fun y => y = sv.toInt)), (pset dE nl.toNatClampNeg (fun y => y ≤ sv.toInt))), rfl, (by exact ⟨(by have q8 := ti_all u132; omega), (by have q8 := ti_all u133; omega), (by have q8 := ti_all u134; omega), (rg_t (a := 0) (by decide) (by first | decide | omega) (by first | decide | omega)), (fun h => absurd h (by decide)), (by omega)⟩), by (try dsimp only); rw [ht]; exact ⟨hT, hF, m137, m138, m139⟩⟩, hS.F ht⟩) hS.2.2 dX12_readLine_195
        · have t176 : r19.toInt ≠ 5 := ti_ne c78 rfl (by decide)
          refine lv_aload_n hx hb dX12_readLine_92 rfl (lv_at hl 1 rfl) ?_
          refine tw_get hx hb hts bF_X12 hown hK hT hr_o0 shm_0 rfl 19 (by decide) (ht_at hts 17 rfl) (fun _ h9 => h9) dX12_readLine_93 (fun v9 m177 h9 => ?_)
          obtain ⟨rfl, hg178⟩ := h9 _ rfl
          refine lv_iload_n hx hb dX12_readLine_96 rfl (lv_at hl 0 rfl) ?_
          refine tw_iald (i := x15) hx hb hK hT hg18 shm_20 rfl (vin_t (a := x15.toInt) rfl (by omega) (by omega)) dX12_readLine_97 (fun v9 m179 h9 => ?_)
          obtain ⟨x180, rfl, gx180, kx180⟩ := h9
          obtain rfl : r19 = x180 := (el_same m179 m59 rfl).symm
          refine lv_bipush (v := 6) hx hb dX12_readLine_98 (by decide) ?_
          refine lv_icmp_eq (tgt := 159) hx hb dX12_readLine_100 (by decide) (fun c181 => ?_) (fun c181 => ?_)
          · have t182 : r19.toInt = 6 := ti_eq c181 rfl (by decide)
            refine lv_aload_n hx hb dX12_readLine_159 rfl (lv_at hl 1 rfl) ?_
            refine tw_get hx hb hts bF_X12 hown hK hT hr_o0 shm_0 rfl 19 (by decide) (ht_at hts 17 rfl) (fun _ h9 => h9) dX12_readLine_160 (fun v9 m183 h9 => ?_)
            obtain ⟨rfl, hg184⟩ := h9 _ rfl
            refine lv_iload_n hx hb dX12_readLine_163 rfl (lv_at hl 0 rfl) ?_
            refine tw_iald (i := x15) hx hb hK hT hg18 shm_20 rfl (vin_t (a := x15.toInt) rfl (by omega) (by omega)) dX12_readLine_164 (fun v9 m185 h9 => ?_)
            obtain ⟨x186, rfl, gx186, kx186⟩ := h9
            obtain rfl : r19 = x186 := (el_same m185 m59 rfl).symm
            refine lv_bipush (v := 6) hx hb dX12_readLine_165 (by decide) ?_
            refine lv_icmp_le (tgt := 172) hx hb dX12_readLine_167 (by decide) (fun c187 => ?_) (fun c187 => (by exfalso; have q9 : 6 < r19.toInt := ti_nle c187 rfl (by decide); omega))
            have t188 : r19.toInt ≤ 6 := ti_le c187 rfl (by decide)
            refine lv_aload_n hx hb dX12_readLine_172 rfl (lv_at hl 1 rfl) ?_
            refine tw_ldcwS hx hb hown hE.s23 dX12_readLine_173 ?_
            have hFc := gA_free hG hA hS
            refine va_calli (va_runV (As := [.ref (adK 23)]) (rest := []) ⟨hx, hb, hml, hown, hts⟩ (s_passes l dC dI kA adK adV G H q wZ wN wH wB wC wL wK wU wV PI im PM PT (lD S0 lS) (lD (pset dB nl.toNatClampNeg (fun y => y = sv.toInt)) lB) (lD (pset dE nl.toNatClampNeg (fun y => y ≤ sv.toInt)) lE) lN o0 u3 en 23 hT hr_o0 m57 m55 (by have q8 := ti_all u3; omega) (by have q8 := ti_all en; omega) (by have := (show u3.toInt = u3.toInt from rfl); have := (show en.toInt = en.toInt from rfl); omega) (by first | omega | decide) hgz hgn hgh hgb hgc hgi hgu) (cwV 1 hts (goodIn_app (goodIn_r _ [64, 65, 66, 10] rfl (by decide +kernel)) (goodIn_ca (goodIn_r _ [63, 1, 2, 3, 4, 5, 6, 7, 8, 9, 10, 11, 12, 13, 14, 15, 16, 17, 20, 21, 22, 23, 24, 25, 26, 27, 28, 29, 30, 31, 32, 33, 34, 35, 36, 37, 38, 39, 40, 41, 42, 43, 44, 45, 46, 47, 48, 49, 50, 51, 52, 53, 54, 55] rfl (by decide +kernel)) (bs_in _ _))) rfl rfl rfl (by decide +kernel) ⟨(Nat.le_of_ble_eq_true rfl), (Nat.le_of_ble_eq_true rfl)⟩) ⟨fun a U g mk q => by obtain ⟨q0, q1, qK, qE⟩ := q; exact ⟨q0, q1, va_K.moved (u := U) (U := U.calling g mk a) (Vm.Alike.refl U.vm) qK, EVS.blind g mk a qE⟩, gH_rc hK hT hr_o0 shm_0 rfl, fun U hU hW => ⟨rfl, hU, va_K.moved hW.alike hK, hE.call hS hFc hU hW⟩⟩ rfl rfl hl.1 rfl (lv_room (Nat.le_of_ble_eq_true rfl)) dX12_readLine_176 ⟨(Nat.le_of_ble_eq_true rfl), (Nat.le_of_ble_eq_true rfl)⟩) hS (fun q _ h => hFc q h) hFc (fun r189 u t H locs ht hvm hw190 hB _ _ hS => ?_)
            obtain ⟨u191, u192⟩ := u
            obtain ⟨hT, hF1, m193, m194⟩ := hB
            rw [ht] at hT hF1 m193 m194
            have m195 := (hF1.fld hr_o0 skm_0 (k := 13) (by decide) (by decide)).trans m55
            have m196 := (hF1.fld hr_o0 skm_0 (k := 28) (by decide) (by decide)).trans m56
            have hF := hF.more hF1 (by decide)
            try dsimp only at hw190
            obtain ⟨h203, h204, h205, hi206, hf207⟩ := hw190
            refine lv_if_eq (tgt := 196) hx hb dX12_readLine_179 (by decide) (fun c208 => ?_) (fun c208 => ?_)
            · have t209 : r189.toInt = 0 := ti_eq c208 rfl (by decide)
              refine lv_aload_n hx hb dX12_readLine_196 rfl (lv_at hl 1 rfl) ?_
              refine tw_get hx hb hts bF_X12 hown hK hT hr_o0 shm_0 rfl 25 (by decide) (ht_at hts 60 rfl) (fun _ h9 => h9) dX12_readLine_197 (fun v9 m210 h9 => ?_)
              obtain ⟨rfl, hg211⟩ := h9 _ rfl
              refine lv_iload_n hx hb dX12_readLine_200 rfl (lv_at hl 0 rfl) ?_
              refine lv_aload_n hx hb dX12_readLine_201 rfl (lv_at hl 1 rfl) ?_
              refine tw_getM (v := .int sv) hx hb hts bF_X12 hown hK hT hr_o0 shm_0 rfl 28 (by decide) (ht_at hts 59 rfl) (fun _ h9 => h9) m196 dX12_readLine_202 ?_
              have t212 : ((x15.toNatClampNeg : Nat) : Int) = x15.toInt := tn_of (show x15.toInt = x15.toInt from rfl) (by omega)
              have t213 : ((nl.toNatClampNeg : Nat) : Int) = nl.toInt := tn_of rfl (by omega)
              refine tw_iast2 (Sg1 := (SHm q (wP wZ wN wH wB wC wL wK wU wV) PI im PM PT (lD S0 lS) (lD (pset dB nl.toNatClampNeg (fun y => y = sv.toInt)) lB) (lD (pset (pset dE nl.toNatClampNeg (fun y => y ≤ sv.toInt)) nl.toNatClampNeg (fun y => y ≤ sv.toInt)) lE) lN)) (i := x15) (x := sv) hx hb hK hT hG hS hg42 shm_26 rfl shm_26 shm_o26 (fun b9 h9 => hgu b9 25 h9) (vin_t (a := x15.toInt) rfl (by omega) (by omega)) (⟨_, rfl, lb_hv (n := nl.toNatClampNeg) (by omega) (by omega) (by have q8 := ti_all sv; omega) (Int.le_refl _)⟩) (fun k9 hk9 hne9 v9 hv9 he9 => by obtain ⟨x9, rfl, p9⟩ := he9; exact ⟨x9, rfl, lb_hm (n := nl.toNatClampNeg) hk9 (by omega) p9⟩) dX12_readLine_205 (fun H locs hT oq m214 oi hS => ?_)
              have hF := hF.ast hg42 skm_26 oq (by decide)
              have m216 := (el_kept (oq _ (gne hr_o0 hg42 (by decide)))).trans m196
              have m220 := (el_kept (oq _ (gne hr_o0 hg42 (by decide)))).trans m193
              have m221 := (el_kept (oq _ (gne hr_o0 hg42 (by decide)))).trans m194
              refine lv_iconst (v := 1) hx hb dX12_readLine_206 (by decide) ?_
              exact W.zret (v := 1) hx hb hr (by decide) (fun t ht hW => ⟨⟨1, (u191, u192, sv, S0, (pset dB nl.toNatClampNeg (fun y => y = sv.toInt)), (pset (pset dE nl.toNatClampNeg (fun y => y ≤ sv.toInt)) nl.toNatClampNeg (fun y => y ≤ sv.toInt))), rfl, (by exact ⟨(by have q8 := ti_all u191; omega), (by have q8 := ti_all u192; omega), (by have q8 := ti_all sv; omega), (rg_t (a := 1) (by decide) (by first | decide | omega) (by first | decide | omega)), (fun _ => ⟨lw_next1 hlw, by omega⟩), (by omega)⟩), by (try dsimp only); rw [ht]; exact ⟨hT, hF, m220, m221, m216⟩⟩, hS.F ht⟩) hS.2.2 dX12_readLine_207
            · have t222 : r189.toInt ≠ 0 := ti_ne c208 rfl (by decide)
              have t223 : u3.toInt + 1 ≤ u191.toInt := hi206 ((bit_of ⟨by omega, by omega⟩).resolve_left c208)
              refine lv_aload_n hx hb dX12_readLine_182 rfl (lv_at hl 1 rfl) ?_
              refine lv_iconst (v := 0) hx hb dX12_readLine_183 (by decide) ?_
              refine tw_put (v := .int 0) (ty := .int) hx hb hts bF_X12 tyX12 tyX12_ok nmX12 hown hK hT hG hS hr_o0 shm_0 rfl 15 (by decide) (ht_at hts 66 rfl) (fun _ h9 => h9) rfl (by decide +kernel) rfl rfl (gl_at rfl (gi_all _)) dX12_readLine_184 (fun H locs hT oq m224 oj hS => ?_)
              have hF := hF.put hr_o0 skm_0 oq oj (by decide)
              have m225 := (oj 13 (by decide) (by decide)).trans m195
              have m226 := (oj 28 (by decide) (by decide)).trans m196
              have m231 := (oj 12 (by decide) (by decide)).trans m193
              have hT : gH (dC, dI) kA (SHm q (wP wZ wN wH wB wC wL wK wU wV) PI im PM PT (lD (dS S0 sv.toInt sv.toInt (fun _ => 0)) lS) (lD (pset dB nl.toNatClampNeg (fun y => y = sv.toInt)) lB) (lD (pset dE nl.toNatClampNeg (fun y => y ≤ sv.toInt)) lE) lN) G H := SHm_mono hT (fun _ _ _ z => z) (fun _ _ _ z => z) (fun _ _ z => z) (fun _ _ z => z) (lD_m (fun _ _ q => ⟨q, fun a b => by omega⟩)) (fun _ _ _ _ z => z) (fun _ _ _ _ z => z) (fun _ => Int.le_refl _)
              refine lv_aload_n hx hb dX12_readLine_187 rfl (lv_at hl 1 rfl) ?_
              have hFc := gA_free hG hA hS
              refine va_calli (va_runV (As := []) (rest := []) ⟨hx, hb, hml, hown, hts⟩ (s_readCond0 l dC dI kA adK adV G H q wZ wN wH wB wC wL wK wU wV PI im PM PT lS (lD (pset dB nl.toNatClampNeg (fun y => y = sv.toInt)) lB) (lD (pset dE nl.toNatClampNeg (fun y => y ≤ sv.toInt)) lE) lN o0 u191 en sv 0 S0 sv.toInt (fun _ => 0) hT hr_o0 m231 m225 m226 m224 (by have q8 := ti_all u191; omega) (by have q8 := ti_all en; omega) (by have q8 := ti_all sv; omega) (by have := (show u191.toInt = u191.toInt from rfl); have := (show en.toInt = en.toInt from rfl); omega) (by have := (show sv.toInt = sv.toInt from rfl); have := (show u191.toInt = u191.toInt from rfl); omega) hlw.1 (by have := (show sv.toInt = sv.toInt from rfl); omega) ⟨fun i => by show (0 : Int) ≤ (i : Int); omega, rfl⟩ (Int.le_refl 0) (rg_t (a := 0) (by decide) (by first | decide | omega) (by first | decide | omega)) hgz hgn hgh hgb hgc hgi hgu) (cwV 0 hts (goodIn_app (goodIn_r _ [103, 104, 105, 10] rfl (by decide +kernel)) (goodIn_ca (goodIn_r _ [68, 69, 70, 71, 2, 3, 4, 5, 6, 7, 8, 9, 10, 11, 12, 13, 14, 72, 73, 74, 63, 1, 15, 16, 17, 20, 21, 22, 23, 24, 25, 26, 27, 28, 29, 30, 31, 32, 33, 34, 35, 36, 37, 38, 39, 40, 41, 42, 43, 44, 45, 46, 47, 48, 49, 50, 51, 52, 53, 54, 55, 64, 65, 66, 75, 76, 77, 78, 79, 80, 81, 82, 83, 60, 84, 85, 86, 87, 88, 89, 90, 91, 92, 93, 94, 95, 96, 67, 97, 98, 99, 68, 100, 101, 102, 103, 104, 105] rfl (by decide +kernel)) (bs_in _ _))) rfl rfl rfl (by decide +kernel) ⟨(Nat.le_of_ble_eq_true rfl), (Nat.le_of_ble_eq_true rfl)⟩) ⟨fun a U g mk q => by obtain ⟨q0, q1, qK, qE⟩ := q; exact ⟨q0, q1, va_K.moved (u := U) (U := U.calling g mk a) (Vm.Alike.refl U.vm) qK, EVS.blind g mk a qE⟩, gH_rc hK hT hr_o0 shm_0 rfl, fun U hU hW => ⟨rfl, hU, va_K.moved hW.alike hK, hE.call hS hFc hU hW⟩⟩ rfl rfl hl.1 rfl (lv_room (Nat.le_of_ble_eq_true rfl)) dX12_readLine_188 ⟨(Nat.le_of_ble_eq_true rfl), (Nat.le_of_ble_eq_true rfl)⟩) hS (fun q _ h => hFc q h) hFc (fun r233 u t H locs ht hvm hw234 hB _ _ hS => ?_)
              obtain ⟨u235, u236, u237, u238, u239⟩ := u
              obtain ⟨hT, hF1, m240, m241, m242, m243⟩ := hB
              rw [ht] at hT hF1 m240 m241 m242 m243
              have hF := hF.more hF1 (by decide)
              try dsimp only at hw234
              obtain ⟨h253, h254, h255, h256, hi257, hi258, hf259, hf260⟩ := hw234
              refine lv_if_ne (tgt := 196) hx hb dX12_readLine_191 (by decide) (fun c261 => ?_) (fun c261 => ?_)
              · have t262 : r233.toInt ≠ 0 := ti_ne c261 rfl (by decide)
                have t263 : u239 u237.toNatClampNeg = (fun _ => 0) sv.toNatClampNeg + 1 := hi257 ((bit_of ⟨by omega, by omega⟩).resolve_left c261)
                have t264 : u238.toInt = 0 := hi258 ((bit_of ⟨by omega, by omega⟩).resolve_left c261)
                refine lv_aload_n hx hb dX12_readLine_196 rfl (lv_at hl 1 rfl) ?_
                refine tw_get hx hb hts bF_X12 hown hK hT hr_o0 shm_0 rfl 25 (by decide) (ht_at hts 60 rfl) (fun _ h9 => h9) dX12_readLine_197 (fun v9 m265 h9 => ?_)
                obtain ⟨rfl, hg266⟩ := h9 _ rfl
                refine lv_iload_n hx hb dX12_readLine_200 rfl (lv_at hl 0 rfl) ?_
                refine lv_aload_n hx hb dX12_readLine_201 rfl (lv_at hl 1 rfl) ?_
                refine tw_getM (v := .int u237) hx hb hts bF_X12 hown hK hT hr_o0 shm_0 rfl 28 (by decide) (ht_at hts 59 rfl) (fun _ h9 => h9) m242 dX12_readLine_202 ?_
                have t267 : ((x15.toNatClampNeg : Nat) : Int) = x15.toInt := tn_of (show x15.toInt = x15.toInt from rfl) (by omega)
                have t268 : ((nl.toNatClampNeg : Nat) : Int) = nl.toInt := tn_of rfl (by omega)
                refine tw_iast2 (Sg1 := (SHm q (wP wZ wN wH wB wC wL wK wU wV) PI im PM PT (lD (dS S0 sv.toInt u237.toInt u239) lS) (lD (pset dB nl.toNatClampNeg (fun y => y = sv.toInt)) lB) (lD (pset (pset dE nl.toNatClampNeg (fun y => y ≤ sv.toInt)) nl.toNatClampNeg (fun y => y ≤ u237.toInt)) lE) lN)) (i := x15) (x := u237) hx hb hK hT hG hS hg42 shm_26 rfl shm_26 shm_o26 (fun b9 h9 => hgu b9 25 h9) (vin_t (a := x15.toInt) rfl (by omega) (by omega)) (⟨_, rfl, lb_hv (n := nl.toNatClampNeg) (by omega) (by omega) (by have q8 := ti_all u237; omega) (Int.le_refl _)⟩) (fun k9 hk9 hne9 v9 hv9 he9 => by obtain ⟨x9, rfl, p9⟩ := he9; exact ⟨x9, rfl, lb_hm (n := nl.toNatClampNeg) hk9 (by omega) p9⟩) dX12_readLine_205 (fun H locs hT oq m269 oi hS => ?_)
                have hF := hF.ast hg42 skm_26 oq (by decide)
                have m274 := (el_kept (oq _ (gne hr_o0 hg42 (by decide)))).trans m240
                have m275 := (el_kept (oq _ (gne hr_o0 hg42 (by decide)))).trans m241
                have m276 := (el_kept (oq _ (gne hr_o0 hg42 (by decide)))).trans m242
                refine lv_iconst (v := 1) hx hb dX12_readLine_206 (by decide) ?_
                exact W.zret (v := 1) hx hb hr (by decide) (fun t ht hW => ⟨⟨1, (u235, u236, u237, (dS S0 sv.toInt u237.toInt u239), (pset dB nl.toNatClampNeg (fun y => y = sv.toInt)), (pset (pset dE nl.toNatClampNeg (fun y => y ≤ sv.toInt)) nl.toNatClampNeg (fun y => y ≤ u237.toInt))), rfl, (by exact ⟨(by have q8 := ti_all u235; omega), (by have q8 := ti_all u236; omega), (by have q8 := ti_all u237; omega), (rg_t (a := 1) (by decide) (by first | decide | omega) (by first | decide | omega)), (fun _ => ⟨lw_next hlw hf260 (by omega), by omega⟩), (by omega)⟩), by (try dsimp only); rw [ht]; exact ⟨hT, hF, m274, m275, m276⟩⟩, hS.F ht⟩) hS.2.2 dX12_readLine_207
              · have t278 : r233.toInt = 0 := ti_eq c261 rfl (by decide)
                refine lv_iconst (v := 0) hx hb dX12_readLine_194 (by decide) ?_
                exact W.zret (v := 0) hx hb hr (by decide) (fun t ht hW => ⟨⟨0, (u235, u236, u237, (dS S0 sv.toInt u237.toInt u239), (pset dB nl.toNatClampNeg (fun y => y = sv.toInt)), (pset dE nl.toNatClampNeg (fun y => y ≤ sv.toInt))), rfl, (by exact ⟨(by have q8 := ti_all u235; omega), (by have q8 := ti_all u236; omega), (by have q8 := ti_all u237; omega), (rg_t (a := 0) (by decide) (by first | decide | omega) (by first | decide | omega)), (fun h => absurd h (by decide)), (by omega)⟩), by (try dsimp only); rw [ht]; exact ⟨hT, hF, m240, m241, m242⟩⟩, hS.F ht⟩) hS.2.2 dX12_readLine_195
          · have t279 : r19.toInt ≠ 6 := ti_ne c181 rfl (by decide)
            refine lv_aload_n hx hb dX12_readLine_103 rfl (lv_at hl 1 rfl) ?_
            refine tw_get hx hb hts bF_X12 hown hK hT hr_o0 shm_0 rfl 20 (by decide) (ht_at hts 61 rfl) (fun _ h9 => h9) dX12_readLine_104 (fun v9 m280 h9 => ?_)
            obtain ⟨rfl, hg281⟩ := h9 _ rfl
            refine lv_iload_n hx hb dX12_readLine_107 rfl (lv_at hl 0 rfl) ?_
            refine lv_aload_n hx hb dX12_readLine_108 rfl (lv_at hl 1 rfl) ?_
            refine lv_aload_n hx hb dX12_readLine_109 rfl (lv_at hl 1 rfl) ?_
            refine tw_get hx hb hts bF_X12 hown hK hT hr_o0 shm_0 rfl 19 (by decide) (ht_at hts 17 rfl) (fun _ h9 => h9) dX12_readLine_110 (fun v9 m282 h9 => ?_)
            obtain ⟨rfl, hg283⟩ := h9 _ rfl
            refine lv_iload_n hx hb dX12_readLine_113 rfl (lv_at hl 0 rfl) ?_
            refine tw_iald (i := x15) hx hb hK hT hg18 shm_20 rfl (vin_t (a := x15.toInt) rfl (by omega) (by omega)) dX12_readLine_114 (fun v9 m284 h9 => ?_)
            obtain ⟨x285, rfl, gx285, kx285⟩ := h9
            obtain rfl : r19 = x285 := (el_same m284 m59 rfl).symm
            refine lv_bipush (v := 8) hx hb dX12_readLine_115 (by decide) ?_
            have jn303 : ∀ (z293 : Int32), ((18 ≤ z293.toInt ∧ z293.toInt ≤ 99999)) → ∀ (H : Heap) (locs : List Loc), gH (dC, dI) kA (SHm q (wP wZ wN wH wB wC wL wK wU wV) PI im PM PT (lD S0 lS) (lD (pset dB nl.toNatClampNeg (fun y => y = sv.toInt)) lB) (lD (pset dE nl.toNatClampNeg (fun y => y ≤ sv.toInt)) lE) lN) G H → gF (dC, dI) SKm G ([(0, 12), (0, 14), (0, 15), (0, 28), (20, 0), (21, 0), (22, 0), (23, 0), (24, 0), (25, 0), (26, 0), (27, 0), (28, 0)] : List (Nat × Nat)) s.heap H → va_S A s.heap H locs → el H o0 (dI 15 13) = some (.int en) → el H o0 (dI 15 28) = some (.int sv) → el H o0 (dI 15 12) = some (.int u3) → el H o0 (dI 15 14) = some (.int u4) → el H (q 19) x15.toNatClampNeg = some (.int r19) → el H (q 24) x15.toNatClampNeg = some (.int sv) → el H (q 25) x15.toNatClampNeg = some (.int sv) → el H (q 20) x15.toNatClampNeg = some (.int 0) → ∀ ls : Array Slot, lv_has ls 3 [(2, .int x15), (0, .ref o0), (1, .int nl)] → W p l e (headSpec w_s_readLine ({ frames := 28, cells := 0, slots := 0, locals := 576 })).room s m #[.ref o0, .int nl] below meth c H locs 0 0 (MQ below (va_Qi (fun (r : Int32) (u : Int32 × Int32 × Int32 × (Nat → Int → Prop) × (Nat → Int → Prop) × (Nat → Int → Prop)) => match u with | (p1, b1, s1, S1, dB1, dE1) => (0 ≤ p1.toInt ∧ p1.toInt ≤ 400) ∧ (0 ≤ b1.toInt ∧ b1.toInt ≤ 400) ∧ (0 ≤ s1.toInt ∧ s1.toInt ≤ 400) ∧ (0 ≤ r.toInt ∧ r.toInt ≤ 1) ∧ (r = 1 → lwOK S1 dB1 dE1 (nl.toNatClampNeg + 1) s1.toInt ∧ nl.toInt < 20) ∧ (pt.toInt ≤ p1.toInt ∧ p1.toInt ≤ en.toInt ∧ sv.toInt ≤ s1.toInt ∧ s1.toInt - sv.toInt ≤ p1.toInt - pt.toInt)) (fun (u : Int32 × Int32 × Int32 × (Nat → Int → Prop) × (Nat → Int → Prop) × (Nat → Int → Prop)) (t : State) => match u with | (p1, b1, s1, S1, dB1, dE1) => gH (dC, dI) kA (SHm q (wP wZ wN wH wB wC wL wK wU wV) PI im PM PT (lD S1 lS) (lD dB1 lB) (lD dE1 lE) lN) G t.heap ∧ gF (dC, dI) SKm G ([(0, 12), (0, 14), (0, 15), (0, 28), (20, 0), (21, 0), (22, 0), (23, 0), (24, 0), (25, 0), (26, 0), (27, 0), (28, 0)] : List (Nat × Nat)) s.heap t.heap ∧ el t.heap o0 (dI 15 12) = some (.int p1) ∧ el t.heap o0 (dI 15 14) = some (.int b1) ∧ el t.heap o0 (dI 15 28) = some (.int s1)) A) #[.ref o0, .int nl] s 0 0 A) (F0 m 144 ls [.int z293, .ref o0, .int x15, .ref (q 20)]) := by
              intro z293 h294 H locs hT hF hS m295 m296 m297 m298 m299 m300 m301 m302 ls hl
              have hFc := gA_free hG hA hS
              refine va_calli (va_runV (As := [.int z293]) (rest := [.int x15, .ref (q 20)]) ⟨hx, hb, hml, hown, hts⟩ (s_number l dC dI kA adK adV G H q wZ wN wH wB wC wL wK wU wV PI im PM PT (lD S0 lS) (lD (pset dB nl.toNatClampNeg (fun y => y = sv.toInt)) lB) (lD (pset dE nl.toNatClampNeg (fun y => y ≤ sv.toInt)) lE) lN o0 z293 u3 en hT hr_o0 m297 m295 (by have q8 := ti_all u3; omega) (by have q8 := ti_all en; omega) (by have := (show u3.toInt = u3.toInt from rfl); have := (show en.toInt = en.toInt from rfl); omega) hgz hgn hgh hgb hgc hgi hgu) (cwV 1 hts (goodIn_app (goodIn_r _ [79, 80, 81, 10] rfl (by decide +kernel)) (goodIn_ca (goodIn_r _ [78, 2, 3, 4, 5, 6, 7, 8, 9, 10, 11, 12, 13, 14] rfl (by decide +kernel)) (bs_in _ _))) rfl rfl rfl (by decide +kernel) ⟨(Nat.le_of_ble_eq_true rfl), (Nat.le_of_ble_eq_true rfl)⟩) ⟨fun a U g mk q => by obtain ⟨q0, q1, qK, qE⟩ := q; exact ⟨q0, q1, va_K.moved (u := U) (U := U.calling g mk a) (Vm.Alike.refl U.vm) qK, EVS.blind g mk a qE⟩, gH_rc hK hT hr_o0 shm_0 rfl, fun U hU hW => ⟨rfl, hU, va_K.moved hW.alike hK, hE.call hS hFc hU hW⟩⟩ rfl rfl hl.1 rfl (lv_room (Nat.le_of_ble_eq_true rfl)) dX12_readLine_144 ⟨(Nat.le_of_ble_eq_true rfl), (Nat.le_of_ble_eq_true rfl)⟩) hS (fun q _ h => hFc q h) hFc (fun r304 u t H locs ht hvm hw305 hB _ _ hS => ?_)
              obtain ⟨u306, u307⟩ := u
              obtain ⟨hT, hF1, m308, m309⟩ := hB
              rw [ht] at hT hF1 m308 m309
              have m310 := (hF1.fld hr_o0 skm_0 (k := 13) (by decide) (by decide)).trans m295
              have m311 := (hF1.fld hr_o0 skm_0 (k := 28) (by decide) (by decide)).trans m296
              have m314 := (el_kept (hF1.arr hg18 skm_20 (by decide))).trans m299
              have hF := hF.more hF1 (by decide)
              try dsimp only at hw305
              obtain ⟨h318, h319, hf320⟩ := hw305
              refine tw_iast (i := x15) (x := r304) hx hb hK hT hG hS hg53 shm_21 rfl (vin_t (a := x15.toInt) rfl (by omega) (by omega)) (gi_all _) dX12_readLine_147 (fun H locs hT oq m321 oi hS => ?_)
              have hF := hF.ast hg53 skm_21 oq (by decide)
              have m322 := (el_kept (oq _ (gne hr_o0 hg53 (by decide)))).trans m310
              have m323 := (el_kept (oq _ (gne hr_o0 hg53 (by decide)))).trans m311
              have m324 := (el_kept (oq _ (gne hg18 hg53 (by decide)))).trans m314
              have m327 := (el_kept (oq _ (gne hr_o0 hg53 (by decide)))).trans m308
              have m328 := (el_kept (oq _ (gne hr_o0 hg53 (by decide)))).trans m309
              refine lv_aload_n hx hb dX12_readLine_148 rfl (lv_at hl 1 rfl) ?_
              refine tw_get hx hb hts bF_X12 hown hK hT hr_o0 shm_0 rfl 20 (by decide) (ht_at hts 61 rfl) (fun _ h9 => h9) dX12_readLine_149 (fun v9 m329 h9 => ?_)
              obtain ⟨rfl, hg330⟩ := h9 _ rfl
              refine lv_iload_n hx hb dX12_readLine_152 rfl (lv_at hl 0 rfl) ?_
              refine tw_iald (i := x15) hx hb hK hT hg53 shm_21 rfl (vin_t (a := x15.toInt) rfl (by omega) (by omega)) dX12_readLine_153 (fun v9 m331 h9 => ?_)
              obtain ⟨x332, rfl, gx332, kx332⟩ := h9
              obtain rfl : r304 = x332 := (el_same m331 m321 rfl).symm
              refine lv_if_ge (tgt := 159) hx hb dX12_readLine_154 (by decide) (fun c333 => ?_) (fun c333 => ?_)
              · have t334 : 0 ≤ r304.toInt := ti_le c333 (by decide) rfl
                refine lv_aload_n hx hb dX12_readLine_159 rfl (lv_at hl 1 rfl) ?_
                refine tw_get hx hb hts bF_X12 hown hK hT hr_o0 shm_0 rfl 19 (by decide) (ht_at hts 17 rfl) (fun _ h9 => h9) dX12_readLine_160 (fun v9 m335 h9 => ?_)
                obtain ⟨rfl, hg336⟩ := h9 _ rfl
                refine lv_iload_n hx hb dX12_readLine_163 rfl (lv_at hl 0 rfl) ?_
                refine tw_iald (i := x15) hx hb hK hT hg18 shm_20 rfl (vin_t (a := x15.toInt) rfl (by omega) (by omega)) dX12_readLine_164 (fun v9 m337 h9 => ?_)
                obtain ⟨x338, rfl, gx338, kx338⟩ := h9
                obtain rfl : r19 = x338 := (el_same m337 m324 rfl).symm
                refine lv_bipush (v := 6) hx hb dX12_readLine_165 (by decide) ?_
                refine lv_icmp_le (tgt := 172) hx hb dX12_readLine_167 (by decide) (fun c339 => ?_) (fun c339 => ?_)
                · have t340 : r19.toInt ≤ 6 := ti_le c339 rfl (by decide)
                  refine lv_aload_n hx hb dX12_readLine_172 rfl (lv_at hl 1 rfl) ?_
                  refine tw_ldcwS hx hb hown hE.s23 dX12_readLine_173 ?_
                  have hFc := gA_free hG hA hS
                  refine va_calli (va_runV (As := [.ref (adK 23)]) (rest := []) ⟨hx, hb, hml, hown, hts⟩ (s_passes l dC dI kA adK adV G H q wZ wN wH wB wC wL wK wU wV PI im PM PT (lD S0 lS) (lD (pset dB nl.toNatClampNeg (fun y => y = sv.toInt)) lB) (lD (pset dE nl.toNatClampNeg (fun y => y ≤ sv.toInt)) lE) lN o0 u306 en 23 hT hr_o0 m327 m322 (by have q8 := ti_all u306; omega) (by have q8 := ti_all en; omega) (by have := (show u306.toInt = u306.toInt from rfl); have := (show en.toInt = en.toInt from rfl); omega) (by first | omega | decide) hgz hgn hgh hgb hgc hgi hgu) (cwV 1 hts (goodIn_app (goodIn_r _ [64, 65, 66, 10] rfl (by decide +kernel)) (goodIn_ca (goodIn_r _ [63, 1, 2, 3, 4, 5, 6, 7, 8, 9, 10, 11, 12, 13, 14, 15, 16, 17, 20, 21, 22, 23, 24, 25, 26, 27, 28, 29, 30, 31, 32, 33, 34, 35, 36, 37, 38, 39, 40, 41, 42, 43, 44, 45, 46, 47, 48, 49, 50, 51, 52, 53, 54, 55] rfl (by decide +kernel)) (bs_in _ _))) rfl rfl rfl (by decide +kernel) ⟨(Nat.le_of_ble_eq_true rfl), (Nat.le_of_ble_eq_true rfl)⟩) ⟨fun a U g mk q => by obtain ⟨q0, q1, qK, qE⟩ := q; exact ⟨q0, q1, va_K.moved (u := U) (U := U.calling g mk a) (Vm.Alike.refl U.vm) qK, EVS.blind g mk a qE⟩, gH_rc hK hT hr_o0 shm_0 rfl, fun U hU hW => ⟨rfl, hU, va_K.moved hW.alike hK, hE.call hS hFc hU hW⟩⟩ rfl rfl hl.1 rfl (lv_room (Nat.le_of_ble_eq_true rfl)) dX12_readLine_176 ⟨(Nat.le_of_ble_eq_true rfl), (Nat.le_of_ble_eq_true rfl)⟩) hS (fun q _ h => hFc q h) hFc (fun r341 u t H locs ht hvm hw342 hB _ _ hS => ?_)
                  obtain ⟨u343, u344⟩ := u
                  obtain ⟨hT, hF1, m345, m346⟩ := hB
                  rw [ht] at hT hF1 m345 m346
                  have m347 := (hF1.fld hr_o0 skm_0 (k := 13) (by decide) (by decide)).trans m322
                  have m348 := (hF1.fld hr_o0 skm_0 (k := 28) (by decide) (by decide)).trans m323
                  have hF := hF.more hF1 (by decide)
                  try dsimp only at hw342
                  obtain ⟨h355, h356, h357, hi358, hf359⟩ := hw342
                  refine lv_if_eq (tgt := 196) hx hb dX12_readLine_179 (by decide) (fun c360 => ?_) (fun c360 => ?_)
                  · have t361 : r341.toInt = 0 := ti_eq c360 rfl (by decide)
                    refine lv_aload_n hx hb dX12_readLine_196 rfl (lv_at hl 1 rfl) ?_
                    refine tw_get hx hb hts bF_X12 hown hK hT hr_o0 shm_0 rfl 25 (by decide) (ht_at hts 60 rfl) (fun _ h9 => h9) dX12_readLine_197 (fun v9 m362 h9 => ?_)
                    obtain ⟨rfl, hg363⟩ := h9 _ rfl
                    refine lv_iload_n hx hb dX12_readLine_200 rfl (lv_at hl 0 rfl) ?_
                    refine lv_aload_n hx hb dX12_readLine_201 rfl (lv_at hl 1 rfl) ?_
                    refine tw_getM (v := .int sv) hx hb hts bF_X12 hown hK hT hr_o0 shm_0 rfl 28 (by decide) (ht_at hts 59 rfl) (fun _ h9 => h9) m348 dX12_readLine_202 ?_
                    have t364 : ((x15.toNatClampNeg : Nat) : Int) = x15.toInt := tn_of (show x15.toInt = x15.toInt from rfl) (by omega)
                    have t365 : ((nl.toNatClampNeg : Nat) : Int) = nl.toInt := tn_of rfl (by omega)
                    refine tw_iast2 (Sg1 := (SHm q (wP wZ wN wH wB wC wL wK wU wV) PI im PM PT (lD S0 lS) (lD (pset dB nl.toNatClampNeg (fun y => y = sv.toInt)) lB) (lD (pset (pset dE nl.toNatClampNeg (fun y => y ≤ sv.toInt)) nl.toNatClampNeg (fun y => y ≤ sv.toInt)) lE) lN)) (i := x15) (x := sv) hx hb hK hT hG hS hg42 shm_26 rfl shm_26 shm_o26 (fun b9 h9 => hgu b9 25 h9) (vin_t (a := x15.toInt) rfl (by omega) (by omega)) (⟨_, rfl, lb_hv (n := nl.toNatClampNeg) (by omega) (by omega) (by have q8 := ti_all sv; omega) (Int.le_refl _)⟩) (fun k9 hk9 hne9 v9 hv9 he9 => by obtain ⟨x9, rfl, p9⟩ := he9; exact ⟨x9, rfl, lb_hm (n := nl.toNatClampNeg) hk9 (by omega) p9⟩) dX12_readLine_205 (fun H locs hT oq m366 oi hS => ?_)
                    have hF := hF.ast hg42 skm_26 oq (by decide)
                    have m368 := (el_kept (oq _ (gne hr_o0 hg42 (by decide)))).trans m348
                    have m372 := (el_kept (oq _ (gne hr_o0 hg42 (by decide)))).trans m345
                    have m373 := (el_kept (oq _ (gne hr_o0 hg42 (by decide)))).trans m346
                    refine lv_iconst (v := 1) hx hb dX12_readLine_206 (by decide) ?_
                    exact W.zret (v := 1) hx hb hr (by decide) (fun t ht hW => ⟨⟨1, (u343, u344, sv, S0, (pset dB nl.toNatClampNeg (fun y => y = sv.toInt)), (pset (pset dE nl.toNatClampNeg (fun y => y ≤ sv.toInt)) nl.toNatClampNeg (fun y => y ≤ sv.toInt))), rfl, (by exact ⟨(by have q8 := ti_all u343; omega), (by have q8 := ti_all u344; omega), (by have q8 := ti_all sv; omega), (rg_t (a := 1) (by decide) (by first | decide | omega) (by first | decide | omega)), (fun _ => ⟨lw_next1 hlw, by omega⟩), (by omega)⟩), by (try dsimp only); rw [ht]; exact ⟨hT, hF, m372, m373, m368⟩⟩, hS.F ht⟩) hS.2.2 dX12_readLine_207
                  · have t374 : r341.toInt ≠ 0 := ti_ne c360 rfl (by decide)
                    have t375 : u306.toInt + 1 ≤ u343.toInt := hi358 ((bit_of ⟨by omega, by omega⟩).resolve_left c360)
                    refine lv_aload_n hx hb dX12_readLine_182 rfl (lv_at hl 1 rfl) ?_
                    refine lv_iconst (v := 0) hx hb dX12_readLine_183 (by decide) ?_
                    refine tw_put (v := .int 0) (ty := .int) hx hb hts bF_X12 tyX12 tyX12_ok nmX12 hown hK hT hG hS hr_o0 shm_0 rfl 15 (by decide) (ht_at hts 66 rfl) (fun _ h9 => h9) rfl (by decide +kernel) rfl rfl (gl_at rfl (gi_all _)) dX12_readLine_184 (fun H locs hT oq m376 oj hS => ?_)
                    have hF := hF.put hr_o0 skm_0 oq oj (by decide)
                    have m377 := (oj 13 (by decide) (by decide)).trans m347
                    have m378 := (oj 28 (by decide) (by decide)).trans m348
                    have m383 := (oj 12 (by decide) (by decide)).trans m345
                    have hT : gH (dC, dI) kA (SHm q (wP wZ wN wH wB wC wL wK wU wV) PI im PM PT (lD (dS S0 sv.toInt sv.toInt (fun _ => 0)) lS) (lD (pset dB nl.toNatClampNeg (fun y => y = sv.toInt)) lB) (lD (pset dE nl.toNatClampNeg (fun y => y ≤ sv.toInt)) lE) lN) G H := SHm_mono hT (fun _ _ _ z => z) (fun _ _ _ z => z) (fun _ _ z => z) (fun _ _ z => z) (lD_m (fun _ _ q => ⟨q, fun a b => by omega⟩)) (fun _ _ _ _ z => z) (fun _ _ _ _ z => z) (fun _ => Int.le_refl _)
                    refine lv_aload_n hx hb dX12_readLine_187 rfl (lv_at hl 1 rfl) ?_
                    have hFc := gA_free hG hA hS
                    refine va_calli (va_runV (As := []) (rest := []) ⟨hx, hb, hml, hown, hts⟩ (s_readCond0 l dC dI kA adK adV G H q wZ wN wH wB wC wL wK wU wV PI im PM PT lS (lD (pset dB nl.toNatClampNeg (fun y => y = sv.toInt)) lB) (lD (pset dE nl.toNatClampNeg (fun y => y ≤ sv.toInt)) lE) lN o0 u343 en sv 0 S0 sv.toInt (fun _ => 0) hT hr_o0 m383 m377 m378 m376 (by have q8 := ti_all u343; omega) (by have q8 := ti_all en; omega) (by have q8 := ti_all sv; omega) (by have := (show u343.toInt = u343.toInt from rfl); have := (show en.toInt = en.toInt from rfl); omega) (by have := (show sv.toInt = sv.toInt from rfl); have := (show u343.toInt = u343.toInt from rfl); omega) hlw.1 (by have := (show sv.toInt = sv.toInt from rfl); omega) ⟨fun i => by show (0 : Int) ≤ (i : Int); omega, rfl⟩ (Int.le_refl 0) (rg_t (a := 0) (by decide) (by first | decide | omega) (by first | decide | omega)) hgz hgn hgh hgb hgc hgi hgu) (cwV 0 hts (goodIn_app (goodIn_r _ [103, 104, 105, 10] rfl (by decide +kernel)) (goodIn_ca (goodIn_r _ [68, 69, 70, 71, 2, 3, 4, 5, 6, 7, 8, 9, 10, 11, 12, 13, 14, 72, 73, 74, 63, 1, 15, 16, 17, 20, 21, 22, 23, 24, 25, 26, 27, 28, 29, 30, 31, 32, 33, 34, 35, 36, 37, 38, 39, 40, 41, 42, 43, 44, 45, 46, 47, 48, 49, 50, 51, 52, 53, 54, 55, 64, 65, 66, 75, 76, 77, 78, 79, 80, 81, 82, 83, 60, 84, 85, 86, 87, 88, 89, 90, 91, 92, 93, 94, 95, 96, 67, 97, 98, 99, 68, 100, 101, 102, 103, 104, 105] rfl (by decide +kernel)) (bs_in _ _))) rfl rfl rfl (by decide +kernel) ⟨(Nat.le_of_ble_eq_true rfl), (Nat.le_of_ble_eq_true rfl)⟩) ⟨fun a U g mk q => by obtain ⟨q0, q1, qK, qE⟩ := q; exact ⟨q0, q1, va_K.moved (u := U) (U := U.calling g mk a) (Vm.Alike.refl U.vm) qK, EVS.blind g mk a qE⟩, gH_rc hK hT hr_o0 shm_0 rfl, fun U hU hW => ⟨rfl, hU, va_K.moved hW.alike hK, hE.call hS hFc hU hW⟩⟩ rfl rfl hl.1 rfl (lv_room (Nat.le_of_ble_eq_true rfl)) dX12_readLine_188 ⟨(Nat.le_of_ble_eq_true rfl), (Nat.le_of_ble_eq_true rfl)⟩) hS (fun q _ h => hFc q h) hFc (fun r385 u t H locs ht hvm hw386 hB _ _ hS => ?_)
                    obtain ⟨u387, u388, u389, u390, u391⟩ := u
                    obtain ⟨hT, hF1, m392, m393, m394, m395⟩ := hB
                    rw [ht] at hT hF1 m392 m393 m394 m395
                    have hF := hF.more hF1 (by decide)
                    try dsimp only at hw386
                    obtain ⟨h405, h406, h407, h408, hi409, hi410, hf411, hf412⟩ := hw386
                    refine lv_if_ne (tgt := 196) hx hb dX12_readLine_191 (by decide) (fun c413 => ?_) (fun c413 => ?_)
                    · have t414 : r385.toInt ≠ 0 := ti_ne c413 rfl (by decide)
                      have t415 : u391 u389.toNatClampNeg = (fun _ => 0) sv.toNatClampNeg + 1 := hi409 ((bit_of ⟨by omega, by omega⟩).resolve_left c413)
                      have t416 : u390.toInt = 0 := hi410 ((bit_of ⟨by omega, by omega⟩).resolve_left c413)
                      refine lv_aload_n hx hb dX12_readLine_196 rfl (lv_at hl 1 rfl) ?_
                      refine tw_get hx hb hts bF_X12 hown hK hT hr_o0 shm_0 rfl 25 (by decide) (ht_at hts 60 rfl) (fun _ h9 => h9) dX12_readLine_197 (fun v9 m417 h9 => ?_)
                      obtain ⟨rfl, hg418⟩ := h9 _ rfl
                      refine lv_iload_n hx hb dX12_readLine_200 rfl (lv_at hl 0 rfl) ?_
                      refine lv_aload_n hx hb dX12_readLine_201 rfl (lv_at hl 1 rfl) ?_
                      refine tw_getM (v := .int u389) hx hb hts bF_X12 hown hK hT hr_o0 shm_0 rfl 28 (by decide) (ht_at hts 59 rfl) (fun _ h9 => h9) m394 dX12_readLine_202 ?_
                      have t419 : ((x15.toNatClampNeg : Nat) : Int) = x15.toInt := tn_of (show x15.toInt = x15.toInt from rfl) (by omega)
                      have t420 : ((nl.toNatClampNeg : Nat) : Int) = nl.toInt := tn_of rfl (by omega)
                      refine tw_iast2 (Sg1 := (SHm q (wP wZ wN wH wB wC wL wK wU wV) PI im PM PT (lD (dS S0 sv.toInt u389.toInt u391) lS) (lD (pset dB nl.toNatClampNeg (fun y => y = sv.toInt)) lB) (lD (pset (pset dE nl.toNatClampNeg (fun y => y ≤ sv.toInt)) nl.toNatClampNeg (fun y => y ≤ u389.toInt)) lE) lN)) (i := x15) (x := u389) hx hb hK hT hG hS hg42 shm_26 rfl shm_26 shm_o26 (fun b9 h9 => hgu b9 25 h9) (vin_t (a := x15.toInt) rfl (by omega) (by omega)) (⟨_, rfl, lb_hv (n := nl.toNatClampNeg) (by omega) (by omega) (by have q8 := ti_all u389; omega) (Int.le_refl _)⟩) (fun k9 hk9 hne9 v9 hv9 he9 => by obtain ⟨x9, rfl, p9⟩ := he9; exact ⟨x9, rfl, lb_hm (n := nl.toNatClampNeg) hk9 (by omega) p9⟩) dX12_readLine_205 (fun H locs hT oq m421 oi hS => ?_)
                      have hF := hF.ast hg42 skm_26 oq (by decide)
                      have m426 := (el_kept (oq _ (gne hr_o0 hg42 (by decide)))).trans m392
                      have m427 := (el_kept (oq _ (gne hr_o0 hg42 (by decide)))).trans m393
                      have m428 := (el_kept (oq _ (gne hr_o0 hg42 (by decide)))).trans m394
                      refine lv_iconst (v := 1) hx hb dX12_readLine_206 (by decide) ?_
                      exact W.zret (v := 1) hx hb hr (by decide) (fun t ht hW => ⟨⟨1, (u387, u388, u389, (dS S0 sv.toInt u389.toInt u391), (pset dB nl.toNatClampNeg (fun y => y = sv.toInt)), (pset (pset dE nl.toNatClampNeg (fun y => y ≤ sv.toInt)) nl.toNatClampNeg (fun y => y ≤ u389.toInt))), rfl, (by exact ⟨(by have q8 := ti_all u387; omega), (by have q8 := ti_all u388; omega), (by have q8 := ti_all u389; omega), (rg_t (a := 1) (by decide) (by first | decide | omega) (by first | decide | omega)), (fun _ => ⟨lw_next hlw hf412 (by omega), by omega⟩), (by omega)⟩), by (try dsimp only); rw [ht]; exact ⟨hT, hF, m426, m427, m428⟩⟩, hS.F ht⟩) hS.2.2 dX12_readLine_207
                    · have t430 : r385.toInt = 0 := ti_eq c413 rfl (by decide)
                      refine lv_iconst (v := 0) hx hb dX12_readLine_194 (by decide) ?_
                      exact W.zret (v := 0) hx hb hr (by decide) (fun t ht hW => ⟨⟨0, (u387, u388, u389, (dS S0 sv.toInt u389.toInt u391), (pset dB nl.toNatClampNeg (fun y => y = sv.toInt)), (pset dE nl.toNatClampNeg (fun y => y ≤ sv.toInt))), rfl, (by exact ⟨(by have q8 := ti_all u387; omega), (by have q8 := ti_all u388; omega), (by have q8 := ti_all u389; omega), (rg_t (a := 0) (by decide) (by first | decide | omega) (by first | decide | omega)), (fun h => absurd h (by decide)), (by omega)⟩), by (try dsimp only); rw [ht]; exact ⟨hT, hF, m392, m393, m394⟩⟩, hS.F ht⟩) hS.2.2 dX12_readLine_195
                · have t431 : 6 < r19.toInt := ti_nle c339 rfl (by decide)
                  refine lv_iconst (v := 1) hx hb dX12_readLine_170 (by decide) ?_
                  exact W.zret (v := 1) hx hb hr (by decide) (fun t ht hW => ⟨⟨1, (u306, u307, sv, S0, (pset dB nl.toNatClampNeg (fun y => y = sv.toInt)), (pset dE nl.toNatClampNeg (fun y => y ≤ sv.toInt))), rfl, (by exact ⟨(by have q8 := ti_all u306; omega), (by have q8 := ti_all u307; omega), (by have q8 := ti_all sv; omega), (rg_t (a := 1) (by decide) (by first | decide | omega) (by first | decide | omega)), (fun _ => ⟨lw_next0 hlw, by omega⟩), (by omega)⟩), by (try dsimp only); rw [ht]; exact ⟨hT, hF, m327, m328, m323⟩⟩, hS.F ht⟩) hS.2.2 dX12_readLine_171
              · have t432 : r304.toInt < 0 := ti_nle c333 (by decide) rfl
                refine lv_iconst (v := 0) hx hb dX12_readLine_157 (by decide) ?_
                exact W.zret (v := 0) hx hb hr (by decide) (fun t ht hW => ⟨⟨0, (u306, u307, sv, S0, (pset dB nl.toNatClampNeg (fun y => y = sv.toInt)), (pset dE nl.toNatClampNeg (fun y => y ≤ sv.toInt))), rfl, (by exact ⟨(by have q8 := ti_all u306; omega), (by have q8 := ti_all u307; omega), (by have q8 := ti_all sv; omega), (rg_t (a := 0) (by decide) (by first | decide | omega) (by first | decide | omega)), (fun h => absurd h (by decide)), (by omega)⟩), by (try dsimp only); rw [ht]; exact ⟨hT, hF, m327, m328, m323⟩⟩, hS.F ht⟩) hS.2.2 dX12_readLine_158
            refine lv_icmp_ne (tgt := 125) hx hb dX12_readLine_117 (by decide) (fun c433 => ?_) (fun c433 => ?_)
            · have t434 : r19.toInt ≠ 8 := ti_ne c433 rfl (by decide)
              refine lv_aload_n hx hb dX12_readLine_125 rfl (lv_at hl 1 rfl) ?_
              refine tw_get hx hb hts bF_X12 hown hK hT hr_o0 shm_0 rfl 19 (by decide) (ht_at hts 17 rfl) (fun _ h9 => h9) dX12_readLine_126 (fun v9 m435 h9 => ?_)
              obtain ⟨rfl, hg436⟩ := h9 _ rfl
              refine lv_iload_n hx hb dX12_readLine_129 rfl (lv_at hl 0 rfl) ?_
              refine tw_iald (i := x15) hx hb hK hT hg18 shm_20 rfl (vin_t (a := x15.toInt) rfl (by omega) (by omega)) dX12_readLine_130 (fun v9 m437 h9 => ?_)
              obtain ⟨x438, rfl, gx438, kx438⟩ := h9
              obtain rfl : r19 = x438 := (el_same m437 m59 rfl).symm
              refine lv_bipush (v := 9) hx hb dX12_readLine_131 (by decide) ?_
              refine lv_icmp_ne (tgt := 141) hx hb dX12_readLine_133 (by decide) (fun c439 => ?_) (fun c439 => ?_)
              · have t440 : r19.toInt ≠ 9 := ti_ne c439 rfl (by decide)
                refine lv_ldcw (v := 99999) hx hb hown (ht_at hts 76 rfl) dX12_readLine_141 ?_
                exact jn303 99999 (rg_t (a := 99999) (by decide) (by first | decide | omega) (by first | decide | omega)) _ _ hT hF hS m55 m56 m57 m58 m59 m60 m61 m54 ls (lv_sub hl [0, 1, 2] rfl)
              · have t441 : r19.toInt = 9 := ti_eq c439 rfl (by decide)
                refine lv_bipush (v := 18) hx hb dX12_readLine_136 (by decide) ?_
                refine lv_goto (tgt := 144) hx hb dX12_readLine_138 (by decide) ?_
                exact jn303 18 (rg_t (a := 18) (by decide) (by first | decide | omega) (by first | decide | omega)) _ _ hT hF hS m55 m56 m57 m58 m59 m60 m61 m54 ls (lv_sub hl [0, 1, 2] rfl)
            · have t442 : r19.toInt = 8 := ti_eq c433 rfl (by decide)
              refine lv_bipush (v := 100) hx hb dX12_readLine_120 (by decide) ?_
              refine lv_goto (tgt := 144) hx hb dX12_readLine_122 (by decide) ?_
              exact jn303 100 (rg_t (a := 100) (by decide) (by first | decide | omega) (by first | decide | omega)) _ _ hT hF hS m55 m56 m57 m58 m59 m60 m61 m54 ls (lv_sub hl [0, 1, 2] rfl)
      · have t443 : r19.toInt = 7 := ti_eq c72 rfl (by decide)
        refine lv_aload_n hx hb dX12_readLine_76 rfl (lv_at hl 1 rfl) ?_
        refine lv_iload_n hx hb dX12_readLine_77 rfl (lv_at hl 0 rfl) ?_
        have hFc := gA_free hG hA hS
        refine va_calli (va_runV (As := [.int x15]) (rest := []) ⟨hx, hb, hml, hown, hts⟩ (s_readLevel l dC dI kA adK adV G H q wZ wN wH wB wC wL wK wU wV PI im PM PT (lD S0 lS) (lD (pset dB nl.toNatClampNeg (fun y => y = sv.toInt)) lB) (lD (pset dE nl.toNatClampNeg (fun y => y ≤ sv.toInt)) lE) lN o0 x15 u3 en hT hr_o0 m57 m55 (by have q8 := ti_all u3; omega) (by have q8 := ti_all en; omega) (by have := (show u3.toInt = u3.toInt from rfl); have := (show en.toInt = en.toInt from rfl); omega) (by have q8 := ti_all x15; omega) hgz hgn hgh hgb hgc hgi hgu) (cwV 1 hts (goodIn_app (goodIn_r _ [110, 111, 112, 10] rfl (by decide +kernel)) (goodIn_ca (goodIn_r _ [106, 62, 78, 2, 3, 4, 5, 6, 7, 8, 9, 10, 11, 12, 13, 14, 79, 80, 81, 107, 1, 15, 16, 17, 20, 21, 22, 23, 24, 25, 26, 27, 28, 29, 30, 31, 32, 33, 34, 35, 36, 37, 38, 39, 40, 41, 42, 43, 44, 45, 46, 47, 48, 49, 50, 51, 52, 53, 54, 55, 108, 109] rfl (by decide +kernel)) (bs_in _ _))) rfl rfl rfl (by decide +kernel) ⟨(Nat.le_of_ble_eq_true rfl), (Nat.le_of_ble_eq_true rfl)⟩) ⟨fun a U g mk q => by obtain ⟨q0, q1, qK, qE⟩ := q; exact ⟨q0, q1, va_K.moved (u := U) (U := U.calling g mk a) (Vm.Alike.refl U.vm) qK, EVS.blind g mk a qE⟩, gH_rc hK hT hr_o0 shm_0 rfl, fun U hU hW => ⟨rfl, hU, va_K.moved hW.alike hK, hE.call hS hFc hU hW⟩⟩ rfl rfl hl.1 rfl (lv_room (Nat.le_of_ble_eq_true rfl)) dX12_readLine_78 ⟨(Nat.le_of_ble_eq_true rfl), (Nat.le_of_ble_eq_true rfl)⟩) hS (fun q _ h => hFc q h) hFc (fun r444 u t H locs ht hvm hw445 hB _ _ hS => ?_)
        obtain ⟨u446, u447⟩ := u
        obtain ⟨hT, hF1, m448, m449⟩ := hB
        rw [ht] at hT hF1 m448 m449
        have m451 := (hF1.fld hr_o0 skm_0 (k := 28) (by decide) (by decide)).trans m56
        have hF := hF.more hF1 (by decide)
        try dsimp only at hw445
        obtain ⟨h458, h459, h460, hf461⟩ := hw445
        exact W.zret (v := r444) hx hb hr (nar_b (by have q8 := ti_all r444; omega)) (fun t ht hW => ⟨⟨r444, (u446, u447, sv, S0, (pset dB nl.toNatClampNeg (fun y => y = sv.toInt)), (pset dE nl.toNatClampNeg (fun y => y ≤ sv.toInt))), rfl, (by exact ⟨(by have q8 := ti_all u446; omega), (by have q8 := ti_all u447; omega), (by have q8 := ti_all sv; omega), (by have q8 := ti_all r444; omega), (fun _ => ⟨lw_next0 hlw, by omega⟩), (by omega)⟩), by (try dsimp only); rw [ht]; exact ⟨hT, hF, m448, m449, m451⟩⟩, hS.F ht⟩) hS.2.2 dX12_readLine_81
    · have t462 : r19.toInt < 0 := ti_nle c66 (by decide) rfl
      refine lv_iconst (v := 0) hx hb dX12_readLine_63 (by decide) ?_
      exact W.zret (v := 0) hx hb hr (by decide) (fun t ht hW => ⟨⟨0, (u3, u4, sv, S0, (pset dB nl.toNatClampNeg (fun y => y = sv.toInt)), (pset dE nl.toNatClampNeg (fun y => y ≤ sv.toInt))), rfl, (by exact ⟨(by have q8 := ti_all u3; omega), (by have q8 := ti_all u4; omega), (by have q8 := ti_all sv; omega), (rg_t (a := 0) (by decide) (by first | decide | omega) (by first | decide | omega)), (fun h => absurd h (by decide)), (by omega)⟩), by (try dsimp only); rw [ht]; exact ⟨hT, hF, m57, m58, m56⟩⟩, hS.F ht⟩) hS.2.2 dX12_readLine_64
  · have t463 : nl.toInt = 20 := ti_eq c13 rfl (by decide)
    refine lv_iconst (v := 0) hx hb dX12_readLine_10 (by decide) ?_
    exact W.zret (v := 0) hx hb hr (by decide) (fun t ht hW => ⟨⟨0, (u3, u4, sv, S0, dB, dE), rfl, (by exact ⟨(by have q8 := ti_all u3; omega), (by have q8 := ti_all u4; omega), (by have q8 := ti_all sv; omega), (rg_t (a := 0) (by decide) (by first | decide | omega) (by first | decide | omega)), (fun h => absurd h (by decide)), (by omega)⟩), by (try dsimp only); rw [ht]; exact ⟨hT, hF, m5, m6, m9⟩⟩, hS.F ht⟩) hS.2.2 dX12_readLine_11
